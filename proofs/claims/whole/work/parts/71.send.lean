theorem pm_mid {α : Type} (B T C : List α) : ((B ++ T) ++ C).Perm ((B ++ C) ++ T) := by
  rw [List.append_assoc, List.append_assoc]
  exact List.Perm.append_left B List.perm_append_comm
noncomputable def f_PC_send_r  : Int32 := -1
set_option maxRecDepth 100000 in
set_option maxHeartbeats 4000000 in
theorem c_PC_send_r (l : Launch) (D : va_G) (cA : Nat → ClassId) (pc : Nat) (tx : Nat) (ca : Nat) (te : Nat) (hh : Nat) (hp : Nat) (qu : Nat) (sp : Nat) (pl : Int32) (ap : Int32) (hs : Nat) (g : Nat → Int32) (hq : Nat) (c : Nat) (mq : Int32) (x : Int32) (hb9 : f_PC_isWithin x 0 2 = 0 ∨ g 2 = 0 ∨ c = 0) : ct_R l D cA yn_PC_send cd_PC_send 3 [.ref pc, .int x] [(pc, .inr (7, [.ref tx, .ref ca, .ref te, .ref hh, .ref hp, .ref qu, .ref sp, .int pl, .int ap])), (te, .inr (1, [.ref hs])), (hs, .inl (cA 0, 7, .inl g)), (qu, .inr (8, [.ref hq, .int (nI c), .int mq]))] (fun v_ => v_ = some (.int f_PC_send_r)) := by
  refine gw_metR (by decide) rfl (Nat.le_of_ble_eq_true rfl) ?_
  intro p_ e_ s_ m_ args_ below_ meth_ c_ S g_r g_k hK
  refine gw_eq (ws' := [(pc, .inr (7, [.ref tx, .ref ca, .ref te, .ref hh, .ref hp, .ref qu, .ref sp, .int pl, .int ap])), (te, .inr (1, [.ref hs])), (hs, .inl (cA 0, 7, .inl g)), (qu, .inr (8, [.ref hq, .int (nI c), .int mq]))]) (lv' := [(0, .ref pc), (1, .int x)]) (st' := []) (pc' := 0) rfl rfl rfl rfl ?_
  refine gw_iload_n S dc_PC_send_0 rfl 1 rfl ?_
  refine gw_iconst (v := 0) S dc_PC_send_1 (by decide) ?_
  refine gw_iconst (v := 2) S dc_PC_send_2 (by decide) ?_
  refine gw_callSR (As := [.int x, .int 0, .int 2]) (st := []) S hK (c_PC_isWithin l D cA x 0 2 ) (cw_PC_61 S.2.2.2.2 rfl rfl ⟨Nat.le_of_ble_eq_true rfl, Nat.le_of_ble_eq_true rfl⟩) [] rfl (by decide) rfl rfl (Nat.le_of_ble_eq_true rfl) dc_PC_send_3 ⟨Nat.le_of_ble_eq_true rfl, Nat.le_of_ble_eq_true rfl⟩ ?_
  rintro _ rfl
  refine gw_eq (ws' := [(pc, .inr (7, [.ref tx, .ref ca, .ref te, .ref hh, .ref hp, .ref qu, .ref sp, .int pl, .int ap])), (te, .inr (1, [.ref hs])), (hs, .inl (cA 0, 7, .inl g)), (qu, .inr (8, [.ref hq, .int (nI c), .int mq]))]) (lv' := [(0, .ref pc), (1, .int x)]) (st' := [.int (f_PC_isWithin x 0 2)]) (pc' := 6) rfl rfl rfl rfl ?_
  refine gw_if_eq (tgt := 29) S dc_PC_send_6 (by decide) (fun c_2 => ?_) (fun c_2 => ?_)
  · -- taken
    refine gw_iconst (v := -1) S dc_PC_send_29 (by decide) ?_
    exact gw_iretR S g_r g_k  (by simp only [f_PC_send_r, if_pos c_2]) dc_PC_send_30
  · -- not
    refine gw_aload_n S dc_PC_send_9 rfl 0 rfl ?_
    refine gw_get S hK.1 ic_PC rfl 2 (by decide) (gw_lk S mw_247) 0 rfl rfl dc_PC_send_10 ?_
    refine gw_callVR (As := []) (st := []) S hK (c_Term_isConnected l D cA te hs g ) (cw_PC_142 S.2.2.2.2 rfl rfl ⟨Nat.le_of_ble_eq_true rfl, Nat.le_of_ble_eq_true rfl⟩) [1, 2] rfl (by decide) 0 rfl rfl rfl rfl rfl (Nat.le_of_ble_eq_true rfl) dc_PC_send_13 ⟨Nat.le_of_ble_eq_true rfl, Nat.le_of_ble_eq_true rfl⟩ ?_
    rintro _ rfl
    refine gw_eq (ws' := [(pc, .inr (7, [.ref tx, .ref ca, .ref te, .ref hh, .ref hp, .ref qu, .ref sp, .int pl, .int ap])), (te, .inr (1, [.ref hs])), (hs, .inl (cA 0, 7, .inl g)), (qu, .inr (8, [.ref hq, .int (nI c), .int mq]))]) (lv' := [(0, .ref pc), (1, .int x)]) (st' := [.int (f_Term_isConnected g)]) (pc' := 16) rfl rfl rfl rfl ?_
    refine gw_if_eq (tgt := 29) S dc_PC_send_16 (by decide) (fun c_4 => ?_) (fun c_4 => ?_)
    · -- taken
      refine gw_iconst (v := -1) S dc_PC_send_29 (by decide) ?_
      exact gw_iretR S g_r g_k  (by simp only [f_PC_send_r, if_neg c_2, if_pos c_4]) dc_PC_send_30
    · -- not
      refine gw_aload_n S dc_PC_send_19 rfl 0 rfl ?_
      refine gw_get S hK.1 ic_PC rfl 5 (by decide) (gw_lk S mw_250) 0 rfl rfl dc_PC_send_20 ?_
      refine gw_callVR (As := []) (st := []) S hK (c_AL_isEmpty l D cA qu hq c mq ) (cw_PC_146 S.2.2.2.2 rfl rfl ⟨Nat.le_of_ble_eq_true rfl, Nat.le_of_ble_eq_true rfl⟩) [3] rfl (by decide) 0 rfl rfl rfl rfl rfl (Nat.le_of_ble_eq_true rfl) dc_PC_send_23 ⟨Nat.le_of_ble_eq_true rfl, Nat.le_of_ble_eq_true rfl⟩ ?_
      rintro _ rfl
      refine gw_eq (ws' := [(pc, .inr (7, [.ref tx, .ref ca, .ref te, .ref hh, .ref hp, .ref qu, .ref sp, .int pl, .int ap])), (te, .inr (1, [.ref hs])), (hs, .inl (cA 0, 7, .inl g)), (qu, .inr (8, [.ref hq, .int (nI c), .int mq]))]) (lv' := [(0, .ref pc), (1, .int x)]) (st' := [.int (f_AL_isEmpty c)]) (pc' := 26) rfl rfl rfl rfl ?_
      refine gw_if_eq (tgt := 31) S dc_PC_send_26 (by decide) (fun c_6 => ?_) (fun c_6 => ?_)
      · -- taken
        rcases hb9 with q | q | q
        · exact absurd q c_2
        · exact absurd ((ic_0 g).mpr q) c_4
        · subst q; exact absurd c_6 (by decide)
      · -- not
        refine gw_iconst (v := -1) S dc_PC_send_29 (by decide) ?_
        exact gw_iretR S g_r g_k  (by simp only [f_PC_send_r, if_neg c_2, if_neg c_4, if_neg c_6]) dc_PC_send_30
theorem ie_0 {c : Nat} (h : 0 < c) (h2 : c ≤ 6) : f_AL_isEmpty c = 0 := by
  unfold f_AL_isEmpty
  rw [if_neg (nI_ne0 h (by omega))]
set_option maxRecDepth 100000 in
set_option maxHeartbeats 4000000 in
theorem c_PC_send_1 (l : Launch) (D : va_G) (cA : Nat → ClassId) (pc : Nat) (tx : Nat) (ca : Nat) (te : Nat) (hh : Nat) (hp : Nat) (qu : Nat) (sp : Nat) (pl : Int32) (ap : Int32) (hs : Nat) (g : Nat → Int32) (hq : Nat) (c : Nat) (mq : Int32) (hc2 : ¬ g 2 = 0) (hq0 : 0 < c) (hq9 : c ≤ 6) : ct_R l D cA yn_PC_send cd_PC_send 3 [.ref pc, .int 1] [(pc, .inr (7, [.ref tx, .ref ca, .ref te, .ref hh, .ref hp, .ref qu, .ref sp, .int pl, .int ap])), (te, .inr (1, [.ref hs])), (hs, .inl (cA 0, 7, .inl g)), (qu, .inr (8, [.ref hq, .int (nI c), .int mq]))] (fun v_ => v_ = some (.int 0)) := by
  refine gw_metR (by decide) rfl (Nat.le_of_ble_eq_true rfl) ?_
  intro p_ e_ s_ m_ args_ below_ meth_ c_ S g_r g_k hK
  refine gw_eq (ws' := [(pc, .inr (7, [.ref tx, .ref ca, .ref te, .ref hh, .ref hp, .ref qu, .ref sp, .int pl, .int ap])), (te, .inr (1, [.ref hs])), (hs, .inl (cA 0, 7, .inl g)), (qu, .inr (8, [.ref hq, .int (nI c), .int mq]))]) (lv' := [(0, .ref pc), (1, .int 1)]) (st' := []) (pc' := 0) rfl rfl rfl rfl ?_
  refine gw_iload_n S dc_PC_send_0 rfl 1 rfl ?_
  refine gw_iconst (v := 0) S dc_PC_send_1 (by decide) ?_
  refine gw_iconst (v := 2) S dc_PC_send_2 (by decide) ?_
  refine gw_callSR (As := [.int 1, .int 0, .int 2]) (st := []) S hK (c_PC_isWithin l D cA 1 0 2 ) (cw_PC_61 S.2.2.2.2 rfl rfl ⟨Nat.le_of_ble_eq_true rfl, Nat.le_of_ble_eq_true rfl⟩) [] rfl (by decide) rfl rfl (Nat.le_of_ble_eq_true rfl) dc_PC_send_3 ⟨Nat.le_of_ble_eq_true rfl, Nat.le_of_ble_eq_true rfl⟩ ?_
  rintro _ rfl
  refine gw_eq (ws' := [(pc, .inr (7, [.ref tx, .ref ca, .ref te, .ref hh, .ref hp, .ref qu, .ref sp, .int pl, .int ap])), (te, .inr (1, [.ref hs])), (hs, .inl (cA 0, 7, .inl g)), (qu, .inr (8, [.ref hq, .int (nI c), .int mq]))]) (lv' := [(0, .ref pc), (1, .int 1)]) (st' := [.int (f_PC_isWithin 1 0 2)]) (pc' := 6) rfl rfl rfl rfl ?_
  refine gw_if_eq (tgt := 29) S dc_PC_send_6 (by decide) (fun c_2 => ?_) (fun c_2 => ?_)
  · -- taken
    exact absurd c_2 (by decide)
  · -- not
    refine gw_aload_n S dc_PC_send_9 rfl 0 rfl ?_
    refine gw_get S hK.1 ic_PC rfl 2 (by decide) (gw_lk S mw_247) 0 rfl rfl dc_PC_send_10 ?_
    refine gw_callVR (As := []) (st := []) S hK (c_Term_isConnected l D cA te hs g ) (cw_PC_142 S.2.2.2.2 rfl rfl ⟨Nat.le_of_ble_eq_true rfl, Nat.le_of_ble_eq_true rfl⟩) [1, 2] rfl (by decide) 0 rfl rfl rfl rfl rfl (Nat.le_of_ble_eq_true rfl) dc_PC_send_13 ⟨Nat.le_of_ble_eq_true rfl, Nat.le_of_ble_eq_true rfl⟩ ?_
    rintro _ rfl
    refine gw_eq (ws' := [(pc, .inr (7, [.ref tx, .ref ca, .ref te, .ref hh, .ref hp, .ref qu, .ref sp, .int pl, .int ap])), (te, .inr (1, [.ref hs])), (hs, .inl (cA 0, 7, .inl g)), (qu, .inr (8, [.ref hq, .int (nI c), .int mq]))]) (lv' := [(0, .ref pc), (1, .int 1)]) (st' := [.int (f_Term_isConnected g)]) (pc' := 16) rfl rfl rfl rfl ?_
    refine gw_if_eq (tgt := 29) S dc_PC_send_16 (by decide) (fun c_4 => ?_) (fun c_4 => ?_)
    · -- taken
      exact absurd ((ic_0 g).mp c_4) hc2
    · -- not
      refine gw_aload_n S dc_PC_send_19 rfl 0 rfl ?_
      refine gw_get S hK.1 ic_PC rfl 5 (by decide) (gw_lk S mw_250) 0 rfl rfl dc_PC_send_20 ?_
      refine gw_callVR (As := []) (st := []) S hK (c_AL_isEmpty l D cA qu hq c mq ) (cw_PC_146 S.2.2.2.2 rfl rfl ⟨Nat.le_of_ble_eq_true rfl, Nat.le_of_ble_eq_true rfl⟩) [3] rfl (by decide) 0 rfl rfl rfl rfl rfl (Nat.le_of_ble_eq_true rfl) dc_PC_send_23 ⟨Nat.le_of_ble_eq_true rfl, Nat.le_of_ble_eq_true rfl⟩ ?_
      rintro _ rfl
      refine gw_eq (ws' := [(pc, .inr (7, [.ref tx, .ref ca, .ref te, .ref hh, .ref hp, .ref qu, .ref sp, .int pl, .int ap])), (te, .inr (1, [.ref hs])), (hs, .inl (cA 0, 7, .inl g)), (qu, .inr (8, [.ref hq, .int (nI c), .int mq]))]) (lv' := [(0, .ref pc), (1, .int 1)]) (st' := [.int (f_AL_isEmpty c)]) (pc' := 26) rfl rfl rfl rfl ?_
      refine gw_if_eq (tgt := 31) S dc_PC_send_26 (by decide) (fun c_6 => ?_) (fun c_6 => ?_)
      · -- taken
        refine gw_iload_n S dc_PC_send_31 rfl 1 rfl ?_
        refine gw_iconst (v := 1) S dc_PC_send_32 (by decide) ?_
        refine gw_icmp_ne (tgt := 38) S dc_PC_send_33 (by decide) (fun c_7 => by exact absurd c_7 (by decide)) (fun c_7 => ?_)
        refine gw_iconst (v := 0) S dc_PC_send_36 (by decide) ?_
        exact gw_iretR S g_r g_k  (by simp only [if_neg c_2, if_neg c_4, if_pos c_6]) dc_PC_send_37
      · -- not
        exact absurd (ie_0 hq0 hq9) c_6
set_option maxRecDepth 100000 in
set_option maxHeartbeats 4000000 in
theorem c_PC_send_2 (l : Launch) (D : va_G) (cA : Nat → ClassId) (sz : Nat) (pc : Nat) (tx : Nat) (ca : Nat) (te : Nat) (hh : Nat) (hp : Nat) (qu : Nat) (sp : Nat) (pl : Int32) (ap : Int32) (hs : Nat) (g : Nat → Int32) (hq : Nat) (c : Nat) (mq : Int32) (fq : Nat → Option Nat) (h1 : Nat) (h2 : Nat) (h3 : Nat) (sd : Int32) (b : Nat → Int64) (rv : Nat) (vn : Int32) (va : Int32) (vm : Int32) (vd : Int32) (hc2 : ¬ g 2 = 0) (hq0 : 0 < c) (hq9 : c ≤ 6) (hf : fq 0 = some rv) : ct_M l D cA yn_PC_send cd_PC_send 6 0 0 sz [.ref pc, .int 2] [(pc, .inr (7, [.ref tx, .ref ca, .ref te, .ref hh, .ref hp, .ref qu, .ref sp, .int pl, .int ap])), (te, .inr (1, [.ref hs])), (hs, .inl (cA 0, 7, .inl g)), (qu, .inr (8, [.ref hq, .int (nI c), .int mq])), (hq, .inl (cA 4, 10, .inr (.inr (.inr (.inr fq))))), (hh, .inr (2, [.ref h1, .ref h2, .ref h3, .int sd])), (h1, .inl (cA 1, 8, .inr (.inl b))), (rv, .inr (6, [.int vn, .int va, .int vm, .int vd]))] (fun v_ w_ => v_ = some (.int 0) ∧ w_ = [(pc, .inr (7, [.ref tx, .ref ca, .ref te, .ref hh, .ref hp, .ref qu, .ref sp, .int pl, .int ap])), (te, .inr (1, [.ref hs])), (hs, .inl (cA 0, 7, .inl g)), (qu, .inr (8, [.ref hq, .int (nI c), .int mq])), (hq, .inl (cA 4, 10, .inr (.inr (.inr (.inr fq))))), (hh, .inr (2, [.ref h1, .ref h2, .ref h3, .int (f_Host_reverse_standing sd va vd)])), (h1, .inl (cA 1, 8, .inr (.inl (f_Host_reverse_1 b va vm vd)))), (rv, .inr (6, [.int vn, .int va, .int vm, .int (f_Host_reverse_isDue va vd)]))]) := by
  refine gw_met (by decide) rfl (Nat.le_of_ble_eq_true rfl) ?_
  intro p_ e_ s_ m_ args_ below_ meth_ c_ A_ S g_r g_k g_n hK hA
  refine gw_eq (ws' := [(pc, .inr (7, [.ref tx, .ref ca, .ref te, .ref hh, .ref hp, .ref qu, .ref sp, .int pl, .int ap])), (te, .inr (1, [.ref hs])), (hs, .inl (cA 0, 7, .inl g)), (qu, .inr (8, [.ref hq, .int (nI c), .int mq])), (hq, .inl (cA 4, 10, .inr (.inr (.inr (.inr fq))))), (hh, .inr (2, [.ref h1, .ref h2, .ref h3, .int sd])), (h1, .inl (cA 1, 8, .inr (.inl b))), (rv, .inr (6, [.int vn, .int va, .int vm, .int vd]))]) (lv' := [(0, .ref pc), (1, .int 2)]) (st' := []) (pc' := 0) rfl rfl rfl rfl ?_
  refine gw_iload_n S dc_PC_send_0 rfl 1 rfl ?_
  refine gw_iconst (v := 0) S dc_PC_send_1 (by decide) ?_
  refine gw_iconst (v := 2) S dc_PC_send_2 (by decide) ?_
  refine gw_callSR (As := [.int 2, .int 0, .int 2]) (st := []) S hK (c_PC_isWithin l D cA 2 0 2 ) (cw_PC_61 S.2.2.2.2 rfl rfl ⟨Nat.le_of_ble_eq_true rfl, Nat.le_of_ble_eq_true rfl⟩) [] rfl (by decide) rfl rfl (Nat.le_of_ble_eq_true rfl) dc_PC_send_3 ⟨Nat.le_of_ble_eq_true rfl, Nat.le_of_ble_eq_true rfl⟩ ?_
  rintro _ rfl
  refine gw_eq (ws' := [(pc, .inr (7, [.ref tx, .ref ca, .ref te, .ref hh, .ref hp, .ref qu, .ref sp, .int pl, .int ap])), (te, .inr (1, [.ref hs])), (hs, .inl (cA 0, 7, .inl g)), (qu, .inr (8, [.ref hq, .int (nI c), .int mq])), (hq, .inl (cA 4, 10, .inr (.inr (.inr (.inr fq))))), (hh, .inr (2, [.ref h1, .ref h2, .ref h3, .int sd])), (h1, .inl (cA 1, 8, .inr (.inl b))), (rv, .inr (6, [.int vn, .int va, .int vm, .int vd]))]) (lv' := [(0, .ref pc), (1, .int 2)]) (st' := [.int (f_PC_isWithin 2 0 2)]) (pc' := 6) rfl rfl rfl rfl ?_
  refine gw_if_eq (tgt := 29) S dc_PC_send_6 (by decide) (fun c_2 => ?_) (fun c_2 => ?_)
  · -- taken
    exact absurd c_2 (by decide)
  · -- not
    refine gw_aload_n S dc_PC_send_9 rfl 0 rfl ?_
    refine gw_get S hK.1 ic_PC rfl 2 (by decide) (gw_lk S mw_247) 0 rfl rfl dc_PC_send_10 ?_
    refine gw_callVR (As := []) (st := []) S hK (c_Term_isConnected l D cA te hs g ) (cw_PC_142 S.2.2.2.2 rfl rfl ⟨Nat.le_of_ble_eq_true rfl, Nat.le_of_ble_eq_true rfl⟩) [1, 2] rfl (by decide) 0 rfl rfl rfl rfl rfl (Nat.le_of_ble_eq_true rfl) dc_PC_send_13 ⟨Nat.le_of_ble_eq_true rfl, Nat.le_of_ble_eq_true rfl⟩ ?_
    rintro _ rfl
    refine gw_eq (ws' := [(pc, .inr (7, [.ref tx, .ref ca, .ref te, .ref hh, .ref hp, .ref qu, .ref sp, .int pl, .int ap])), (te, .inr (1, [.ref hs])), (hs, .inl (cA 0, 7, .inl g)), (qu, .inr (8, [.ref hq, .int (nI c), .int mq])), (hq, .inl (cA 4, 10, .inr (.inr (.inr (.inr fq))))), (hh, .inr (2, [.ref h1, .ref h2, .ref h3, .int sd])), (h1, .inl (cA 1, 8, .inr (.inl b))), (rv, .inr (6, [.int vn, .int va, .int vm, .int vd]))]) (lv' := [(0, .ref pc), (1, .int 2)]) (st' := [.int (f_Term_isConnected g)]) (pc' := 16) rfl rfl rfl rfl ?_
    refine gw_if_eq (tgt := 29) S dc_PC_send_16 (by decide) (fun c_4 => ?_) (fun c_4 => ?_)
    · -- taken
      exact absurd ((ic_0 g).mp c_4) hc2
    · -- not
      refine gw_aload_n S dc_PC_send_19 rfl 0 rfl ?_
      refine gw_get S hK.1 ic_PC rfl 5 (by decide) (gw_lk S mw_250) 0 rfl rfl dc_PC_send_20 ?_
      refine gw_callVR (As := []) (st := []) S hK (c_AL_isEmpty l D cA qu hq c mq ) (cw_PC_146 S.2.2.2.2 rfl rfl ⟨Nat.le_of_ble_eq_true rfl, Nat.le_of_ble_eq_true rfl⟩) [3] rfl (by decide) 0 rfl rfl rfl rfl rfl (Nat.le_of_ble_eq_true rfl) dc_PC_send_23 ⟨Nat.le_of_ble_eq_true rfl, Nat.le_of_ble_eq_true rfl⟩ ?_
      rintro _ rfl
      refine gw_eq (ws' := [(pc, .inr (7, [.ref tx, .ref ca, .ref te, .ref hh, .ref hp, .ref qu, .ref sp, .int pl, .int ap])), (te, .inr (1, [.ref hs])), (hs, .inl (cA 0, 7, .inl g)), (qu, .inr (8, [.ref hq, .int (nI c), .int mq])), (hq, .inl (cA 4, 10, .inr (.inr (.inr (.inr fq))))), (hh, .inr (2, [.ref h1, .ref h2, .ref h3, .int sd])), (h1, .inl (cA 1, 8, .inr (.inl b))), (rv, .inr (6, [.int vn, .int va, .int vm, .int vd]))]) (lv' := [(0, .ref pc), (1, .int 2)]) (st' := [.int (f_AL_isEmpty c)]) (pc' := 26) rfl rfl rfl rfl ?_
      refine gw_if_eq (tgt := 31) S dc_PC_send_26 (by decide) (fun c_6 => ?_) (fun c_6 => ?_)
      · -- taken
        refine gw_iload_n S dc_PC_send_31 rfl 1 rfl ?_
        refine gw_iconst (v := 1) S dc_PC_send_32 (by decide) ?_
        refine gw_icmp_ne (tgt := 38) S dc_PC_send_33 (by decide) (fun c_7 => ?_) (fun c_7 => by exact absurd c_7 (by decide))
        refine gw_aload_n S dc_PC_send_38 rfl 0 rfl ?_
        refine gw_get S hK.1 ic_PC rfl 3 (by decide) (gw_lk S mw_248) 0 rfl rfl dc_PC_send_39 ?_
        refine gw_aload_n S dc_PC_send_42 rfl 0 rfl ?_
        refine gw_get S hK.1 ic_PC rfl 5 (by decide) (gw_lk S mw_250) 0 rfl rfl dc_PC_send_43 ?_
        refine gw_iconst (v := 0) S dc_PC_send_46 (by decide) ?_
        refine gw_callVR (As := [.int 0]) (st := [.ref hh]) S hK (c_AL_get l D cA qu hq c mq 0 fq rv (by omega) (by omega) (by omega) hf) (cw_PC_149 S.2.2.2.2 rfl rfl ⟨Nat.le_of_ble_eq_true rfl, Nat.le_of_ble_eq_true rfl⟩) [3, 4] rfl (by decide) 0 rfl rfl rfl rfl rfl (Nat.le_of_ble_eq_true rfl) dc_PC_send_47 ⟨Nat.le_of_ble_eq_true rfl, Nat.le_of_ble_eq_true rfl⟩ ?_
        rintro _ rfl
        refine gw_eq (ws' := [(pc, .inr (7, [.ref tx, .ref ca, .ref te, .ref hh, .ref hp, .ref qu, .ref sp, .int pl, .int ap])), (te, .inr (1, [.ref hs])), (hs, .inl (cA 0, 7, .inl g)), (qu, .inr (8, [.ref hq, .int (nI c), .int mq])), (hq, .inl (cA 4, 10, .inr (.inr (.inr (.inr fq))))), (hh, .inr (2, [.ref h1, .ref h2, .ref h3, .int sd])), (h1, .inl (cA 1, 8, .inr (.inl b))), (rv, .inr (6, [.int vn, .int va, .int vm, .int vd]))]) (lv' := [(0, .ref pc), (1, .int 2)]) (st' := [.ref rv, .ref hh]) (pc' := 50) rfl rfl rfl rfl ?_
        refine gw_castY (C := rn_Rev) (r := (rn_Rev, tb_Rev, 4)) S hK.1 (gw_lk S mw_602) (hK.2 _ mn_1036).2 7 rfl rfl rfl dc_PC_send_50 ?_
        refine gw_callV (As := [.ref rv]) (st := []) (wr := [(pc, .inr (7, [.ref tx, .ref ca, .ref te, .ref hh, .ref hp, .ref qu, .ref sp, .int pl, .int ap])), (te, .inr (1, [.ref hs])), (hs, .inl (cA 0, 7, .inl g)), (qu, .inr (8, [.ref hq, .int (nI c), .int mq])), (hq, .inl (cA 4, 10, .inr (.inr (.inr (.inr fq)))))]) S hK hA (fun sz => c_Host_reverse l D cA sz hh h1 h2 h3 b sd rv vn va vm vd ) (cw_PC_153 S.2.2.2.2 rfl rfl ⟨Nat.le_of_ble_eq_true rfl, Nat.le_of_ble_eq_true rfl⟩) [5, 6, 7] [0, 1, 2, 3, 4] rfl (by decide) rfl (by decide) (by decide) 0 rfl rfl rfl rfl rfl (Nat.le_of_ble_eq_true rfl) dc_PC_send_53 ⟨Nat.le_of_ble_eq_true rfl, Nat.le_of_ble_eq_true rfl⟩ ?_
        rintro _ _ ⟨rfl, rfl⟩
        refine gw_eq (ws' := [(pc, .inr (7, [.ref tx, .ref ca, .ref te, .ref hh, .ref hp, .ref qu, .ref sp, .int pl, .int ap])), (te, .inr (1, [.ref hs])), (hs, .inl (cA 0, 7, .inl g)), (qu, .inr (8, [.ref hq, .int (nI c), .int mq])), (hq, .inl (cA 4, 10, .inr (.inr (.inr (.inr fq))))), (hh, .inr (2, [.ref h1, .ref h2, .ref h3, .int (f_Host_reverse_standing sd va vd)])), (h1, .inl (cA 1, 8, .inr (.inl (f_Host_reverse_1 b va vm vd)))), (rv, .inr (6, [.int vn, .int va, .int vm, .int (f_Host_reverse_isDue va vd)]))]) (lv' := [(0, .ref pc), (1, .int 2)]) (st' := []) (pc' := 56) rfl rfl rfl rfl ?_
        refine gw_iload_n S dc_PC_send_56 rfl 1 rfl ?_
        refine gw_iconst (v := 2) S dc_PC_send_57 (by decide) ?_
        refine gw_icmp_ne (tgt := 63) S dc_PC_send_58 (by decide) (fun c_9 => by exact absurd c_9 (by decide)) (fun c_9 => ?_)
        refine gw_iconst (v := 0) S dc_PC_send_61 (by decide) ?_
        exact gw_iret (w := [(pc, .inr (7, [.ref tx, .ref ca, .ref te, .ref hh, .ref hp, .ref qu, .ref sp, .int pl, .int ap])), (te, .inr (1, [.ref hs])), (hs, .inl (cA 0, 7, .inl g)), (qu, .inr (8, [.ref hq, .int (nI c), .int mq])), (hq, .inl (cA 4, 10, .inr (.inr (.inr (.inr fq))))), (hh, .inr (2, [.ref h1, .ref h2, .ref h3, .int (f_Host_reverse_standing sd va vd)])), (h1, .inl (cA 1, 8, .inr (.inl (f_Host_reverse_1 b va vm vd)))), (rv, .inr (6, [.int vn, .int va, .int vm, .int (f_Host_reverse_isDue va vd)]))]) S g_r g_k  [0, 1, 2, 3, 4, 5, 6, 7] rfl (by decide) ⟨(by simp only [if_neg c_2, if_neg c_4, if_pos c_6]), (by simp only [if_neg c_2, if_neg c_4, if_pos c_6])⟩ dc_PC_send_62
      · -- not
        exact absurd (ie_0 hq0 hq9) c_6
set_option maxRecDepth 100000 in
set_option maxHeartbeats 4000000 in
theorem c_PC_send_0a (l : Launch) (D : va_G) (cA : Nat → ClassId) (sz : Nat) (pc : Nat) (tx : Nat) (ca : Nat) (te : Nat) (hh : Nat) (hp : Nat) (qu : Nat) (sp : Nat) (pl : Int32) (ap : Int32) (hs : Nat) (g : Nat → Int32) (hq : Nat) (mq : Int32) (fq : Nat → Option Nat) (h1 : Nat) (h2 : Nat) (h3 : Nat) (sd : Int32) (b : Nat → Int64) (rv : Nat) (vn : Int32) (va : Int32) (vm : Int32) (vd : Int32) (hc2 : ¬ g 2 = 0) (hf : fq 0 = some rv) : ct_M l D cA yn_PC_send cd_PC_send 6 0 0 sz [.ref pc, .int 0] [(pc, .inr (7, [.ref tx, .ref ca, .ref te, .ref hh, .ref hp, .ref qu, .ref sp, .int pl, .int ap])), (te, .inr (1, [.ref hs])), (hs, .inl (cA 0, 7, .inl g)), (qu, .inr (8, [.ref hq, .int 1, .int mq])), (hq, .inl (cA 4, 10, .inr (.inr (.inr (.inr fq))))), (hh, .inr (2, [.ref h1, .ref h2, .ref h3, .int sd])), (h1, .inl (cA 1, 8, .inr (.inl b))), (rv, .inr (6, [.int vn, .int va, .int vm, .int vd]))] (fun v_ w_ => v_ = some (.int 1) ∧ w_ = [(pc, .inr (7, [.ref tx, .ref ca, .ref te, .ref hh, .ref hp, .ref qu, .ref sp, .int pl, .int ap])), (te, .inr (1, [.ref hs])), (hs, .inl (cA 0, 7, .inl g)), (qu, .inr (8, [.ref hq, .int 0, .int (mq + 1)])), (hq, .inl (cA 4, 10, .inr (.inr (.inr (.inr (va_up fq 0 none)))))), (hh, .inr (2, [.ref h1, .ref h2, .ref h3, .int (f_Host_reverse_standing sd va vd)])), (h1, .inl (cA 1, 8, .inr (.inl (f_Host_reverse_1 b va vm vd)))), (rv, .inr (6, [.int vn, .int va, .int vm, .int (f_Host_reverse_isDue va vd)]))]) := by
  refine gw_met (by decide) rfl (Nat.le_of_ble_eq_true rfl) ?_
  intro p_ e_ s_ m_ args_ below_ meth_ c_ A_ S g_r g_k g_n hK hA
  refine gw_eq (ws' := [(pc, .inr (7, [.ref tx, .ref ca, .ref te, .ref hh, .ref hp, .ref qu, .ref sp, .int pl, .int ap])), (te, .inr (1, [.ref hs])), (hs, .inl (cA 0, 7, .inl g)), (qu, .inr (8, [.ref hq, .int 1, .int mq])), (hq, .inl (cA 4, 10, .inr (.inr (.inr (.inr fq))))), (hh, .inr (2, [.ref h1, .ref h2, .ref h3, .int sd])), (h1, .inl (cA 1, 8, .inr (.inl b))), (rv, .inr (6, [.int vn, .int va, .int vm, .int vd]))]) (lv' := [(0, .ref pc), (1, .int 0)]) (st' := []) (pc' := 0) rfl rfl rfl rfl ?_
  refine gw_iload_n S dc_PC_send_0 rfl 1 rfl ?_
  refine gw_iconst (v := 0) S dc_PC_send_1 (by decide) ?_
  refine gw_iconst (v := 2) S dc_PC_send_2 (by decide) ?_
  refine gw_callSR (As := [.int 0, .int 0, .int 2]) (st := []) S hK (c_PC_isWithin l D cA 0 0 2 ) (cw_PC_61 S.2.2.2.2 rfl rfl ⟨Nat.le_of_ble_eq_true rfl, Nat.le_of_ble_eq_true rfl⟩) [] rfl (by decide) rfl rfl (Nat.le_of_ble_eq_true rfl) dc_PC_send_3 ⟨Nat.le_of_ble_eq_true rfl, Nat.le_of_ble_eq_true rfl⟩ ?_
  rintro _ rfl
  refine gw_eq (ws' := [(pc, .inr (7, [.ref tx, .ref ca, .ref te, .ref hh, .ref hp, .ref qu, .ref sp, .int pl, .int ap])), (te, .inr (1, [.ref hs])), (hs, .inl (cA 0, 7, .inl g)), (qu, .inr (8, [.ref hq, .int 1, .int mq])), (hq, .inl (cA 4, 10, .inr (.inr (.inr (.inr fq))))), (hh, .inr (2, [.ref h1, .ref h2, .ref h3, .int sd])), (h1, .inl (cA 1, 8, .inr (.inl b))), (rv, .inr (6, [.int vn, .int va, .int vm, .int vd]))]) (lv' := [(0, .ref pc), (1, .int 0)]) (st' := [.int (f_PC_isWithin 0 0 2)]) (pc' := 6) rfl rfl rfl rfl ?_
  refine gw_if_eq (tgt := 29) S dc_PC_send_6 (by decide) (fun c_2 => ?_) (fun c_2 => ?_)
  · -- taken
    exact absurd c_2 (by decide)
  · -- not
    refine gw_aload_n S dc_PC_send_9 rfl 0 rfl ?_
    refine gw_get S hK.1 ic_PC rfl 2 (by decide) (gw_lk S mw_247) 0 rfl rfl dc_PC_send_10 ?_
    refine gw_callVR (As := []) (st := []) S hK (c_Term_isConnected l D cA te hs g ) (cw_PC_142 S.2.2.2.2 rfl rfl ⟨Nat.le_of_ble_eq_true rfl, Nat.le_of_ble_eq_true rfl⟩) [1, 2] rfl (by decide) 0 rfl rfl rfl rfl rfl (Nat.le_of_ble_eq_true rfl) dc_PC_send_13 ⟨Nat.le_of_ble_eq_true rfl, Nat.le_of_ble_eq_true rfl⟩ ?_
    rintro _ rfl
    refine gw_eq (ws' := [(pc, .inr (7, [.ref tx, .ref ca, .ref te, .ref hh, .ref hp, .ref qu, .ref sp, .int pl, .int ap])), (te, .inr (1, [.ref hs])), (hs, .inl (cA 0, 7, .inl g)), (qu, .inr (8, [.ref hq, .int 1, .int mq])), (hq, .inl (cA 4, 10, .inr (.inr (.inr (.inr fq))))), (hh, .inr (2, [.ref h1, .ref h2, .ref h3, .int sd])), (h1, .inl (cA 1, 8, .inr (.inl b))), (rv, .inr (6, [.int vn, .int va, .int vm, .int vd]))]) (lv' := [(0, .ref pc), (1, .int 0)]) (st' := [.int (f_Term_isConnected g)]) (pc' := 16) rfl rfl rfl rfl ?_
    refine gw_if_eq (tgt := 29) S dc_PC_send_16 (by decide) (fun c_4 => ?_) (fun c_4 => ?_)
    · -- taken
      exact absurd ((ic_0 g).mp c_4) hc2
    · -- not
      refine gw_aload_n S dc_PC_send_19 rfl 0 rfl ?_
      refine gw_get S hK.1 ic_PC rfl 5 (by decide) (gw_lk S mw_250) 0 rfl rfl dc_PC_send_20 ?_
      refine gw_callVR (As := []) (st := []) S hK (c_AL_isEmpty l D cA qu hq 1 mq ) (cw_PC_146 S.2.2.2.2 rfl rfl ⟨Nat.le_of_ble_eq_true rfl, Nat.le_of_ble_eq_true rfl⟩) [3] rfl (by decide) 0 rfl rfl rfl rfl rfl (Nat.le_of_ble_eq_true rfl) dc_PC_send_23 ⟨Nat.le_of_ble_eq_true rfl, Nat.le_of_ble_eq_true rfl⟩ ?_
      rintro _ rfl
      refine gw_eq (ws' := [(pc, .inr (7, [.ref tx, .ref ca, .ref te, .ref hh, .ref hp, .ref qu, .ref sp, .int pl, .int ap])), (te, .inr (1, [.ref hs])), (hs, .inl (cA 0, 7, .inl g)), (qu, .inr (8, [.ref hq, .int 1, .int mq])), (hq, .inl (cA 4, 10, .inr (.inr (.inr (.inr fq))))), (hh, .inr (2, [.ref h1, .ref h2, .ref h3, .int sd])), (h1, .inl (cA 1, 8, .inr (.inl b))), (rv, .inr (6, [.int vn, .int va, .int vm, .int vd]))]) (lv' := [(0, .ref pc), (1, .int 0)]) (st' := [.int (f_AL_isEmpty 1)]) (pc' := 26) rfl rfl rfl rfl ?_
      refine gw_if_eq (tgt := 31) S dc_PC_send_26 (by decide) (fun c_6 => ?_) (fun c_6 => ?_)
      · -- taken
        refine gw_iload_n S dc_PC_send_31 rfl 1 rfl ?_
        refine gw_iconst (v := 1) S dc_PC_send_32 (by decide) ?_
        refine gw_icmp_ne (tgt := 38) S dc_PC_send_33 (by decide) (fun c_7 => ?_) (fun c_7 => by exact absurd c_7 (by decide))
        refine gw_aload_n S dc_PC_send_38 rfl 0 rfl ?_
        refine gw_get S hK.1 ic_PC rfl 3 (by decide) (gw_lk S mw_248) 0 rfl rfl dc_PC_send_39 ?_
        refine gw_aload_n S dc_PC_send_42 rfl 0 rfl ?_
        refine gw_get S hK.1 ic_PC rfl 5 (by decide) (gw_lk S mw_250) 0 rfl rfl dc_PC_send_43 ?_
        refine gw_iconst (v := 0) S dc_PC_send_46 (by decide) ?_
        refine gw_callVR (As := [.int 0]) (st := [.ref hh]) S hK (c_AL_get l D cA qu hq 1 mq 0 fq rv (by decide) (by decide) (by decide) hf) (cw_PC_149 S.2.2.2.2 rfl rfl ⟨Nat.le_of_ble_eq_true rfl, Nat.le_of_ble_eq_true rfl⟩) [3, 4] rfl (by decide) 0 rfl rfl rfl rfl rfl (Nat.le_of_ble_eq_true rfl) dc_PC_send_47 ⟨Nat.le_of_ble_eq_true rfl, Nat.le_of_ble_eq_true rfl⟩ ?_
        rintro _ rfl
        refine gw_eq (ws' := [(pc, .inr (7, [.ref tx, .ref ca, .ref te, .ref hh, .ref hp, .ref qu, .ref sp, .int pl, .int ap])), (te, .inr (1, [.ref hs])), (hs, .inl (cA 0, 7, .inl g)), (qu, .inr (8, [.ref hq, .int 1, .int mq])), (hq, .inl (cA 4, 10, .inr (.inr (.inr (.inr fq))))), (hh, .inr (2, [.ref h1, .ref h2, .ref h3, .int sd])), (h1, .inl (cA 1, 8, .inr (.inl b))), (rv, .inr (6, [.int vn, .int va, .int vm, .int vd]))]) (lv' := [(0, .ref pc), (1, .int 0)]) (st' := [.ref rv, .ref hh]) (pc' := 50) rfl rfl rfl rfl ?_
        refine gw_castY (C := rn_Rev) (r := (rn_Rev, tb_Rev, 4)) S hK.1 (gw_lk S mw_602) (hK.2 _ mn_1036).2 7 rfl rfl rfl dc_PC_send_50 ?_
        refine gw_callV (As := [.ref rv]) (st := []) (wr := [(pc, .inr (7, [.ref tx, .ref ca, .ref te, .ref hh, .ref hp, .ref qu, .ref sp, .int pl, .int ap])), (te, .inr (1, [.ref hs])), (hs, .inl (cA 0, 7, .inl g)), (qu, .inr (8, [.ref hq, .int 1, .int mq])), (hq, .inl (cA 4, 10, .inr (.inr (.inr (.inr fq)))))]) S hK hA (fun sz => c_Host_reverse l D cA sz hh h1 h2 h3 b sd rv vn va vm vd ) (cw_PC_153 S.2.2.2.2 rfl rfl ⟨Nat.le_of_ble_eq_true rfl, Nat.le_of_ble_eq_true rfl⟩) [5, 6, 7] [0, 1, 2, 3, 4] rfl (by decide) rfl (by decide) (by decide) 0 rfl rfl rfl rfl rfl (Nat.le_of_ble_eq_true rfl) dc_PC_send_53 ⟨Nat.le_of_ble_eq_true rfl, Nat.le_of_ble_eq_true rfl⟩ ?_
        rintro _ _ ⟨rfl, rfl⟩
        refine gw_eq (ws' := [(pc, .inr (7, [.ref tx, .ref ca, .ref te, .ref hh, .ref hp, .ref qu, .ref sp, .int pl, .int ap])), (te, .inr (1, [.ref hs])), (hs, .inl (cA 0, 7, .inl g)), (qu, .inr (8, [.ref hq, .int 1, .int mq])), (hq, .inl (cA 4, 10, .inr (.inr (.inr (.inr fq))))), (hh, .inr (2, [.ref h1, .ref h2, .ref h3, .int (f_Host_reverse_standing sd va vd)])), (h1, .inl (cA 1, 8, .inr (.inl (f_Host_reverse_1 b va vm vd)))), (rv, .inr (6, [.int vn, .int va, .int vm, .int (f_Host_reverse_isDue va vd)]))]) (lv' := [(0, .ref pc), (1, .int 0)]) (st' := []) (pc' := 56) rfl rfl rfl rfl ?_
        refine gw_iload_n S dc_PC_send_56 rfl 1 rfl ?_
        refine gw_iconst (v := 2) S dc_PC_send_57 (by decide) ?_
        refine gw_icmp_ne (tgt := 63) S dc_PC_send_58 (by decide) (fun c_9 => ?_) (fun c_9 => by exact absurd c_9 (by decide))
        refine gw_aload_n S dc_PC_send_63 rfl 0 rfl ?_
        refine gw_get S hK.1 ic_PC rfl 5 (by decide) (gw_lk S mw_250) 0 rfl rfl dc_PC_send_64 ?_
        refine gw_iconst (v := 0) S dc_PC_send_67 (by decide) ?_
        refine gw_callV (As := [.int 0]) (st := []) (wr := [(pc, .inr (7, [.ref tx, .ref ca, .ref te, .ref hh, .ref hp, .ref qu, .ref sp, .int pl, .int ap])), (te, .inr (1, [.ref hs])), (hs, .inl (cA 0, 7, .inl g)), (hh, .inr (2, [.ref h1, .ref h2, .ref h3, .int (f_Host_reverse_standing sd va vd)])), (h1, .inl (cA 1, 8, .inr (.inl (f_Host_reverse_1 b va vm vd)))), (rv, .inr (6, [.int vn, .int va, .int vm, .int (f_Host_reverse_isDue va vd)]))]) S hK hA (fun sz => c_AL_remove1 l D cA sz qu hq mq fq rv hf) (cw_PC_157 S.2.2.2.2 rfl rfl ⟨Nat.le_of_ble_eq_true rfl, Nat.le_of_ble_eq_true rfl⟩) [3, 4] [0, 1, 2, 5, 6, 7] rfl (by decide) rfl (by decide) (by decide) 0 rfl rfl rfl rfl rfl (Nat.le_of_ble_eq_true rfl) dc_PC_send_68 ⟨Nat.le_of_ble_eq_true rfl, Nat.le_of_ble_eq_true rfl⟩ ?_
        rintro _ _ ⟨rfl, rfl⟩
        refine gw_eq (ws' := [(pc, .inr (7, [.ref tx, .ref ca, .ref te, .ref hh, .ref hp, .ref qu, .ref sp, .int pl, .int ap])), (te, .inr (1, [.ref hs])), (hs, .inl (cA 0, 7, .inl g)), (hh, .inr (2, [.ref h1, .ref h2, .ref h3, .int (f_Host_reverse_standing sd va vd)])), (h1, .inl (cA 1, 8, .inr (.inl (f_Host_reverse_1 b va vm vd)))), (rv, .inr (6, [.int vn, .int va, .int vm, .int (f_Host_reverse_isDue va vd)])), (qu, .inr (8, [.ref hq, .int 0, .int (mq + 1)])), (hq, .inl (cA 4, 10, .inr (.inr (.inr (.inr (va_up fq 0 none))))))]) (lv' := [(0, .ref pc), (1, .int 0)]) (st' := [.ref rv]) (pc' := 71) rfl rfl rfl rfl ?_
        refine gw_pop S dc_PC_send_71 rfl ?_
        refine gw_iconst (v := 1) S dc_PC_send_72 (by decide) ?_
        exact gw_iret (w := [(pc, .inr (7, [.ref tx, .ref ca, .ref te, .ref hh, .ref hp, .ref qu, .ref sp, .int pl, .int ap])), (te, .inr (1, [.ref hs])), (hs, .inl (cA 0, 7, .inl g)), (qu, .inr (8, [.ref hq, .int 0, .int (mq + 1)])), (hq, .inl (cA 4, 10, .inr (.inr (.inr (.inr (va_up fq 0 none)))))), (hh, .inr (2, [.ref h1, .ref h2, .ref h3, .int (f_Host_reverse_standing sd va vd)])), (h1, .inl (cA 1, 8, .inr (.inl (f_Host_reverse_1 b va vm vd)))), (rv, .inr (6, [.int vn, .int va, .int vm, .int (f_Host_reverse_isDue va vd)]))]) S g_r g_k  [0, 1, 2, 6, 7, 3, 4, 5] rfl (by decide) ⟨(by simp only [if_neg c_2, if_neg c_4, if_pos c_6]), (by simp only [if_neg c_2, if_neg c_4, if_pos c_6])⟩ dc_PC_send_73
      · -- not
        exact absurd (ie_0 (c := 1) (by decide) (by decide)) c_6
set_option maxRecDepth 100000 in
set_option maxHeartbeats 4000000 in
theorem c_PC_send_0m (l : Launch) (D : va_G) (cA : Nat → ClassId) (sz : Nat) (pc : Nat) (tx : Nat) (ca : Nat) (te : Nat) (hh : Nat) (hp : Nat) (qu : Nat) (sp : Nat) (pl : Int32) (ap : Int32) (hs : Nat) (g : Nat → Int32) (hq : Nat) (c : Nat) (mq : Int32) (fq : Nat → Option Nat) (h1 : Nat) (h2 : Nat) (h3 : Nat) (sd : Int32) (b : Nat → Int64) (rv : Nat) (vn : Int32) (va : Int32) (vm : Int32) (vd : Int32) (tl9 : va_W) (hc2 : ¬ g 2 = 0) (hq0 : 0 < c) (hq9 : c ≤ 6) (hf : fq 0 = some rv) (hc8 : 2 ≤ c) (hel : ∀ i, i < c → ∀ y, fq i = some y → ∃ (k : Nat) (fs : List Value), tl9[k]? = some (y, .inr (6, fs))) : ct_M l D cA yn_PC_send cd_PC_send 6 0 0 sz [.ref pc, .int 0] ([(pc, .inr (7, [.ref tx, .ref ca, .ref te, .ref hh, .ref hp, .ref qu, .ref sp, .int pl, .int ap])), (te, .inr (1, [.ref hs])), (hs, .inl (cA 0, 7, .inl g)), (qu, .inr (8, [.ref hq, .int (nI c), .int mq])), (hq, .inl (cA 4, 10, .inr (.inr (.inr (.inr fq))))), (hh, .inr (2, [.ref h1, .ref h2, .ref h3, .int sd])), (h1, .inl (cA 1, 8, .inr (.inl b))), (rv, .inr (6, [.int vn, .int va, .int vm, .int vd]))] ++ tl9) (fun v_ w_ => v_ = some (.int 1) ∧ w_ = ([(pc, .inr (7, [.ref tx, .ref ca, .ref te, .ref hh, .ref hp, .ref qu, .ref sp, .int pl, .int ap])), (te, .inr (1, [.ref hs])), (hs, .inl (cA 0, 7, .inl g)), (qu, .inr (8, [.ref hq, .int (nI (c - 1)), .int (mq + 1)])), (hq, .inl (cA 4, 10, .inr (.inr (.inr (.inr (va_up (va_cpy fq fq 1 0 (c - 1)) (c - 1) none)))))), (hh, .inr (2, [.ref h1, .ref h2, .ref h3, .int (f_Host_reverse_standing sd va vd)])), (h1, .inl (cA 1, 8, .inr (.inl (f_Host_reverse_1 b va vm vd)))), (rv, .inr (6, [.int vn, .int va, .int vm, .int (f_Host_reverse_isDue va vd)]))] ++ tl9)) := by
  refine gw_met (by decide) rfl (Nat.le_of_ble_eq_true rfl) ?_
  intro p_ e_ s_ m_ args_ below_ meth_ c_ A_ S g_r g_k g_n hK hA
  refine gw_eq (ws' := ([(pc, .inr (7, [.ref tx, .ref ca, .ref te, .ref hh, .ref hp, .ref qu, .ref sp, .int pl, .int ap])), (te, .inr (1, [.ref hs])), (hs, .inl (cA 0, 7, .inl g)), (qu, .inr (8, [.ref hq, .int (nI c), .int mq])), (hq, .inl (cA 4, 10, .inr (.inr (.inr (.inr fq))))), (hh, .inr (2, [.ref h1, .ref h2, .ref h3, .int sd])), (h1, .inl (cA 1, 8, .inr (.inl b))), (rv, .inr (6, [.int vn, .int va, .int vm, .int vd]))] ++ tl9)) (lv' := [(0, .ref pc), (1, .int 0)]) (st' := []) (pc' := 0) rfl rfl rfl rfl ?_
  refine gw_iload_n S dc_PC_send_0 rfl 1 rfl ?_
  refine gw_iconst (v := 0) S dc_PC_send_1 (by decide) ?_
  refine gw_iconst (v := 2) S dc_PC_send_2 (by decide) ?_
  refine gw_callSR (As := [.int 0, .int 0, .int 2]) (st := []) S hK (c_PC_isWithin l D cA 0 0 2 ) (cw_PC_61 S.2.2.2.2 rfl rfl ⟨Nat.le_of_ble_eq_true rfl, Nat.le_of_ble_eq_true rfl⟩) [] rfl (by decide) rfl rfl (Nat.le_of_ble_eq_true rfl) dc_PC_send_3 ⟨Nat.le_of_ble_eq_true rfl, Nat.le_of_ble_eq_true rfl⟩ ?_
  rintro _ rfl
  refine gw_eq (ws' := ([(pc, .inr (7, [.ref tx, .ref ca, .ref te, .ref hh, .ref hp, .ref qu, .ref sp, .int pl, .int ap])), (te, .inr (1, [.ref hs])), (hs, .inl (cA 0, 7, .inl g)), (qu, .inr (8, [.ref hq, .int (nI c), .int mq])), (hq, .inl (cA 4, 10, .inr (.inr (.inr (.inr fq))))), (hh, .inr (2, [.ref h1, .ref h2, .ref h3, .int sd])), (h1, .inl (cA 1, 8, .inr (.inl b))), (rv, .inr (6, [.int vn, .int va, .int vm, .int vd]))] ++ tl9)) (lv' := [(0, .ref pc), (1, .int 0)]) (st' := [.int (f_PC_isWithin 0 0 2)]) (pc' := 6) rfl rfl rfl rfl ?_
  refine gw_if_eq (tgt := 29) S dc_PC_send_6 (by decide) (fun c_2 => ?_) (fun c_2 => ?_)
  · -- taken
    exact absurd c_2 (by decide)
  · -- not
    refine gw_aload_n S dc_PC_send_9 rfl 0 rfl ?_
    refine gw_get S hK.1 ic_PC rfl 2 (by decide) (gw_lk S mw_247) 0 rfl rfl dc_PC_send_10 ?_
    refine gw_callVR (As := []) (st := []) S hK (c_Term_isConnected l D cA te hs g ) (cw_PC_142 S.2.2.2.2 rfl rfl ⟨Nat.le_of_ble_eq_true rfl, Nat.le_of_ble_eq_true rfl⟩) [1, 2] rfl (by decide) 0 rfl rfl rfl rfl rfl (Nat.le_of_ble_eq_true rfl) dc_PC_send_13 ⟨Nat.le_of_ble_eq_true rfl, Nat.le_of_ble_eq_true rfl⟩ ?_
    rintro _ rfl
    refine gw_eq (ws' := ([(pc, .inr (7, [.ref tx, .ref ca, .ref te, .ref hh, .ref hp, .ref qu, .ref sp, .int pl, .int ap])), (te, .inr (1, [.ref hs])), (hs, .inl (cA 0, 7, .inl g)), (qu, .inr (8, [.ref hq, .int (nI c), .int mq])), (hq, .inl (cA 4, 10, .inr (.inr (.inr (.inr fq))))), (hh, .inr (2, [.ref h1, .ref h2, .ref h3, .int sd])), (h1, .inl (cA 1, 8, .inr (.inl b))), (rv, .inr (6, [.int vn, .int va, .int vm, .int vd]))] ++ tl9)) (lv' := [(0, .ref pc), (1, .int 0)]) (st' := [.int (f_Term_isConnected g)]) (pc' := 16) rfl rfl rfl rfl ?_
    refine gw_if_eq (tgt := 29) S dc_PC_send_16 (by decide) (fun c_4 => ?_) (fun c_4 => ?_)
    · -- taken
      exact absurd ((ic_0 g).mp c_4) hc2
    · -- not
      refine gw_aload_n S dc_PC_send_19 rfl 0 rfl ?_
      refine gw_get S hK.1 ic_PC rfl 5 (by decide) (gw_lk S mw_250) 0 rfl rfl dc_PC_send_20 ?_
      refine gw_callVR (As := []) (st := []) S hK (c_AL_isEmpty l D cA qu hq c mq ) (cw_PC_146 S.2.2.2.2 rfl rfl ⟨Nat.le_of_ble_eq_true rfl, Nat.le_of_ble_eq_true rfl⟩) [3] rfl (by decide) 0 rfl rfl rfl rfl rfl (Nat.le_of_ble_eq_true rfl) dc_PC_send_23 ⟨Nat.le_of_ble_eq_true rfl, Nat.le_of_ble_eq_true rfl⟩ ?_
      rintro _ rfl
      refine gw_eq (ws' := ([(pc, .inr (7, [.ref tx, .ref ca, .ref te, .ref hh, .ref hp, .ref qu, .ref sp, .int pl, .int ap])), (te, .inr (1, [.ref hs])), (hs, .inl (cA 0, 7, .inl g)), (qu, .inr (8, [.ref hq, .int (nI c), .int mq])), (hq, .inl (cA 4, 10, .inr (.inr (.inr (.inr fq))))), (hh, .inr (2, [.ref h1, .ref h2, .ref h3, .int sd])), (h1, .inl (cA 1, 8, .inr (.inl b))), (rv, .inr (6, [.int vn, .int va, .int vm, .int vd]))] ++ tl9)) (lv' := [(0, .ref pc), (1, .int 0)]) (st' := [.int (f_AL_isEmpty c)]) (pc' := 26) rfl rfl rfl rfl ?_
      refine gw_if_eq (tgt := 31) S dc_PC_send_26 (by decide) (fun c_6 => ?_) (fun c_6 => ?_)
      · -- taken
        refine gw_iload_n S dc_PC_send_31 rfl 1 rfl ?_
        refine gw_iconst (v := 1) S dc_PC_send_32 (by decide) ?_
        refine gw_icmp_ne (tgt := 38) S dc_PC_send_33 (by decide) (fun c_7 => ?_) (fun c_7 => by exact absurd c_7 (by decide))
        refine gw_aload_n S dc_PC_send_38 rfl 0 rfl ?_
        refine gw_get S hK.1 ic_PC rfl 3 (by decide) (gw_lk S mw_248) 0 rfl rfl dc_PC_send_39 ?_
        refine gw_aload_n S dc_PC_send_42 rfl 0 rfl ?_
        refine gw_get S hK.1 ic_PC rfl 5 (by decide) (gw_lk S mw_250) 0 rfl rfl dc_PC_send_43 ?_
        refine gw_iconst (v := 0) S dc_PC_send_46 (by decide) ?_
        refine gw_callVR (As := [.int 0]) (st := [.ref hh]) S hK (c_AL_get l D cA qu hq c mq 0 fq rv (by omega) (by omega) (by omega) hf) (cw_PC_149 S.2.2.2.2 rfl rfl ⟨Nat.le_of_ble_eq_true rfl, Nat.le_of_ble_eq_true rfl⟩) [3, 4] rfl (by decide) 0 rfl rfl rfl rfl rfl (Nat.le_of_ble_eq_true rfl) dc_PC_send_47 ⟨Nat.le_of_ble_eq_true rfl, Nat.le_of_ble_eq_true rfl⟩ ?_
        rintro _ rfl
        refine gw_eq (ws' := ([(pc, .inr (7, [.ref tx, .ref ca, .ref te, .ref hh, .ref hp, .ref qu, .ref sp, .int pl, .int ap])), (te, .inr (1, [.ref hs])), (hs, .inl (cA 0, 7, .inl g)), (qu, .inr (8, [.ref hq, .int (nI c), .int mq])), (hq, .inl (cA 4, 10, .inr (.inr (.inr (.inr fq))))), (hh, .inr (2, [.ref h1, .ref h2, .ref h3, .int sd])), (h1, .inl (cA 1, 8, .inr (.inl b))), (rv, .inr (6, [.int vn, .int va, .int vm, .int vd]))] ++ tl9)) (lv' := [(0, .ref pc), (1, .int 0)]) (st' := [.ref rv, .ref hh]) (pc' := 50) rfl rfl rfl rfl ?_
        refine gw_castY (C := rn_Rev) (r := (rn_Rev, tb_Rev, 4)) S hK.1 (gw_lk S mw_602) (hK.2 _ mn_1036).2 7 rfl rfl rfl dc_PC_send_50 ?_
        refine gw_pm (ws' := ([(hh, .inr (2, [.ref h1, .ref h2, .ref h3, .int sd])), (h1, .inl (cA 1, 8, .inr (.inl b))), (rv, .inr (6, [.int vn, .int va, .int vm, .int vd]))] ++ ([(pc, .inr (7, [.ref tx, .ref ca, .ref te, .ref hh, .ref hp, .ref qu, .ref sp, .int pl, .int ap])), (te, .inr (1, [.ref hs])), (hs, .inl (cA 0, 7, .inl g)), (qu, .inr (8, [.ref hq, .int (nI c), .int mq])), (hq, .inl (cA 4, 10, .inr (.inr (.inr (.inr fq)))))] ++ tl9))) (pm_head (A := ([(hh, .inr (2, [.ref h1, .ref h2, .ref h3, .int sd])), (h1, .inl (cA 1, 8, .inr (.inl b))), (rv, .inr (6, [.int vn, .int va, .int vm, .int vd]))] : va_W)) (B := ([(pc, .inr (7, [.ref tx, .ref ca, .ref te, .ref hh, .ref hp, .ref qu, .ref sp, .int pl, .int ap])), (te, .inr (1, [.ref hs])), (hs, .inl (cA 0, 7, .inl g)), (qu, .inr (8, [.ref hq, .int (nI c), .int mq])), (hq, .inl (cA 4, 10, .inr (.inr (.inr (.inr fq)))))] : va_W)) 8 rfl [5, 6, 7, 0, 1, 2, 3, 4] (by decide) rfl) ?_
        refine gw_callV (As := [.ref rv]) (st := []) (wr := ([(pc, .inr (7, [.ref tx, .ref ca, .ref te, .ref hh, .ref hp, .ref qu, .ref sp, .int pl, .int ap])), (te, .inr (1, [.ref hs])), (hs, .inl (cA 0, 7, .inl g)), (qu, .inr (8, [.ref hq, .int (nI c), .int mq])), (hq, .inl (cA 4, 10, .inr (.inr (.inr (.inr fq)))))] ++ tl9)) S hK hA (fun sz => c_Host_reverse l D cA sz hh h1 h2 h3 b sd rv vn va vm vd ) (cw_PC_153 S.2.2.2.2 rfl rfl ⟨Nat.le_of_ble_eq_true rfl, Nat.le_of_ble_eq_true rfl⟩) (List.range ([(hh, .inr (2, [.ref h1, .ref h2, .ref h3, .int sd])), (h1, .inl (cA 1, 8, .inr (.inl b))), (rv, .inr (6, [.int vn, .int va, .int vm, .int vd]))] : va_W).length) ((List.range (([(pc, .inr (7, [.ref tx, .ref ca, .ref te, .ref hh, .ref hp, .ref qu, .ref sp, .int pl, .int ap])), (te, .inr (1, [.ref hs])), (hs, .inl (cA 0, 7, .inl g)), (qu, .inr (8, [.ref hq, .int (nI c), .int mq])), (hq, .inl (cA 4, 10, .inr (.inr (.inr (.inr fq)))))] ++ tl9) : va_W).length).map (([(hh, .inr (2, [.ref h1, .ref h2, .ref h3, .int sd])), (h1, .inl (cA 1, 8, .inr (.inl b))), (rv, .inr (6, [.int vn, .int va, .int vm, .int vd]))] : va_W).length + ·)) (th_C _ _) (th_nC _) (th_R _ _) (th_nR _ _) (th_d _ _) 0 rfl rfl rfl rfl rfl (Nat.le_of_ble_eq_true rfl) dc_PC_send_53 ⟨Nat.le_of_ble_eq_true rfl, Nat.le_of_ble_eq_true rfl⟩ ?_
        rintro _ _ ⟨rfl, rfl⟩
        refine gw_pm (ws' := (([(pc, .inr (7, [.ref tx, .ref ca, .ref te, .ref hh, .ref hp, .ref qu, .ref sp, .int pl, .int ap])), (te, .inr (1, [.ref hs])), (hs, .inl (cA 0, 7, .inl g)), (qu, .inr (8, [.ref hq, .int (nI c), .int mq])), (hq, .inl (cA 4, 10, .inr (.inr (.inr (.inr fq)))))] ++ [(hh, .inr (2, [.ref h1, .ref h2, .ref h3, .int (f_Host_reverse_standing sd va vd)])), (h1, .inl (cA 1, 8, .inr (.inl (f_Host_reverse_1 b va vm vd)))), (rv, .inr (6, [.int vn, .int va, .int vm, .int (f_Host_reverse_isDue va vd)]))]) ++ tl9)) (pm_mid _ _ _) ?_
        refine gw_eq (ws' := ([(pc, .inr (7, [.ref tx, .ref ca, .ref te, .ref hh, .ref hp, .ref qu, .ref sp, .int pl, .int ap])), (te, .inr (1, [.ref hs])), (hs, .inl (cA 0, 7, .inl g)), (qu, .inr (8, [.ref hq, .int (nI c), .int mq])), (hq, .inl (cA 4, 10, .inr (.inr (.inr (.inr fq))))), (hh, .inr (2, [.ref h1, .ref h2, .ref h3, .int (f_Host_reverse_standing sd va vd)])), (h1, .inl (cA 1, 8, .inr (.inl (f_Host_reverse_1 b va vm vd)))), (rv, .inr (6, [.int vn, .int va, .int vm, .int (f_Host_reverse_isDue va vd)]))] ++ tl9)) (lv' := [(0, .ref pc), (1, .int 0)]) (st' := []) (pc' := 56) rfl rfl rfl rfl ?_
        refine gw_iload_n S dc_PC_send_56 rfl 1 rfl ?_
        refine gw_iconst (v := 2) S dc_PC_send_57 (by decide) ?_
        refine gw_icmp_ne (tgt := 63) S dc_PC_send_58 (by decide) (fun c_9 => ?_) (fun c_9 => by exact absurd c_9 (by decide))
        refine gw_aload_n S dc_PC_send_63 rfl 0 rfl ?_
        refine gw_get S hK.1 ic_PC rfl 5 (by decide) (gw_lk S mw_250) 0 rfl rfl dc_PC_send_64 ?_
        refine gw_iconst (v := 0) S dc_PC_send_67 (by decide) ?_
        refine gw_pm (ws' := (([(qu, .inr (8, [.ref hq, .int (nI c), .int mq])), (hq, .inl (cA 4, 10, .inr (.inr (.inr (.inr fq)))))] ++ tl9) ++ [(pc, .inr (7, [.ref tx, .ref ca, .ref te, .ref hh, .ref hp, .ref qu, .ref sp, .int pl, .int ap])), (te, .inr (1, [.ref hs])), (hs, .inl (cA 0, 7, .inl g)), (hh, .inr (2, [.ref h1, .ref h2, .ref h3, .int (f_Host_reverse_standing sd va vd)])), (h1, .inl (cA 1, 8, .inr (.inl (f_Host_reverse_1 b va vm vd)))), (rv, .inr (6, [.int vn, .int va, .int vm, .int (f_Host_reverse_isDue va vd)]))])) (pm_tail (A := ([(qu, .inr (8, [.ref hq, .int (nI c), .int mq])), (hq, .inl (cA 4, 10, .inr (.inr (.inr (.inr fq)))))] : va_W)) (B := ([(pc, .inr (7, [.ref tx, .ref ca, .ref te, .ref hh, .ref hp, .ref qu, .ref sp, .int pl, .int ap])), (te, .inr (1, [.ref hs])), (hs, .inl (cA 0, 7, .inl g)), (hh, .inr (2, [.ref h1, .ref h2, .ref h3, .int (f_Host_reverse_standing sd va vd)])), (h1, .inl (cA 1, 8, .inr (.inl (f_Host_reverse_1 b va vm vd)))), (rv, .inr (6, [.int vn, .int va, .int vm, .int (f_Host_reverse_isDue va vd)]))] : va_W)) 8 rfl [3, 4, 0, 1, 2, 5, 6, 7] (by decide) rfl) ?_
        refine gw_callV (As := [.int 0]) (st := []) (wr := [(pc, .inr (7, [.ref tx, .ref ca, .ref te, .ref hh, .ref hp, .ref qu, .ref sp, .int pl, .int ap])), (te, .inr (1, [.ref hs])), (hs, .inl (cA 0, 7, .inl g)), (hh, .inr (2, [.ref h1, .ref h2, .ref h3, .int (f_Host_reverse_standing sd va vd)])), (h1, .inl (cA 1, 8, .inr (.inl (f_Host_reverse_1 b va vm vd)))), (rv, .inr (6, [.int vn, .int va, .int vm, .int (f_Host_reverse_isDue va vd)]))]) S hK hA (fun sz => c_AL_removem l D cA sz qu hq c mq fq rv tl9 hf hc8 (by omega) hel) (cw_PC_157 S.2.2.2.2 rfl rfl ⟨Nat.le_of_ble_eq_true rfl, Nat.le_of_ble_eq_true rfl⟩) (List.range (([(qu, .inr (8, [.ref hq, .int (nI c), .int mq])), (hq, .inl (cA 4, 10, .inr (.inr (.inr (.inr fq)))))] ++ tl9) : va_W).length) ((List.range ([(pc, .inr (7, [.ref tx, .ref ca, .ref te, .ref hh, .ref hp, .ref qu, .ref sp, .int pl, .int ap])), (te, .inr (1, [.ref hs])), (hs, .inl (cA 0, 7, .inl g)), (hh, .inr (2, [.ref h1, .ref h2, .ref h3, .int (f_Host_reverse_standing sd va vd)])), (h1, .inl (cA 1, 8, .inr (.inl (f_Host_reverse_1 b va vm vd)))), (rv, .inr (6, [.int vn, .int va, .int vm, .int (f_Host_reverse_isDue va vd)]))] : va_W).length).map ((([(qu, .inr (8, [.ref hq, .int (nI c), .int mq])), (hq, .inl (cA 4, 10, .inr (.inr (.inr (.inr fq)))))] ++ tl9) : va_W).length + ·)) (th_C _ _) (th_nC _) (th_R _ _) (th_nR _ _) (th_d _ _) 0 rfl rfl rfl rfl rfl (Nat.le_of_ble_eq_true rfl) dc_PC_send_68 ⟨Nat.le_of_ble_eq_true rfl, Nat.le_of_ble_eq_true rfl⟩ ?_
        rintro _ _ ⟨rfl, rfl⟩
        refine gw_eq (ws' := ([(pc, .inr (7, [.ref tx, .ref ca, .ref te, .ref hh, .ref hp, .ref qu, .ref sp, .int pl, .int ap])), (te, .inr (1, [.ref hs])), (hs, .inl (cA 0, 7, .inl g)), (hh, .inr (2, [.ref h1, .ref h2, .ref h3, .int (f_Host_reverse_standing sd va vd)])), (h1, .inl (cA 1, 8, .inr (.inl (f_Host_reverse_1 b va vm vd)))), (rv, .inr (6, [.int vn, .int va, .int vm, .int (f_Host_reverse_isDue va vd)])), (qu, .inr (8, [.ref hq, .int (nI (c - 1)), .int (mq + 1)])), (hq, .inl (cA 4, 10, .inr (.inr (.inr (.inr (va_up (va_cpy fq fq 1 0 (c - 1)) (c - 1) none))))))] ++ tl9)) (lv' := [(0, .ref pc), (1, .int 0)]) (st' := [.ref rv]) (pc' := 71) rfl rfl rfl rfl ?_
        refine gw_pop S dc_PC_send_71 rfl ?_
        refine gw_iconst (v := 1) S dc_PC_send_72 (by decide) ?_
        refine gw_pm (ws' := ([(pc, .inr (7, [.ref tx, .ref ca, .ref te, .ref hh, .ref hp, .ref qu, .ref sp, .int pl, .int ap])), (te, .inr (1, [.ref hs])), (hs, .inl (cA 0, 7, .inl g)), (qu, .inr (8, [.ref hq, .int (nI (c - 1)), .int (mq + 1)])), (hq, .inl (cA 4, 10, .inr (.inr (.inr (.inr (va_up (va_cpy fq fq 1 0 (c - 1)) (c - 1) none)))))), (hh, .inr (2, [.ref h1, .ref h2, .ref h3, .int (f_Host_reverse_standing sd va vd)])), (h1, .inl (cA 1, 8, .inr (.inl (f_Host_reverse_1 b va vm vd)))), (rv, .inr (6, [.int vn, .int va, .int vm, .int (f_Host_reverse_isDue va vd)]))] ++ tl9)) (pm_ix (X' := ([(pc, .inr (7, [.ref tx, .ref ca, .ref te, .ref hh, .ref hp, .ref qu, .ref sp, .int pl, .int ap])), (te, .inr (1, [.ref hs])), (hs, .inl (cA 0, 7, .inl g)), (qu, .inr (8, [.ref hq, .int (nI (c - 1)), .int (mq + 1)])), (hq, .inl (cA 4, 10, .inr (.inr (.inr (.inr (va_up (va_cpy fq fq 1 0 (c - 1)) (c - 1) none)))))), (hh, .inr (2, [.ref h1, .ref h2, .ref h3, .int (f_Host_reverse_standing sd va vd)])), (h1, .inl (cA 1, 8, .inr (.inl (f_Host_reverse_1 b va vm vd)))), (rv, .inr (6, [.int vn, .int va, .int vm, .int (f_Host_reverse_isDue va vd)]))] : va_W)) 8 rfl [0, 1, 2, 6, 7, 3, 4, 5] (by decide) rfl) ?_
        exact gw_iret (w := ([(pc, .inr (7, [.ref tx, .ref ca, .ref te, .ref hh, .ref hp, .ref qu, .ref sp, .int pl, .int ap])), (te, .inr (1, [.ref hs])), (hs, .inl (cA 0, 7, .inl g)), (qu, .inr (8, [.ref hq, .int (nI (c - 1)), .int (mq + 1)])), (hq, .inl (cA 4, 10, .inr (.inr (.inr (.inr (va_up (va_cpy fq fq 1 0 (c - 1)) (c - 1) none)))))), (hh, .inr (2, [.ref h1, .ref h2, .ref h3, .int (f_Host_reverse_standing sd va vd)])), (h1, .inl (cA 1, 8, .inr (.inl (f_Host_reverse_1 b va vm vd)))), (rv, .inr (6, [.int vn, .int va, .int vm, .int (f_Host_reverse_isDue va vd)]))] ++ tl9)) S g_r g_k  (List.range (([(pc, .inr (7, [.ref tx, .ref ca, .ref te, .ref hh, .ref hp, .ref qu, .ref sp, .int pl, .int ap])), (te, .inr (1, [.ref hs])), (hs, .inl (cA 0, 7, .inl g)), (qu, .inr (8, [.ref hq, .int (nI (c - 1)), .int (mq + 1)])), (hq, .inl (cA 4, 10, .inr (.inr (.inr (.inr (va_up (va_cpy fq fq 1 0 (c - 1)) (c - 1) none)))))), (hh, .inr (2, [.ref h1, .ref h2, .ref h3, .int (f_Host_reverse_standing sd va vd)])), (h1, .inl (cA 1, 8, .inr (.inl (f_Host_reverse_1 b va vm vd)))), (rv, .inr (6, [.int vn, .int va, .int vm, .int (f_Host_reverse_isDue va vd)]))] ++ tl9) : va_W).length) (th_id _) (th_nC _) ⟨(by simp only [if_neg c_2, if_neg c_4, if_pos c_6]), (by simp only [if_neg c_2, if_neg c_4, if_pos c_6])⟩ dc_PC_send_73
      · -- not
        exact absurd (ie_0 hq0 hq9) c_6
