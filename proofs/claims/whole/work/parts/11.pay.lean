def f_Card_isRunAtLower (rn : Int32) (lo : Int32) : Int32 := if lo = (-1) then 0 else (if rn < lo then 0 else (1))
theorem b_Card_isRunAtLower (rn : Int32) (lo : Int32) : f_Card_isRunAtLower rn lo = 0 ∨ f_Card_isRunAtLower rn lo = 1 := by
  unfold f_Card_isRunAtLower
  exact (bo_ite (Or.inl rfl) (bo_ite (Or.inl rfl) (Or.inr rfl)))
set_option maxRecDepth 100000 in
set_option maxHeartbeats 4000000 in
theorem c_Card_isRunAtLower (l : Launch) (D : va_G) (cA : Nat → ClassId) (hc : Nat) (ho : Nat) (ky : Int32) (pn : Int32) (tr : Int32) (ct : Int32) (rn : Int32) (sn : Int32) (ac : Int32) (ed : Int32) (md : Int32) (mn : Int32) (mo : Int32) (lo : Int32) (up : Int32)  : ct_R l D cA yn_Card_isRunAtLower cd_Card_isRunAtLower 1 [.ref hc] [(hc, .inr (5, [.ref ho, .int ky, .int pn, .int tr, .int ct, .int rn, .int sn, .int ac, .int ed, .int md, .int mn, .int mo, .int lo, .int up]))] (fun v_ => v_ = some (.int (f_Card_isRunAtLower rn lo))) := by
  refine gw_metR (by decide) rfl (Nat.le_of_ble_eq_true rfl) ?_
  intro p_ e_ s_ m_ args_ below_ meth_ c_ S g_r g_k hK
  refine gw_eq (ws' := [(hc, .inr (5, [.ref ho, .int ky, .int pn, .int tr, .int ct, .int rn, .int sn, .int ac, .int ed, .int md, .int mn, .int mo, .int lo, .int up]))]) (lv' := [(0, .ref hc)]) (st' := []) (pc' := 0) rfl rfl rfl rfl ?_
  refine gw_aload_n S dc_Card_isRunAtLower_0 rfl 0 rfl ?_
  refine gw_get S hK.1 ic_Card rfl 12 (by decide) (gw_lk S mw_212) 0 rfl rfl dc_Card_isRunAtLower_1 ?_
  refine gw_iconst (v := -1) S dc_Card_isRunAtLower_4 (by decide) ?_
  refine gw_icmp_eq (tgt := 23) S dc_Card_isRunAtLower_5 (by decide) (fun c_1 => ?_) (fun c_1 => ?_)
  · -- taken
    refine gw_iconst (v := 0) S dc_Card_isRunAtLower_23 (by decide) ?_
    exact gw_zretR S g_r g_k rfl (by simp only [f_Card_isRunAtLower, if_pos c_1]) dc_Card_isRunAtLower_24
  · -- not
    refine gw_aload_n S dc_Card_isRunAtLower_8 rfl 0 rfl ?_
    refine gw_get S hK.1 ic_Card rfl 5 (by decide) (gw_lk S mw_197) 0 rfl rfl dc_Card_isRunAtLower_9 ?_
    refine gw_aload_n S dc_Card_isRunAtLower_12 rfl 0 rfl ?_
    refine gw_get S hK.1 ic_Card rfl 12 (by decide) (gw_lk S mw_212) 0 rfl rfl dc_Card_isRunAtLower_13 ?_
    refine gw_icmp_lt (tgt := 23) S dc_Card_isRunAtLower_16 (by decide) (fun c_2 => ?_) (fun c_2 => ?_)
    · -- taken
      refine gw_iconst (v := 0) S dc_Card_isRunAtLower_23 (by decide) ?_
      exact gw_zretR S g_r g_k rfl (by simp only [f_Card_isRunAtLower, if_neg c_1, if_pos c_2]) dc_Card_isRunAtLower_24
    · -- not
      refine gw_iconst (v := 1) S dc_Card_isRunAtLower_19 (by decide) ?_
      refine gw_goto (tgt := 24) S dc_Card_isRunAtLower_20 (by decide) ?_
      exact gw_zretR S g_r g_k rfl (by simp only [f_Card_isRunAtLower, if_neg c_1, if_neg c_2]) dc_Card_isRunAtLower_24
def f_Card_isRunAtUpper (rn : Int32) (up : Int32) : Int32 := if up = (-1) then 0 else (if rn < up then 0 else (1))
theorem b_Card_isRunAtUpper (rn : Int32) (up : Int32) : f_Card_isRunAtUpper rn up = 0 ∨ f_Card_isRunAtUpper rn up = 1 := by
  unfold f_Card_isRunAtUpper
  exact (bo_ite (Or.inl rfl) (bo_ite (Or.inl rfl) (Or.inr rfl)))
set_option maxRecDepth 100000 in
set_option maxHeartbeats 4000000 in
theorem c_Card_isRunAtUpper (l : Launch) (D : va_G) (cA : Nat → ClassId) (hc : Nat) (ho : Nat) (ky : Int32) (pn : Int32) (tr : Int32) (ct : Int32) (rn : Int32) (sn : Int32) (ac : Int32) (ed : Int32) (md : Int32) (mn : Int32) (mo : Int32) (lo : Int32) (up : Int32)  : ct_R l D cA yn_Card_isRunAtUpper cd_Card_isRunAtUpper 1 [.ref hc] [(hc, .inr (5, [.ref ho, .int ky, .int pn, .int tr, .int ct, .int rn, .int sn, .int ac, .int ed, .int md, .int mn, .int mo, .int lo, .int up]))] (fun v_ => v_ = some (.int (f_Card_isRunAtUpper rn up))) := by
  refine gw_metR (by decide) rfl (Nat.le_of_ble_eq_true rfl) ?_
  intro p_ e_ s_ m_ args_ below_ meth_ c_ S g_r g_k hK
  refine gw_eq (ws' := [(hc, .inr (5, [.ref ho, .int ky, .int pn, .int tr, .int ct, .int rn, .int sn, .int ac, .int ed, .int md, .int mn, .int mo, .int lo, .int up]))]) (lv' := [(0, .ref hc)]) (st' := []) (pc' := 0) rfl rfl rfl rfl ?_
  refine gw_aload_n S dc_Card_isRunAtUpper_0 rfl 0 rfl ?_
  refine gw_get S hK.1 ic_Card rfl 13 (by decide) (gw_lk S mw_214) 0 rfl rfl dc_Card_isRunAtUpper_1 ?_
  refine gw_iconst (v := -1) S dc_Card_isRunAtUpper_4 (by decide) ?_
  refine gw_icmp_eq (tgt := 23) S dc_Card_isRunAtUpper_5 (by decide) (fun c_1 => ?_) (fun c_1 => ?_)
  · -- taken
    refine gw_iconst (v := 0) S dc_Card_isRunAtUpper_23 (by decide) ?_
    exact gw_zretR S g_r g_k rfl (by simp only [f_Card_isRunAtUpper, if_pos c_1]) dc_Card_isRunAtUpper_24
  · -- not
    refine gw_aload_n S dc_Card_isRunAtUpper_8 rfl 0 rfl ?_
    refine gw_get S hK.1 ic_Card rfl 5 (by decide) (gw_lk S mw_197) 0 rfl rfl dc_Card_isRunAtUpper_9 ?_
    refine gw_aload_n S dc_Card_isRunAtUpper_12 rfl 0 rfl ?_
    refine gw_get S hK.1 ic_Card rfl 13 (by decide) (gw_lk S mw_214) 0 rfl rfl dc_Card_isRunAtUpper_13 ?_
    refine gw_icmp_lt (tgt := 23) S dc_Card_isRunAtUpper_16 (by decide) (fun c_2 => ?_) (fun c_2 => ?_)
    · -- taken
      refine gw_iconst (v := 0) S dc_Card_isRunAtUpper_23 (by decide) ?_
      exact gw_zretR S g_r g_k rfl (by simp only [f_Card_isRunAtUpper, if_neg c_1, if_pos c_2]) dc_Card_isRunAtUpper_24
    · -- not
      refine gw_iconst (v := 1) S dc_Card_isRunAtUpper_19 (by decide) ?_
      refine gw_goto (tgt := 24) S dc_Card_isRunAtUpper_20 (by decide) ?_
      exact gw_zretR S g_r g_k rfl (by simp only [f_Card_isRunAtUpper, if_neg c_1, if_neg c_2]) dc_Card_isRunAtUpper_24
def f_Card_isBlocked (tr : Int32) : Int32 := if tr = 0 then 1 else (0)
theorem b_Card_isBlocked (tr : Int32) : f_Card_isBlocked tr = 0 ∨ f_Card_isBlocked tr = 1 := by
  unfold f_Card_isBlocked
  exact (bo_ite (Or.inr rfl) (Or.inl rfl))
set_option maxRecDepth 100000 in
set_option maxHeartbeats 4000000 in
theorem c_Card_isBlocked (l : Launch) (D : va_G) (cA : Nat → ClassId) (hc : Nat) (ho : Nat) (ky : Int32) (pn : Int32) (tr : Int32) (ct : Int32) (rn : Int32) (sn : Int32) (ac : Int32) (ed : Int32) (md : Int32) (mn : Int32) (mo : Int32) (lo : Int32) (up : Int32)  : ct_R l D cA yn_Card_isBlocked cd_Card_isBlocked 1 [.ref hc] [(hc, .inr (5, [.ref ho, .int ky, .int pn, .int tr, .int ct, .int rn, .int sn, .int ac, .int ed, .int md, .int mn, .int mo, .int lo, .int up]))] (fun v_ => v_ = some (.int (f_Card_isBlocked tr))) := by
  refine gw_metR (by decide) rfl (Nat.le_of_ble_eq_true rfl) ?_
  intro p_ e_ s_ m_ args_ below_ meth_ c_ S g_r g_k hK
  refine gw_eq (ws' := [(hc, .inr (5, [.ref ho, .int ky, .int pn, .int tr, .int ct, .int rn, .int sn, .int ac, .int ed, .int md, .int mn, .int mo, .int lo, .int up]))]) (lv' := [(0, .ref hc)]) (st' := []) (pc' := 0) rfl rfl rfl rfl ?_
  refine gw_aload_n S dc_Card_isBlocked_0 rfl 0 rfl ?_
  refine gw_get S hK.1 ic_Card rfl 3 (by decide) (gw_lk S mw_194) 0 rfl rfl dc_Card_isBlocked_1 ?_
  refine gw_if_ne (tgt := 11) S dc_Card_isBlocked_4 (by decide) (fun c_1 => ?_) (fun c_1 => ?_)
  · -- taken
    refine gw_iconst (v := 0) S dc_Card_isBlocked_11 (by decide) ?_
    exact gw_zretR S g_r g_k rfl (by simp only [f_Card_isBlocked, if_neg c_1]) dc_Card_isBlocked_12
  · -- not
    refine gw_iconst (v := 1) S dc_Card_isBlocked_7 (by decide) ?_
    refine gw_goto (tgt := 12) S dc_Card_isBlocked_8 (by decide) ?_
    exact gw_zretR S g_r g_k rfl (by simp only [f_Card_isBlocked, if_pos c_1]) dc_Card_isBlocked_12
def f_Card_acceptsPin (pn : Int32) (x : Int32) : Int32 := if x = pn then 1 else (0)
def f_Card_acceptsPin_tries (pn : Int32) (tr : Int32) (x : Int32) : Int32 := if x = pn then 3 else (tr - 1)
theorem b_Card_acceptsPin (pn : Int32) (x : Int32) : f_Card_acceptsPin pn x = 0 ∨ f_Card_acceptsPin pn x = 1 := by
  unfold f_Card_acceptsPin
  exact (bo_ite (Or.inr rfl) (Or.inl rfl))
set_option maxRecDepth 100000 in
set_option maxHeartbeats 4000000 in
theorem c_Card_acceptsPin (l : Launch) (D : va_G) (cA : Nat → ClassId) (sz : Nat) (hc : Nat) (ho : Nat) (ky : Int32) (pn : Int32) (tr : Int32) (ct : Int32) (rn : Int32) (sn : Int32) (ac : Int32) (ed : Int32) (md : Int32) (mn : Int32) (mo : Int32) (lo : Int32) (up : Int32) (x : Int32)  : ct_M l D cA yn_Card_acceptsPin cd_Card_acceptsPin 1 0 0 sz [.ref hc, .int x] [(hc, .inr (5, [.ref ho, .int ky, .int pn, .int tr, .int ct, .int rn, .int sn, .int ac, .int ed, .int md, .int mn, .int mo, .int lo, .int up]))] (fun v_ w_ => v_ = some (.int (f_Card_acceptsPin pn x)) ∧ w_ = [(hc, .inr (5, [.ref ho, .int ky, .int pn, .int (f_Card_acceptsPin_tries pn tr x), .int ct, .int rn, .int sn, .int ac, .int ed, .int md, .int mn, .int mo, .int lo, .int up]))]) := by
  refine gw_met (by decide) rfl (Nat.le_of_ble_eq_true rfl) ?_
  intro p_ e_ s_ m_ args_ below_ meth_ c_ A_ S g_r g_k g_n hK hA
  refine gw_eq (ws' := [(hc, .inr (5, [.ref ho, .int ky, .int pn, .int tr, .int ct, .int rn, .int sn, .int ac, .int ed, .int md, .int mn, .int mo, .int lo, .int up]))]) (lv' := [(0, .ref hc), (1, .int x)]) (st' := []) (pc' := 0) rfl rfl rfl rfl ?_
  refine gw_iload_n S dc_Card_acceptsPin_0 rfl 1 rfl ?_
  refine gw_aload_n S dc_Card_acceptsPin_1 rfl 0 rfl ?_
  refine gw_get S hK.1 ic_Card rfl 2 (by decide) (gw_lk S mw_193) 0 rfl rfl dc_Card_acceptsPin_2 ?_
  refine gw_icmp_ne (tgt := 15) S dc_Card_acceptsPin_5 (by decide) (fun c_1 => ?_) (fun c_1 => ?_)
  · -- taken
    refine gw_aload_n S dc_Card_acceptsPin_15 rfl 0 rfl ?_
    refine gw_dup S dc_Card_acceptsPin_16 rfl ?_
    refine gw_get S hK.1 ic_Card rfl 3 (by decide) (gw_lk S mw_194) 0 rfl rfl dc_Card_acceptsPin_17 ?_
    refine gw_iconst (v := 1) S dc_Card_acceptsPin_20 (by decide) ?_
    refine gw_isub S dc_Card_acceptsPin_21 ?_
    refine gw_put (ws' := [(hc, .inr (5, [.ref ho, .int ky, .int pn, .int (tr - 1), .int ct, .int rn, .int sn, .int ac, .int ed, .int md, .int mn, .int mo, .int lo, .int up]))]) (ty := .int) S hK.1 ic_Card rfl 3 (by decide) ty_Card to_Card nm_Card (gw_lk S mw_194) 0 rfl rfl (by decide +kernel) rfl rfl (Nat.le_of_ble_eq_true rfl) rfl dc_Card_acceptsPin_22 ?_
    refine gw_iconst (v := 0) S dc_Card_acceptsPin_25 (by decide) ?_
    exact gw_zret (w := [(hc, .inr (5, [.ref ho, .int ky, .int pn, .int (tr - 1), .int ct, .int rn, .int sn, .int ac, .int ed, .int md, .int mn, .int mo, .int lo, .int up]))]) S g_r g_k rfl [0] rfl (by decide) ⟨(by simp only [f_Card_acceptsPin, f_Card_acceptsPin_tries, if_neg c_1]), (by simp only [f_Card_acceptsPin, f_Card_acceptsPin_tries, if_neg c_1])⟩ dc_Card_acceptsPin_26
  · -- not
    refine gw_aload_n S dc_Card_acceptsPin_8 rfl 0 rfl ?_
    refine gw_iconst (v := 3) S dc_Card_acceptsPin_9 (by decide) ?_
    refine gw_put (ws' := [(hc, .inr (5, [.ref ho, .int ky, .int pn, .int 3, .int ct, .int rn, .int sn, .int ac, .int ed, .int md, .int mn, .int mo, .int lo, .int up]))]) (ty := .int) S hK.1 ic_Card rfl 3 (by decide) ty_Card to_Card nm_Card (gw_lk S mw_194) 0 rfl rfl (by decide +kernel) rfl rfl (Nat.le_of_ble_eq_true rfl) rfl dc_Card_acceptsPin_10 ?_
    refine gw_iconst (v := 1) S dc_Card_acceptsPin_13 (by decide) ?_
    exact gw_zret (w := [(hc, .inr (5, [.ref ho, .int ky, .int pn, .int 3, .int ct, .int rn, .int sn, .int ac, .int ed, .int md, .int mn, .int mo, .int lo, .int up]))]) S g_r g_k rfl [0] rfl (by decide) ⟨(by simp only [f_Card_acceptsPin, f_Card_acceptsPin_tries, if_pos c_1]), (by simp only [f_Card_acceptsPin, f_Card_acceptsPin_tries, if_pos c_1])⟩ dc_Card_acceptsPin_14
def f_Card_firstAnswer (tr : Int32) (rn : Int32) (up : Int32) (w : Int32) : Int32 := if w = 0 then 0 else (if (f_Card_isBlocked tr) = 0 then (if w = 1 then 1 else (if (f_Card_isRunAtUpper rn up) = 0 then 2 else (1))) else (0))
set_option maxRecDepth 100000 in
set_option maxHeartbeats 4000000 in
theorem c_Card_firstAnswer (l : Launch) (D : va_G) (cA : Nat → ClassId) (hc : Nat) (ho : Nat) (ky : Int32) (pn : Int32) (tr : Int32) (ct : Int32) (rn : Int32) (sn : Int32) (ac : Int32) (ed : Int32) (md : Int32) (mn : Int32) (mo : Int32) (lo : Int32) (up : Int32) (w : Int32)  : ct_R l D cA yn_Card_firstAnswer cd_Card_firstAnswer 2 [.ref hc, .int w] [(hc, .inr (5, [.ref ho, .int ky, .int pn, .int tr, .int ct, .int rn, .int sn, .int ac, .int ed, .int md, .int mn, .int mo, .int lo, .int up]))] (fun v_ => v_ = some (.int (f_Card_firstAnswer tr rn up w))) := by
  refine gw_metR (by decide) rfl (Nat.le_of_ble_eq_true rfl) ?_
  intro p_ e_ s_ m_ args_ below_ meth_ c_ S g_r g_k hK
  refine gw_eq (ws' := [(hc, .inr (5, [.ref ho, .int ky, .int pn, .int tr, .int ct, .int rn, .int sn, .int ac, .int ed, .int md, .int mn, .int mo, .int lo, .int up]))]) (lv' := [(0, .ref hc), (1, .int w)]) (st' := []) (pc' := 0) rfl rfl rfl rfl ?_
  refine gw_iload_n S dc_Card_firstAnswer_0 rfl 1 rfl ?_
  refine gw_if_eq (tgt := 11) S dc_Card_firstAnswer_1 (by decide) (fun c_1 => ?_) (fun c_1 => ?_)
  · -- taken
    refine gw_iconst (v := 0) S dc_Card_firstAnswer_11 (by decide) ?_
    exact gw_iretR S g_r g_k  (by simp only [f_Card_firstAnswer, if_pos c_1]) dc_Card_firstAnswer_12
  · -- not
    refine gw_aload_n S dc_Card_firstAnswer_4 rfl 0 rfl ?_
    refine gw_callVR (As := []) (st := []) S hK (c_Card_isBlocked l D cA hc ho ky pn tr ct rn sn ac ed md mn mo lo up ) (cw_Card_105 S.2.2.2.2 rfl rfl ⟨Nat.le_of_ble_eq_true rfl, Nat.le_of_ble_eq_true rfl⟩) [0] rfl (by decide) 0 rfl rfl rfl rfl rfl (Nat.le_of_ble_eq_true rfl) dc_Card_firstAnswer_5 ⟨Nat.le_of_ble_eq_true rfl, Nat.le_of_ble_eq_true rfl⟩ ?_
    rintro _ rfl
    refine gw_eq (ws' := [(hc, .inr (5, [.ref ho, .int ky, .int pn, .int tr, .int ct, .int rn, .int sn, .int ac, .int ed, .int md, .int mn, .int mo, .int lo, .int up]))]) (lv' := [(0, .ref hc), (1, .int w)]) (st' := [.int (f_Card_isBlocked tr)]) (pc' := 8) rfl rfl rfl rfl ?_
    refine gw_if_eq (tgt := 13) S dc_Card_firstAnswer_8 (by decide) (fun c_3 => ?_) (fun c_3 => ?_)
    · -- taken
      refine gw_iload_n S dc_Card_firstAnswer_13 rfl 1 rfl ?_
      refine gw_iconst (v := 1) S dc_Card_firstAnswer_14 (by decide) ?_
      refine gw_icmp_eq (tgt := 25) S dc_Card_firstAnswer_15 (by decide) (fun c_4 => ?_) (fun c_4 => ?_)
      · -- taken
        refine gw_iconst (v := 1) S dc_Card_firstAnswer_25 (by decide) ?_
        refine gw_goto (tgt := 30) S dc_Card_firstAnswer_26 (by decide) ?_
        exact gw_iretR S g_r g_k  (by simp only [f_Card_firstAnswer, if_neg c_1, if_pos c_3, if_pos c_4]) dc_Card_firstAnswer_30
      · -- not
        refine gw_aload_n S dc_Card_firstAnswer_18 rfl 0 rfl ?_
        refine gw_callVR (As := []) (st := []) S hK (c_Card_isRunAtUpper l D cA hc ho ky pn tr ct rn sn ac ed md mn mo lo up ) (cw_Card_109 S.2.2.2.2 rfl rfl ⟨Nat.le_of_ble_eq_true rfl, Nat.le_of_ble_eq_true rfl⟩) [0] rfl (by decide) 0 rfl rfl rfl rfl rfl (Nat.le_of_ble_eq_true rfl) dc_Card_firstAnswer_19 ⟨Nat.le_of_ble_eq_true rfl, Nat.le_of_ble_eq_true rfl⟩ ?_
        rintro _ rfl
        refine gw_eq (ws' := [(hc, .inr (5, [.ref ho, .int ky, .int pn, .int tr, .int ct, .int rn, .int sn, .int ac, .int ed, .int md, .int mn, .int mo, .int lo, .int up]))]) (lv' := [(0, .ref hc), (1, .int w)]) (st' := [.int (f_Card_isRunAtUpper rn up)]) (pc' := 22) rfl rfl rfl rfl ?_
        refine gw_if_eq (tgt := 29) S dc_Card_firstAnswer_22 (by decide) (fun c_6 => ?_) (fun c_6 => ?_)
        · -- taken
          refine gw_iconst (v := 2) S dc_Card_firstAnswer_29 (by decide) ?_
          exact gw_iretR S g_r g_k  (by simp only [f_Card_firstAnswer, if_neg c_1, if_pos c_3, if_neg c_4, if_pos c_6]) dc_Card_firstAnswer_30
        · -- not
          refine gw_iconst (v := 1) S dc_Card_firstAnswer_25 (by decide) ?_
          refine gw_goto (tgt := 30) S dc_Card_firstAnswer_26 (by decide) ?_
          exact gw_iretR S g_r g_k  (by simp only [f_Card_firstAnswer, if_neg c_1, if_pos c_3, if_neg c_4, if_neg c_6]) dc_Card_firstAnswer_30
    · -- not
      refine gw_iconst (v := 0) S dc_Card_firstAnswer_11 (by decide) ?_
      exact gw_iretR S g_r g_k  (by simp only [f_Card_firstAnswer, if_neg c_1, if_neg c_3]) dc_Card_firstAnswer_12
def f_Card_acceptsReply (ky : Int32) (x : Int32) (y : Int32) (s0 : Int32) : Int32 := if (f_Mac_seal ky x y) = s0 then 1 else (0)
def f_Card_acceptsReply_run (ky : Int32) (rn : Int32) (x : Int32) (y : Int32) (s0 : Int32) : Int32 := if (f_Mac_seal ky x y) = s0 then 0 else (rn)
def f_Card_acceptsReply_seen (ky : Int32) (sn : Int32) (x : Int32) (y : Int32) (s0 : Int32) : Int32 := if (f_Mac_seal ky x y) = s0 then 1 else (sn)
theorem b_Card_acceptsReply (ky : Int32) (x : Int32) (y : Int32) (s0 : Int32) : f_Card_acceptsReply ky x y s0 = 0 ∨ f_Card_acceptsReply ky x y s0 = 1 := by
  unfold f_Card_acceptsReply
  exact (bo_ite (Or.inr rfl) (Or.inl rfl))
set_option maxRecDepth 100000 in
set_option maxHeartbeats 4000000 in
theorem c_Card_acceptsReply (l : Launch) (D : va_G) (cA : Nat → ClassId) (sz : Nat) (hc : Nat) (ho : Nat) (ky : Int32) (pn : Int32) (tr : Int32) (ct : Int32) (rn : Int32) (sn : Int32) (ac : Int32) (ed : Int32) (md : Int32) (mn : Int32) (mo : Int32) (lo : Int32) (up : Int32) (x : Int32) (y : Int32) (s0 : Int32)  : ct_M l D cA yn_Card_acceptsReply cd_Card_acceptsReply 3 0 0 sz [.ref hc, .int x, .int y, .int s0] [(hc, .inr (5, [.ref ho, .int ky, .int pn, .int tr, .int ct, .int rn, .int sn, .int ac, .int ed, .int md, .int mn, .int mo, .int lo, .int up]))] (fun v_ w_ => v_ = some (.int (f_Card_acceptsReply ky x y s0)) ∧ w_ = [(hc, .inr (5, [.ref ho, .int ky, .int pn, .int tr, .int ct, .int (f_Card_acceptsReply_run ky rn x y s0), .int (f_Card_acceptsReply_seen ky sn x y s0), .int ac, .int ed, .int md, .int mn, .int mo, .int lo, .int up]))]) := by
  refine gw_met (by decide) rfl (Nat.le_of_ble_eq_true rfl) ?_
  intro p_ e_ s_ m_ args_ below_ meth_ c_ A_ S g_r g_k g_n hK hA
  refine gw_eq (ws' := [(hc, .inr (5, [.ref ho, .int ky, .int pn, .int tr, .int ct, .int rn, .int sn, .int ac, .int ed, .int md, .int mn, .int mo, .int lo, .int up]))]) (lv' := [(0, .ref hc), (1, .int x), (2, .int y), (3, .int s0)]) (st' := []) (pc' := 0) rfl rfl rfl rfl ?_
  refine gw_aload_n S dc_Card_acceptsReply_0 rfl 0 rfl ?_
  refine gw_get S hK.1 ic_Card rfl 1 (by decide) (gw_lk S mw_191) 0 rfl rfl dc_Card_acceptsReply_1 ?_
  refine gw_iload_n S dc_Card_acceptsReply_4 rfl 1 rfl ?_
  refine gw_iload_n S dc_Card_acceptsReply_5 rfl 2 rfl ?_
  refine gw_callSR (As := [.int ky, .int x, .int y]) (st := []) S hK (c_Mac_seal l D cA ky x y ) (cw_Card_112 S.2.2.2.2 rfl rfl ⟨Nat.le_of_ble_eq_true rfl, Nat.le_of_ble_eq_true rfl⟩) [] rfl (by decide) rfl rfl (Nat.le_of_ble_eq_true rfl) dc_Card_acceptsReply_6 ⟨Nat.le_of_ble_eq_true rfl, Nat.le_of_ble_eq_true rfl⟩ ?_
  rintro _ rfl
  refine gw_eq (ws' := [(hc, .inr (5, [.ref ho, .int ky, .int pn, .int tr, .int ct, .int rn, .int sn, .int ac, .int ed, .int md, .int mn, .int mo, .int lo, .int up]))]) (lv' := [(0, .ref hc), (1, .int x), (2, .int y), (3, .int s0)]) (st' := [.int (f_Mac_seal ky x y)]) (pc' := 9) rfl rfl rfl rfl ?_
  refine gw_iload_n S dc_Card_acceptsReply_9 rfl 3 rfl ?_
  refine gw_icmp_eq (tgt := 15) S dc_Card_acceptsReply_10 (by decide) (fun c_2 => ?_) (fun c_2 => ?_)
  · -- taken
    refine gw_aload_n S dc_Card_acceptsReply_15 rfl 0 rfl ?_
    refine gw_iconst (v := 0) S dc_Card_acceptsReply_16 (by decide) ?_
    refine gw_put (ws' := [(hc, .inr (5, [.ref ho, .int ky, .int pn, .int tr, .int ct, .int 0, .int sn, .int ac, .int ed, .int md, .int mn, .int mo, .int lo, .int up]))]) (ty := .int) S hK.1 ic_Card rfl 5 (by decide) ty_Card to_Card nm_Card (gw_lk S mw_197) 0 rfl rfl (by decide +kernel) rfl rfl (Nat.le_of_ble_eq_true rfl) rfl dc_Card_acceptsReply_17 ?_
    refine gw_aload_n S dc_Card_acceptsReply_20 rfl 0 rfl ?_
    refine gw_iconst (v := 1) S dc_Card_acceptsReply_21 (by decide) ?_
    refine gw_put (ws' := [(hc, .inr (5, [.ref ho, .int ky, .int pn, .int tr, .int ct, .int 0, .int 1, .int ac, .int ed, .int md, .int mn, .int mo, .int lo, .int up]))]) (ty := .boolean) S hK.1 ic_Card rfl 6 (by decide) ty_Card to_Card nm_Card (gw_lk S mw_199) 0 rfl rfl (by decide +kernel) rfl rfl (Nat.le_of_ble_eq_true rfl) rfl dc_Card_acceptsReply_22 ?_
    refine gw_iconst (v := 1) S dc_Card_acceptsReply_25 (by decide) ?_
    exact gw_zret (w := [(hc, .inr (5, [.ref ho, .int ky, .int pn, .int tr, .int ct, .int 0, .int 1, .int ac, .int ed, .int md, .int mn, .int mo, .int lo, .int up]))]) S g_r g_k rfl [0] rfl (by decide) ⟨(by simp only [f_Card_acceptsReply, f_Card_acceptsReply_run, f_Card_acceptsReply_seen, if_pos c_2]), (by simp only [f_Card_acceptsReply, f_Card_acceptsReply_run, f_Card_acceptsReply_seen, if_pos c_2])⟩ dc_Card_acceptsReply_26
  · -- not
    refine gw_iconst (v := 0) S dc_Card_acceptsReply_13 (by decide) ?_
    exact gw_zret (w := [(hc, .inr (5, [.ref ho, .int ky, .int pn, .int tr, .int ct, .int rn, .int sn, .int ac, .int ed, .int md, .int mn, .int mo, .int lo, .int up]))]) S g_r g_k rfl [0] rfl (by decide) ⟨(by simp only [f_Card_acceptsReply, f_Card_acceptsReply_run, f_Card_acceptsReply_seen, if_neg c_2]), (by simp only [f_Card_acceptsReply, f_Card_acceptsReply_run, f_Card_acceptsReply_seen, if_neg c_2])⟩ dc_Card_acceptsReply_14
def f_Card_tell (tr : Int32) (ct : Int32) (rn : Int32) (sn : Int32) (ac : Int32) (z : Int32) (w : Int32) : Int32 := if w = 0 then tr else (if w = 1 then ct else (if w = 2 then rn else (if w = 3 then (if sn = 0 then 0 else (1)) else (if w = 4 then z else (if w = 5 then ac else (-1))))))
set_option maxRecDepth 100000 in
set_option maxHeartbeats 4000000 in
theorem c_Card_tell (l : Launch) (D : va_G) (cA : Nat → ClassId) (hc : Nat) (ho : Nat) (ky : Int32) (pn : Int32) (tr : Int32) (ct : Int32) (rn : Int32) (sn : Int32) (ac : Int32) (ed : Int32) (md : Int32) (mn : Int32) (mo : Int32) (lo : Int32) (up : Int32) (hr : Nat) (ht : Nat) (hs : Nat) (hl : Nat) (hi : Nat) (z : Int32) (w : Int32)  : ct_R l D cA yn_Card_tell cd_Card_tell 2 [.ref hc, .int w] [(hc, .inr (5, [.ref ho, .int ky, .int pn, .int tr, .int ct, .int rn, .int sn, .int ac, .int ed, .int md, .int mn, .int mo, .int lo, .int up])), (ho, .inr (4, [.ref hr, .ref ht, .ref hs, .ref hl, .ref hi, .int z]))] (fun v_ => v_ = some (.int (f_Card_tell tr ct rn sn ac z w))) := by
  refine gw_metR (by decide) rfl (Nat.le_of_ble_eq_true rfl) ?_
  intro p_ e_ s_ m_ args_ below_ meth_ c_ S g_r g_k hK
  refine gw_eq (ws' := [(hc, .inr (5, [.ref ho, .int ky, .int pn, .int tr, .int ct, .int rn, .int sn, .int ac, .int ed, .int md, .int mn, .int mo, .int lo, .int up])), (ho, .inr (4, [.ref hr, .ref ht, .ref hs, .ref hl, .ref hi, .int z]))]) (lv' := [(0, .ref hc), (1, .int w)]) (st' := []) (pc' := 0) rfl rfl rfl rfl ?_
  refine gw_iload_n S dc_Card_tell_0 rfl 1 rfl ?_
  rcases Classical.em (w = 0) with c_1 | c_1
  · -- case 0
    refine gw_tableIn (tgt := 40) S dc_Card_tell_1 (by rw [c_1]; decide) (by rw [c_1]; decide) (by rw [c_1]; rfl) (by decide) ?_
    refine gw_aload_n S dc_Card_tell_40 rfl 0 rfl ?_
    refine gw_get S hK.1 ic_Card rfl 3 (by decide) (gw_lk S mw_194) 0 rfl rfl dc_Card_tell_41 ?_
    exact gw_iretR S g_r g_k  (by simp only [f_Card_tell, if_pos c_1]) dc_Card_tell_44
  · -- else
    rcases Classical.em (w = 1) with c_2 | c_2
    · -- case 1
      refine gw_tableIn (tgt := 45) S dc_Card_tell_1 (by rw [c_2]; decide) (by rw [c_2]; decide) (by rw [c_2]; rfl) (by decide) ?_
      refine gw_aload_n S dc_Card_tell_45 rfl 0 rfl ?_
      refine gw_get S hK.1 ic_Card rfl 4 (by decide) (gw_lk S mw_195) 0 rfl rfl dc_Card_tell_46 ?_
      exact gw_iretR S g_r g_k  (by simp only [f_Card_tell, if_neg c_1, if_pos c_2]) dc_Card_tell_49
    · -- else
      rcases Classical.em (w = 2) with c_3 | c_3
      · -- case 2
        refine gw_tableIn (tgt := 50) S dc_Card_tell_1 (by rw [c_3]; decide) (by rw [c_3]; decide) (by rw [c_3]; rfl) (by decide) ?_
        refine gw_aload_n S dc_Card_tell_50 rfl 0 rfl ?_
        refine gw_get S hK.1 ic_Card rfl 5 (by decide) (gw_lk S mw_197) 0 rfl rfl dc_Card_tell_51 ?_
        exact gw_iretR S g_r g_k  (by simp only [f_Card_tell, if_neg c_1, if_neg c_2, if_pos c_3]) dc_Card_tell_54
      · -- else
        rcases Classical.em (w = 3) with c_4 | c_4
        · -- case 3
          refine gw_tableIn (tgt := 55) S dc_Card_tell_1 (by rw [c_4]; decide) (by rw [c_4]; decide) (by rw [c_4]; rfl) (by decide) ?_
          refine gw_aload_n S dc_Card_tell_55 rfl 0 rfl ?_
          refine gw_get S hK.1 ic_Card rfl 6 (by decide) (gw_lk S mw_199) 0 rfl rfl dc_Card_tell_56 ?_
          refine gw_if_eq (tgt := 66) S dc_Card_tell_59 (by decide) (fun c_5 => ?_) (fun c_5 => ?_)
          · -- taken
            refine gw_iconst (v := 0) S dc_Card_tell_66 (by decide) ?_
            exact gw_iretR S g_r g_k  (by simp only [f_Card_tell, if_neg c_1, if_neg c_2, if_neg c_3, if_pos c_4, if_pos c_5]) dc_Card_tell_67
          · -- not
            refine gw_iconst (v := 1) S dc_Card_tell_62 (by decide) ?_
            refine gw_goto (tgt := 67) S dc_Card_tell_63 (by decide) ?_
            exact gw_iretR S g_r g_k  (by simp only [f_Card_tell, if_neg c_1, if_neg c_2, if_neg c_3, if_pos c_4, if_neg c_5]) dc_Card_tell_67
        · -- else
          rcases Classical.em (w = 4) with c_6 | c_6
          · -- case 4
            refine gw_tableIn (tgt := 68) S dc_Card_tell_1 (by rw [c_6]; decide) (by rw [c_6]; decide) (by rw [c_6]; rfl) (by decide) ?_
            refine gw_aload_n S dc_Card_tell_68 rfl 0 rfl ?_
            refine gw_get S hK.1 ic_Card rfl 0 (by decide) (gw_lk S mw_188) 0 rfl rfl dc_Card_tell_69 ?_
            refine gw_callVR (As := []) (st := []) S hK (c_Tree_size l D cA ho hr ht hs hl hi z ) (cw_Card_101 S.2.2.2.2 rfl rfl ⟨Nat.le_of_ble_eq_true rfl, Nat.le_of_ble_eq_true rfl⟩) [1] rfl (by decide) 0 rfl rfl rfl rfl rfl (Nat.le_of_ble_eq_true rfl) dc_Card_tell_72 ⟨Nat.le_of_ble_eq_true rfl, Nat.le_of_ble_eq_true rfl⟩ ?_
            rintro _ rfl
            refine gw_eq (ws' := [(hc, .inr (5, [.ref ho, .int ky, .int pn, .int tr, .int ct, .int rn, .int sn, .int ac, .int ed, .int md, .int mn, .int mo, .int lo, .int up])), (ho, .inr (4, [.ref hr, .ref ht, .ref hs, .ref hl, .ref hi, .int z]))]) (lv' := [(0, .ref hc), (1, .int w)]) (st' := [.int z]) (pc' := 75) rfl rfl rfl rfl ?_
            exact gw_iretR S g_r g_k  (by simp only [f_Card_tell, if_neg c_1, if_neg c_2, if_neg c_3, if_neg c_4, if_pos c_6]) dc_Card_tell_75
          · -- else
            rcases Classical.em (w = 5) with c_8 | c_8
            · -- case 5
              refine gw_tableIn (tgt := 76) S dc_Card_tell_1 (by rw [c_8]; decide) (by rw [c_8]; decide) (by rw [c_8]; rfl) (by decide) ?_
              refine gw_aload_n S dc_Card_tell_76 rfl 0 rfl ?_
              refine gw_get S hK.1 ic_Card rfl 7 (by decide) (gw_lk S mw_201) 0 rfl rfl dc_Card_tell_77 ?_
              exact gw_iretR S g_r g_k  (by simp only [f_Card_tell, if_neg c_1, if_neg c_2, if_neg c_3, if_neg c_4, if_neg c_6, if_pos c_8]) dc_Card_tell_80
            · -- else
              have nc_1 := lv_neT c_1 (a := 0) (by decide)
              have nc_2 := lv_neT c_2 (a := 1) (by decide)
              have nc_3 := lv_neT c_3 (a := 2) (by decide)
              have nc_4 := lv_neT c_4 (a := 3) (by decide)
              have nc_6 := lv_neT c_6 (a := 4) (by decide)
              have nc_8 := lv_neT c_8 (a := 5) (by decide)
              refine gw_tableOut (tgt := 81) S dc_Card_tell_1 (by omega) (by decide) ?_
              refine gw_iconst (v := -1) S dc_Card_tell_81 (by decide) ?_
              exact gw_iretR S g_r g_k  (by simp only [f_Card_tell, if_neg c_1, if_neg c_2, if_neg c_3, if_neg c_4, if_neg c_6, if_neg c_8]) dc_Card_tell_82
set_option maxRecDepth 100000 in
set_option maxHeartbeats 4000000 in
theorem c_Pmt_start (l : Launch) (D : va_G) (cA : Nat → ClassId) (sz : Nat) (hp : Nat) (hd : Nat) (nu : Int32) (am : Int32) (ty : Int32) (fa : Int32) (oc : Int32) (fl : Int32) (wi : Int32) (fi : Int32) (fc : Int32) (s2 : Int32) (sc : Int32) (co : Int32) (x : Int32) (y : Int32) (w : Int32)  : ct_M l D cA yn_Pmt_start cd_Pmt_start 1 0 0 sz [.ref hp, .int x, .int y, .int w] [(hp, .inr (3, [.ref hd, .int nu, .int am, .int ty, .int fa, .int oc, .int fl, .int wi, .int fi, .int fc, .int s2, .int sc, .int co]))] (fun v_ w_ => v_ = none ∧ w_ = [(hp, .inr (3, [.ref hd, .int (nu + 1), .int x, .int y, .int w, .int oc, .int 0, .int wi, .int fi, .int fc, .int (-1), .int 0, .int 0]))]) := by
  refine gw_met (by decide) rfl (Nat.le_of_ble_eq_true rfl) ?_
  intro p_ e_ s_ m_ args_ below_ meth_ c_ A_ S g_r g_k g_n hK hA
  refine gw_eq (ws' := [(hp, .inr (3, [.ref hd, .int nu, .int am, .int ty, .int fa, .int oc, .int fl, .int wi, .int fi, .int fc, .int s2, .int sc, .int co]))]) (lv' := [(0, .ref hp), (1, .int x), (2, .int y), (3, .int w)]) (st' := []) (pc' := 0) rfl rfl rfl rfl ?_
  refine gw_aload_n S dc_Pmt_start_0 rfl 0 rfl ?_
  refine gw_dup S dc_Pmt_start_1 rfl ?_
  refine gw_get S hK.1 ic_Pmt rfl 1 (by decide) (gw_lk S mw_87) 0 rfl rfl dc_Pmt_start_2 ?_
  refine gw_iconst (v := 1) S dc_Pmt_start_5 (by decide) ?_
  refine gw_iadd S dc_Pmt_start_6 ?_
  refine gw_put (ws' := [(hp, .inr (3, [.ref hd, .int (nu + 1), .int am, .int ty, .int fa, .int oc, .int fl, .int wi, .int fi, .int fc, .int s2, .int sc, .int co]))]) (ty := .int) S hK.1 ic_Pmt rfl 1 (by decide) ty_Pmt to_Pmt nm_Pmt (gw_lk S mw_87) 0 rfl rfl (by decide +kernel) rfl rfl (Nat.le_of_ble_eq_true rfl) rfl dc_Pmt_start_7 ?_
  refine gw_aload_n S dc_Pmt_start_10 rfl 0 rfl ?_
  refine gw_iload_n S dc_Pmt_start_11 rfl 1 rfl ?_
  refine gw_put (ws' := [(hp, .inr (3, [.ref hd, .int (nu + 1), .int x, .int ty, .int fa, .int oc, .int fl, .int wi, .int fi, .int fc, .int s2, .int sc, .int co]))]) (ty := .int) S hK.1 ic_Pmt rfl 2 (by decide) ty_Pmt to_Pmt nm_Pmt (gw_lk S mw_90) 0 rfl rfl (by decide +kernel) rfl rfl (Nat.le_of_ble_eq_true rfl) rfl dc_Pmt_start_12 ?_
  refine gw_aload_n S dc_Pmt_start_15 rfl 0 rfl ?_
  refine gw_iload_n S dc_Pmt_start_16 rfl 2 rfl ?_
  refine gw_put (ws' := [(hp, .inr (3, [.ref hd, .int (nu + 1), .int x, .int y, .int fa, .int oc, .int fl, .int wi, .int fi, .int fc, .int s2, .int sc, .int co]))]) (ty := .int) S hK.1 ic_Pmt rfl 3 (by decide) ty_Pmt to_Pmt nm_Pmt (gw_lk S mw_91) 0 rfl rfl (by decide +kernel) rfl rfl (Nat.le_of_ble_eq_true rfl) rfl dc_Pmt_start_17 ?_
  refine gw_aload_n S dc_Pmt_start_20 rfl 0 rfl ?_
  refine gw_iload_n S dc_Pmt_start_21 rfl 3 rfl ?_
  refine gw_put (ws' := [(hp, .inr (3, [.ref hd, .int (nu + 1), .int x, .int y, .int w, .int oc, .int fl, .int wi, .int fi, .int fc, .int s2, .int sc, .int co]))]) (ty := .int) S hK.1 ic_Pmt rfl 4 (by decide) ty_Pmt to_Pmt nm_Pmt (gw_lk S mw_92) 0 rfl rfl (by decide +kernel) rfl rfl (Nat.le_of_ble_eq_true rfl) rfl dc_Pmt_start_22 ?_
  refine gw_aload_n S dc_Pmt_start_25 rfl 0 rfl ?_
  refine gw_iconst (v := 0) S dc_Pmt_start_26 (by decide) ?_
  refine gw_put (ws' := [(hp, .inr (3, [.ref hd, .int (nu + 1), .int x, .int y, .int w, .int oc, .int 0, .int wi, .int fi, .int fc, .int s2, .int sc, .int co]))]) (ty := .int) S hK.1 ic_Pmt rfl 6 (by decide) ty_Pmt to_Pmt nm_Pmt (gw_lk S mw_95) 0 rfl rfl (by decide +kernel) rfl rfl (Nat.le_of_ble_eq_true rfl) rfl dc_Pmt_start_27 ?_
  refine gw_aload_n S dc_Pmt_start_30 rfl 0 rfl ?_
  refine gw_iconst (v := -1) S dc_Pmt_start_31 (by decide) ?_
  refine gw_put (ws' := [(hp, .inr (3, [.ref hd, .int (nu + 1), .int x, .int y, .int w, .int oc, .int 0, .int wi, .int fi, .int fc, .int (-1), .int sc, .int co]))]) (ty := .int) S hK.1 ic_Pmt rfl 10 (by decide) ty_Pmt to_Pmt nm_Pmt (gw_lk S mw_99) 0 rfl rfl (by decide +kernel) rfl rfl (Nat.le_of_ble_eq_true rfl) rfl dc_Pmt_start_32 ?_
  refine gw_aload_n S dc_Pmt_start_35 rfl 0 rfl ?_
  refine gw_iconst (v := 0) S dc_Pmt_start_36 (by decide) ?_
  refine gw_put (ws' := [(hp, .inr (3, [.ref hd, .int (nu + 1), .int x, .int y, .int w, .int oc, .int 0, .int wi, .int fi, .int fc, .int (-1), .int 0, .int co]))]) (ty := .int) S hK.1 ic_Pmt rfl 11 (by decide) ty_Pmt to_Pmt nm_Pmt (gw_lk S mw_100) 0 rfl rfl (by decide +kernel) rfl rfl (Nat.le_of_ble_eq_true rfl) rfl dc_Pmt_start_37 ?_
  refine gw_aload_n S dc_Pmt_start_40 rfl 0 rfl ?_
  refine gw_iconst (v := 0) S dc_Pmt_start_41 (by decide) ?_
  refine gw_put (ws' := [(hp, .inr (3, [.ref hd, .int (nu + 1), .int x, .int y, .int w, .int oc, .int 0, .int wi, .int fi, .int fc, .int (-1), .int 0, .int 0]))]) (ty := .int) S hK.1 ic_Pmt rfl 12 (by decide) ty_Pmt to_Pmt nm_Pmt (gw_lk S mw_102) 0 rfl rfl (by decide +kernel) rfl rfl (Nat.le_of_ble_eq_true rfl) rfl dc_Pmt_start_42 ?_
  exact gw_vret (w := [(hp, .inr (3, [.ref hd, .int (nu + 1), .int x, .int y, .int w, .int oc, .int 0, .int wi, .int fi, .int fc, .int (-1), .int 0, .int 0]))]) S g_r g_k  [0] rfl (by decide) ⟨rfl, rfl⟩ dc_Pmt_start_45
def f_Pmt_setIf_flags (fl : Int32) (x : Int32) (y : Int32) : Int32 := if x = 0 then fl else (fl ||| y)
set_option maxRecDepth 100000 in
set_option maxHeartbeats 4000000 in
theorem c_Pmt_setIf (l : Launch) (D : va_G) (cA : Nat → ClassId) (sz : Nat) (hp : Nat) (hd : Nat) (nu : Int32) (am : Int32) (ty : Int32) (fa : Int32) (oc : Int32) (fl : Int32) (wi : Int32) (fi : Int32) (fc : Int32) (s2 : Int32) (sc : Int32) (co : Int32) (x : Int32) (y : Int32)  : ct_M l D cA yn_Pmt_setIf cd_Pmt_setIf 1 0 0 sz [.ref hp, .int x, .int y] [(hp, .inr (3, [.ref hd, .int nu, .int am, .int ty, .int fa, .int oc, .int fl, .int wi, .int fi, .int fc, .int s2, .int sc, .int co]))] (fun v_ w_ => v_ = none ∧ w_ = [(hp, .inr (3, [.ref hd, .int nu, .int am, .int ty, .int fa, .int oc, .int (f_Pmt_setIf_flags fl x y), .int wi, .int fi, .int fc, .int s2, .int sc, .int co]))]) := by
  refine gw_met (by decide) rfl (Nat.le_of_ble_eq_true rfl) ?_
  intro p_ e_ s_ m_ args_ below_ meth_ c_ A_ S g_r g_k g_n hK hA
  refine gw_eq (ws' := [(hp, .inr (3, [.ref hd, .int nu, .int am, .int ty, .int fa, .int oc, .int fl, .int wi, .int fi, .int fc, .int s2, .int sc, .int co]))]) (lv' := [(0, .ref hp), (1, .int x), (2, .int y)]) (st' := []) (pc' := 0) rfl rfl rfl rfl ?_
  refine gw_iload_n S dc_Pmt_setIf_0 rfl 1 rfl ?_
  refine gw_if_eq (tgt := 14) S dc_Pmt_setIf_1 (by decide) (fun c_1 => ?_) (fun c_1 => ?_)
  · -- taken
    exact gw_vret (w := [(hp, .inr (3, [.ref hd, .int nu, .int am, .int ty, .int fa, .int oc, .int fl, .int wi, .int fi, .int fc, .int s2, .int sc, .int co]))]) S g_r g_k  [0] rfl (by decide) ⟨(by simp only [f_Pmt_setIf_flags, if_pos c_1]), (by simp only [f_Pmt_setIf_flags, if_pos c_1])⟩ dc_Pmt_setIf_14
  · -- not
    refine gw_aload_n S dc_Pmt_setIf_4 rfl 0 rfl ?_
    refine gw_dup S dc_Pmt_setIf_5 rfl ?_
    refine gw_get S hK.1 ic_Pmt rfl 6 (by decide) (gw_lk S mw_95) 0 rfl rfl dc_Pmt_setIf_6 ?_
    refine gw_iload_n S dc_Pmt_setIf_9 rfl 2 rfl ?_
    refine gw_ior S dc_Pmt_setIf_10 ?_
    refine gw_put (ws' := [(hp, .inr (3, [.ref hd, .int nu, .int am, .int ty, .int fa, .int oc, .int (fl ||| y), .int wi, .int fi, .int fc, .int s2, .int sc, .int co]))]) (ty := .int) S hK.1 ic_Pmt rfl 6 (by decide) ty_Pmt to_Pmt nm_Pmt (gw_lk S mw_95) 0 rfl rfl (by decide +kernel) rfl rfl (Nat.le_of_ble_eq_true rfl) rfl dc_Pmt_setIf_11 ?_
    exact gw_vret (w := [(hp, .inr (3, [.ref hd, .int nu, .int am, .int ty, .int fa, .int oc, .int (fl ||| y), .int wi, .int fi, .int fc, .int s2, .int sc, .int co]))]) S g_r g_k  [0] rfl (by decide) ⟨(by simp only [f_Pmt_setIf_flags, if_neg c_1]), (by simp only [f_Pmt_setIf_flags, if_neg c_1])⟩ dc_Pmt_setIf_14
def f_Pmt_hasFlagIn (fl : Int32) (x : Int32) : Int32 := if (fl &&& x) = 0 then 0 else (1)
theorem b_Pmt_hasFlagIn (fl : Int32) (x : Int32) : f_Pmt_hasFlagIn fl x = 0 ∨ f_Pmt_hasFlagIn fl x = 1 := by
  unfold f_Pmt_hasFlagIn
  exact (bo_ite (Or.inl rfl) (Or.inr rfl))
set_option maxRecDepth 100000 in
set_option maxHeartbeats 4000000 in
theorem c_Pmt_hasFlagIn (l : Launch) (D : va_G) (cA : Nat → ClassId) (hp : Nat) (hd : Nat) (nu : Int32) (am : Int32) (ty : Int32) (fa : Int32) (oc : Int32) (fl : Int32) (wi : Int32) (fi : Int32) (fc : Int32) (s2 : Int32) (sc : Int32) (co : Int32) (x : Int32)  : ct_R l D cA yn_Pmt_hasFlagIn cd_Pmt_hasFlagIn 1 [.ref hp, .int x] [(hp, .inr (3, [.ref hd, .int nu, .int am, .int ty, .int fa, .int oc, .int fl, .int wi, .int fi, .int fc, .int s2, .int sc, .int co]))] (fun v_ => v_ = some (.int (f_Pmt_hasFlagIn fl x))) := by
  refine gw_metR (by decide) rfl (Nat.le_of_ble_eq_true rfl) ?_
  intro p_ e_ s_ m_ args_ below_ meth_ c_ S g_r g_k hK
  refine gw_eq (ws' := [(hp, .inr (3, [.ref hd, .int nu, .int am, .int ty, .int fa, .int oc, .int fl, .int wi, .int fi, .int fc, .int s2, .int sc, .int co]))]) (lv' := [(0, .ref hp), (1, .int x)]) (st' := []) (pc' := 0) rfl rfl rfl rfl ?_
  refine gw_aload_n S dc_Pmt_hasFlagIn_0 rfl 0 rfl ?_
  refine gw_get S hK.1 ic_Pmt rfl 6 (by decide) (gw_lk S mw_95) 0 rfl rfl dc_Pmt_hasFlagIn_1 ?_
  refine gw_iload_n S dc_Pmt_hasFlagIn_4 rfl 1 rfl ?_
  refine gw_iand S dc_Pmt_hasFlagIn_5 ?_
  refine gw_if_eq (tgt := 13) S dc_Pmt_hasFlagIn_6 (by decide) (fun c_1 => ?_) (fun c_1 => ?_)
  · -- taken
    refine gw_iconst (v := 0) S dc_Pmt_hasFlagIn_13 (by decide) ?_
    exact gw_zretR S g_r g_k rfl (by simp only [f_Pmt_hasFlagIn, if_pos c_1]) dc_Pmt_hasFlagIn_14
  · -- not
    refine gw_iconst (v := 1) S dc_Pmt_hasFlagIn_9 (by decide) ?_
    refine gw_goto (tgt := 14) S dc_Pmt_hasFlagIn_10 (by decide) ?_
    exact gw_zretR S g_r g_k rfl (by simp only [f_Pmt_hasFlagIn, if_neg c_1]) dc_Pmt_hasFlagIn_14
def f_Pmt_tell (nu : Int32) (oc : Int32) (fl : Int32) (wi : Int32) (fi : Int32) (fc : Int32) (s2 : Int32) (sc : Int32) (co : Int32) (x : Int32) : Int32 := if x = 0 then oc else (if x = 1 then fl else (if x = 2 then wi else (if x = 3 then fi else (if x = 4 then fc else (if x = 5 then s2 else (if x = 6 then sc else (if x = 7 then co else (if x = 8 then nu else (-1)))))))))
set_option maxRecDepth 100000 in
set_option maxHeartbeats 4000000 in
theorem c_Pmt_tell (l : Launch) (D : va_G) (cA : Nat → ClassId) (hp : Nat) (hd : Nat) (nu : Int32) (am : Int32) (ty : Int32) (fa : Int32) (oc : Int32) (fl : Int32) (wi : Int32) (fi : Int32) (fc : Int32) (s2 : Int32) (sc : Int32) (co : Int32) (x : Int32)  : ct_R l D cA yn_Pmt_tell cd_Pmt_tell 1 [.ref hp, .int x] [(hp, .inr (3, [.ref hd, .int nu, .int am, .int ty, .int fa, .int oc, .int fl, .int wi, .int fi, .int fc, .int s2, .int sc, .int co]))] (fun v_ => v_ = some (.int (f_Pmt_tell nu oc fl wi fi fc s2 sc co x))) := by
  refine gw_metR (by decide) rfl (Nat.le_of_ble_eq_true rfl) ?_
  intro p_ e_ s_ m_ args_ below_ meth_ c_ S g_r g_k hK
  refine gw_eq (ws' := [(hp, .inr (3, [.ref hd, .int nu, .int am, .int ty, .int fa, .int oc, .int fl, .int wi, .int fi, .int fc, .int s2, .int sc, .int co]))]) (lv' := [(0, .ref hp), (1, .int x)]) (st' := []) (pc' := 0) rfl rfl rfl rfl ?_
  refine gw_iload_n S dc_Pmt_tell_0 rfl 1 rfl ?_
  rcases Classical.em (x = 0) with c_1 | c_1
  · -- case 0
    refine gw_tableIn (tgt := 52) S dc_Pmt_tell_1 (by rw [c_1]; decide) (by rw [c_1]; decide) (by rw [c_1]; rfl) (by decide) ?_
    refine gw_aload_n S dc_Pmt_tell_52 rfl 0 rfl ?_
    refine gw_get S hK.1 ic_Pmt rfl 5 (by decide) (gw_lk S mw_93) 0 rfl rfl dc_Pmt_tell_53 ?_
    exact gw_iretR S g_r g_k  (by simp only [f_Pmt_tell, if_pos c_1]) dc_Pmt_tell_56
  · -- else
    rcases Classical.em (x = 1) with c_2 | c_2
    · -- case 1
      refine gw_tableIn (tgt := 57) S dc_Pmt_tell_1 (by rw [c_2]; decide) (by rw [c_2]; decide) (by rw [c_2]; rfl) (by decide) ?_
      refine gw_aload_n S dc_Pmt_tell_57 rfl 0 rfl ?_
      refine gw_get S hK.1 ic_Pmt rfl 6 (by decide) (gw_lk S mw_95) 0 rfl rfl dc_Pmt_tell_58 ?_
      exact gw_iretR S g_r g_k  (by simp only [f_Pmt_tell, if_neg c_1, if_pos c_2]) dc_Pmt_tell_61
    · -- else
      rcases Classical.em (x = 2) with c_3 | c_3
      · -- case 2
        refine gw_tableIn (tgt := 62) S dc_Pmt_tell_1 (by rw [c_3]; decide) (by rw [c_3]; decide) (by rw [c_3]; rfl) (by decide) ?_
        refine gw_aload_n S dc_Pmt_tell_62 rfl 0 rfl ?_
        refine gw_get S hK.1 ic_Pmt rfl 7 (by decide) (gw_lk S mw_96) 0 rfl rfl dc_Pmt_tell_63 ?_
        exact gw_iretR S g_r g_k  (by simp only [f_Pmt_tell, if_neg c_1, if_neg c_2, if_pos c_3]) dc_Pmt_tell_66
      · -- else
        rcases Classical.em (x = 3) with c_4 | c_4
        · -- case 3
          refine gw_tableIn (tgt := 67) S dc_Pmt_tell_1 (by rw [c_4]; decide) (by rw [c_4]; decide) (by rw [c_4]; rfl) (by decide) ?_
          refine gw_aload_n S dc_Pmt_tell_67 rfl 0 rfl ?_
          refine gw_get S hK.1 ic_Pmt rfl 8 (by decide) (gw_lk S mw_97) 0 rfl rfl dc_Pmt_tell_68 ?_
          exact gw_iretR S g_r g_k  (by simp only [f_Pmt_tell, if_neg c_1, if_neg c_2, if_neg c_3, if_pos c_4]) dc_Pmt_tell_71
        · -- else
          rcases Classical.em (x = 4) with c_5 | c_5
          · -- case 4
            refine gw_tableIn (tgt := 72) S dc_Pmt_tell_1 (by rw [c_5]; decide) (by rw [c_5]; decide) (by rw [c_5]; rfl) (by decide) ?_
            refine gw_aload_n S dc_Pmt_tell_72 rfl 0 rfl ?_
            refine gw_get S hK.1 ic_Pmt rfl 9 (by decide) (gw_lk S mw_98) 0 rfl rfl dc_Pmt_tell_73 ?_
            exact gw_iretR S g_r g_k  (by simp only [f_Pmt_tell, if_neg c_1, if_neg c_2, if_neg c_3, if_neg c_4, if_pos c_5]) dc_Pmt_tell_76
          · -- else
            rcases Classical.em (x = 5) with c_6 | c_6
            · -- case 5
              refine gw_tableIn (tgt := 77) S dc_Pmt_tell_1 (by rw [c_6]; decide) (by rw [c_6]; decide) (by rw [c_6]; rfl) (by decide) ?_
              refine gw_aload_n S dc_Pmt_tell_77 rfl 0 rfl ?_
              refine gw_get S hK.1 ic_Pmt rfl 10 (by decide) (gw_lk S mw_99) 0 rfl rfl dc_Pmt_tell_78 ?_
              exact gw_iretR S g_r g_k  (by simp only [f_Pmt_tell, if_neg c_1, if_neg c_2, if_neg c_3, if_neg c_4, if_neg c_5, if_pos c_6]) dc_Pmt_tell_81
            · -- else
              rcases Classical.em (x = 6) with c_7 | c_7
              · -- case 6
                refine gw_tableIn (tgt := 82) S dc_Pmt_tell_1 (by rw [c_7]; decide) (by rw [c_7]; decide) (by rw [c_7]; rfl) (by decide) ?_
                refine gw_aload_n S dc_Pmt_tell_82 rfl 0 rfl ?_
                refine gw_get S hK.1 ic_Pmt rfl 11 (by decide) (gw_lk S mw_100) 0 rfl rfl dc_Pmt_tell_83 ?_
                exact gw_iretR S g_r g_k  (by simp only [f_Pmt_tell, if_neg c_1, if_neg c_2, if_neg c_3, if_neg c_4, if_neg c_5, if_neg c_6, if_pos c_7]) dc_Pmt_tell_86
              · -- else
                rcases Classical.em (x = 7) with c_8 | c_8
                · -- case 7
                  refine gw_tableIn (tgt := 87) S dc_Pmt_tell_1 (by rw [c_8]; decide) (by rw [c_8]; decide) (by rw [c_8]; rfl) (by decide) ?_
                  refine gw_aload_n S dc_Pmt_tell_87 rfl 0 rfl ?_
                  refine gw_get S hK.1 ic_Pmt rfl 12 (by decide) (gw_lk S mw_102) 0 rfl rfl dc_Pmt_tell_88 ?_
                  exact gw_iretR S g_r g_k  (by simp only [f_Pmt_tell, if_neg c_1, if_neg c_2, if_neg c_3, if_neg c_4, if_neg c_5, if_neg c_6, if_neg c_7, if_pos c_8]) dc_Pmt_tell_91
                · -- else
                  rcases Classical.em (x = 8) with c_9 | c_9
                  · -- case 8
                    refine gw_tableIn (tgt := 92) S dc_Pmt_tell_1 (by rw [c_9]; decide) (by rw [c_9]; decide) (by rw [c_9]; rfl) (by decide) ?_
                    refine gw_aload_n S dc_Pmt_tell_92 rfl 0 rfl ?_
                    refine gw_get S hK.1 ic_Pmt rfl 1 (by decide) (gw_lk S mw_87) 0 rfl rfl dc_Pmt_tell_93 ?_
                    exact gw_iretR S g_r g_k  (by simp only [f_Pmt_tell, if_neg c_1, if_neg c_2, if_neg c_3, if_neg c_4, if_neg c_5, if_neg c_6, if_neg c_7, if_neg c_8, if_pos c_9]) dc_Pmt_tell_96
                  · -- else
                    have nc_1 := lv_neT c_1 (a := 0) (by decide)
                    have nc_2 := lv_neT c_2 (a := 1) (by decide)
                    have nc_3 := lv_neT c_3 (a := 2) (by decide)
                    have nc_4 := lv_neT c_4 (a := 3) (by decide)
                    have nc_5 := lv_neT c_5 (a := 4) (by decide)
                    have nc_6 := lv_neT c_6 (a := 5) (by decide)
                    have nc_7 := lv_neT c_7 (a := 6) (by decide)
                    have nc_8 := lv_neT c_8 (a := 7) (by decide)
                    have nc_9 := lv_neT c_9 (a := 8) (by decide)
                    refine gw_tableOut (tgt := 97) S dc_Pmt_tell_1 (by omega) (by decide) ?_
                    refine gw_iconst (v := -1) S dc_Pmt_tell_97 (by decide) ?_
                    exact gw_iretR S g_r g_k  (by simp only [f_Pmt_tell, if_neg c_1, if_neg c_2, if_neg c_3, if_neg c_4, if_neg c_5, if_neg c_6, if_neg c_7, if_neg c_8, if_neg c_9]) dc_Pmt_tell_98
def f_Pmt_isCase (am : Int32) (g : Nat → Int32) (x : Int32) (y : Int32) : Int32 := if x = 0 then 1 else (if x = 1 then (if y ≤ am then 0 else (1)) else (if x = 2 then (if am ≤ y then 0 else (1)) else (if x = 3 then (f_Term_hasPad g) else (0))))
theorem b_Pmt_isCase (am : Int32) (g : Nat → Int32) (x : Int32) (y : Int32) : f_Pmt_isCase am g x y = 0 ∨ f_Pmt_isCase am g x y = 1 := by
  unfold f_Pmt_isCase
  exact (bo_ite (Or.inr rfl) (bo_ite (bo_ite (Or.inl rfl) (Or.inr rfl)) (bo_ite (bo_ite (Or.inl rfl) (Or.inr rfl)) (bo_ite (b_Term_hasPad g) (Or.inl rfl)))))
set_option maxRecDepth 100000 in
set_option maxHeartbeats 4000000 in
theorem c_Pmt_isCase (l : Launch) (D : va_G) (cA : Nat → ClassId) (hp : Nat) (hd : Nat) (nu : Int32) (am : Int32) (ty : Int32) (fa : Int32) (oc : Int32) (fl : Int32) (wi : Int32) (fi : Int32) (fc : Int32) (s2 : Int32) (sc : Int32) (co : Int32) (te : Nat) (hs : Nat) (g : Nat → Int32) (x : Int32) (y : Int32)  : ct_R l D cA yn_Pmt_isCase cd_Pmt_isCase 2 [.ref hp, .int x, .int y, .ref te] [(hp, .inr (3, [.ref hd, .int nu, .int am, .int ty, .int fa, .int oc, .int fl, .int wi, .int fi, .int fc, .int s2, .int sc, .int co])), (te, .inr (1, [.ref hs])), (hs, .inl (cA 0, 7, .inl g))] (fun v_ => v_ = some (.int (f_Pmt_isCase am g x y))) := by
  refine gw_metR (by decide) rfl (Nat.le_of_ble_eq_true rfl) ?_
  intro p_ e_ s_ m_ args_ below_ meth_ c_ S g_r g_k hK
  refine gw_eq (ws' := [(hp, .inr (3, [.ref hd, .int nu, .int am, .int ty, .int fa, .int oc, .int fl, .int wi, .int fi, .int fc, .int s2, .int sc, .int co])), (te, .inr (1, [.ref hs])), (hs, .inl (cA 0, 7, .inl g))]) (lv' := [(0, .ref hp), (1, .int x), (2, .int y), (3, .ref te)]) (st' := []) (pc' := 0) rfl rfl rfl rfl ?_
  refine gw_iload_n S dc_Pmt_isCase_0 rfl 1 rfl ?_
  rcases Classical.em (x = 0) with c_1 | c_1
  · -- case 0
    refine gw_tableIn (tgt := 32) S dc_Pmt_isCase_1 (by rw [c_1]; decide) (by rw [c_1]; decide) (by rw [c_1]; rfl) (by decide) ?_
    refine gw_iconst (v := 1) S dc_Pmt_isCase_32 (by decide) ?_
    exact gw_zretR S g_r g_k rfl (by simp only [f_Pmt_isCase, if_pos c_1]) dc_Pmt_isCase_33
  · -- else
    rcases Classical.em (x = 1) with c_2 | c_2
    · -- case 1
      refine gw_tableIn (tgt := 34) S dc_Pmt_isCase_1 (by rw [c_2]; decide) (by rw [c_2]; decide) (by rw [c_2]; rfl) (by decide) ?_
      refine gw_aload_n S dc_Pmt_isCase_34 rfl 0 rfl ?_
      refine gw_get S hK.1 ic_Pmt rfl 2 (by decide) (gw_lk S mw_90) 0 rfl rfl dc_Pmt_isCase_35 ?_
      refine gw_iload_n S dc_Pmt_isCase_38 rfl 2 rfl ?_
      refine gw_icmp_ge (tgt := 46) S dc_Pmt_isCase_39 (by decide) (fun c_3 => ?_) (fun c_3 => ?_)
      · -- taken
        refine gw_iconst (v := 0) S dc_Pmt_isCase_46 (by decide) ?_
        exact gw_zretR S g_r g_k rfl (by simp only [f_Pmt_isCase, if_neg c_1, if_pos c_2, if_pos c_3]) dc_Pmt_isCase_47
      · -- not
        refine gw_iconst (v := 1) S dc_Pmt_isCase_42 (by decide) ?_
        refine gw_goto (tgt := 47) S dc_Pmt_isCase_43 (by decide) ?_
        exact gw_zretR S g_r g_k rfl (by simp only [f_Pmt_isCase, if_neg c_1, if_pos c_2, if_neg c_3]) dc_Pmt_isCase_47
    · -- else
      rcases Classical.em (x = 2) with c_4 | c_4
      · -- case 2
        refine gw_tableIn (tgt := 48) S dc_Pmt_isCase_1 (by rw [c_4]; decide) (by rw [c_4]; decide) (by rw [c_4]; rfl) (by decide) ?_
        refine gw_aload_n S dc_Pmt_isCase_48 rfl 0 rfl ?_
        refine gw_get S hK.1 ic_Pmt rfl 2 (by decide) (gw_lk S mw_90) 0 rfl rfl dc_Pmt_isCase_49 ?_
        refine gw_iload_n S dc_Pmt_isCase_52 rfl 2 rfl ?_
        refine gw_icmp_le (tgt := 60) S dc_Pmt_isCase_53 (by decide) (fun c_5 => ?_) (fun c_5 => ?_)
        · -- taken
          refine gw_iconst (v := 0) S dc_Pmt_isCase_60 (by decide) ?_
          exact gw_zretR S g_r g_k rfl (by simp only [f_Pmt_isCase, if_neg c_1, if_neg c_2, if_pos c_4, if_pos c_5]) dc_Pmt_isCase_61
        · -- not
          refine gw_iconst (v := 1) S dc_Pmt_isCase_56 (by decide) ?_
          refine gw_goto (tgt := 61) S dc_Pmt_isCase_57 (by decide) ?_
          exact gw_zretR S g_r g_k rfl (by simp only [f_Pmt_isCase, if_neg c_1, if_neg c_2, if_pos c_4, if_neg c_5]) dc_Pmt_isCase_61
      · -- else
        rcases Classical.em (x = 3) with c_6 | c_6
        · -- case 3
          refine gw_tableIn (tgt := 62) S dc_Pmt_isCase_1 (by rw [c_6]; decide) (by rw [c_6]; decide) (by rw [c_6]; rfl) (by decide) ?_
          refine gw_aload_n S dc_Pmt_isCase_62 rfl 3 rfl ?_
          refine gw_callVR (As := []) (st := []) S hK (c_Term_hasPad l D cA te hs g ) (cw_Pmt_141 S.2.2.2.2 rfl rfl ⟨Nat.le_of_ble_eq_true rfl, Nat.le_of_ble_eq_true rfl⟩) [1, 2] rfl (by decide) 0 rfl rfl rfl rfl rfl (Nat.le_of_ble_eq_true rfl) dc_Pmt_isCase_63 ⟨Nat.le_of_ble_eq_true rfl, Nat.le_of_ble_eq_true rfl⟩ ?_
          rintro _ rfl
          refine gw_eq (ws' := [(hp, .inr (3, [.ref hd, .int nu, .int am, .int ty, .int fa, .int oc, .int fl, .int wi, .int fi, .int fc, .int s2, .int sc, .int co])), (te, .inr (1, [.ref hs])), (hs, .inl (cA 0, 7, .inl g))]) (lv' := [(0, .ref hp), (1, .int x), (2, .int y), (3, .ref te)]) (st' := [.int (f_Term_hasPad g)]) (pc' := 66) rfl rfl rfl rfl ?_
          exact gw_zretR S g_r g_k (z_cx (b_Term_hasPad g)) (by simp only [f_Pmt_isCase, if_neg c_1, if_neg c_2, if_neg c_4, if_pos c_6]) dc_Pmt_isCase_66
        · -- else
          have nc_1 := lv_neT c_1 (a := 0) (by decide)
          have nc_2 := lv_neT c_2 (a := 1) (by decide)
          have nc_4 := lv_neT c_4 (a := 2) (by decide)
          have nc_6 := lv_neT c_6 (a := 3) (by decide)
          refine gw_tableOut (tgt := 67) S dc_Pmt_isCase_1 (by omega) (by decide) ?_
          refine gw_iconst (v := 0) S dc_Pmt_isCase_67 (by decide) ?_
          exact gw_zretR S g_r g_k rfl (by simp only [f_Pmt_isCase, if_neg c_1, if_neg c_2, if_neg c_4, if_neg c_6]) dc_Pmt_isCase_68
def f_Pmt_isPinRight (ty : Int32) (pn : Int32) (tr : Int32) (g : Nat → Int32) : Int32 := if (f_Term_hasPad g) = 0 then 0 else (if ty = (-1) then 0 else (if (f_Card_isBlocked tr) = 0 then (f_Card_acceptsPin pn ty) else (0)))
def f_Pmt_isPinRight_flags (ty : Int32) (fl : Int32) (tr : Int32) (g : Nat → Int32) : Int32 := if (f_Term_hasPad g) = 0 then (fl ||| 16) else (if ty = (-1) then (fl ||| 16) else (if (f_Card_isBlocked tr) = 0 then fl else (fl ||| 32)))
def f_Pmt_isPinRight_tries (ty : Int32) (pn : Int32) (tr : Int32) (g : Nat → Int32) : Int32 := if (f_Term_hasPad g) = 0 then tr else (if ty = (-1) then tr else (if (f_Card_isBlocked tr) = 0 then (f_Card_acceptsPin_tries pn tr ty) else (tr)))
theorem b_Pmt_isPinRight (ty : Int32) (pn : Int32) (tr : Int32) (g : Nat → Int32) : f_Pmt_isPinRight ty pn tr g = 0 ∨ f_Pmt_isPinRight ty pn tr g = 1 := by
  unfold f_Pmt_isPinRight
  exact (bo_ite (Or.inl rfl) (bo_ite (Or.inl rfl) (bo_ite (b_Card_acceptsPin pn ty) (Or.inl rfl))))
set_option maxRecDepth 100000 in
set_option maxHeartbeats 4000000 in
theorem c_Pmt_isPinRight (l : Launch) (D : va_G) (cA : Nat → ClassId) (sz : Nat) (hp : Nat) (hd : Nat) (nu : Int32) (am : Int32) (ty : Int32) (fa : Int32) (oc : Int32) (fl : Int32) (wi : Int32) (fi : Int32) (fc : Int32) (s2 : Int32) (sc : Int32) (co : Int32) (hc : Nat) (ho : Nat) (ky : Int32) (pn : Int32) (tr : Int32) (ct : Int32) (rn : Int32) (sn : Int32) (ac : Int32) (ed : Int32) (md : Int32) (mn : Int32) (mo : Int32) (lo : Int32) (up : Int32) (te : Nat) (hs : Nat) (g : Nat → Int32)  : ct_M l D cA yn_Pmt_isPinRight cd_Pmt_isPinRight 2 0 0 sz [.ref hp, .ref hc, .ref te] [(hp, .inr (3, [.ref hd, .int nu, .int am, .int ty, .int fa, .int oc, .int fl, .int wi, .int fi, .int fc, .int s2, .int sc, .int co])), (hc, .inr (5, [.ref ho, .int ky, .int pn, .int tr, .int ct, .int rn, .int sn, .int ac, .int ed, .int md, .int mn, .int mo, .int lo, .int up])), (te, .inr (1, [.ref hs])), (hs, .inl (cA 0, 7, .inl g))] (fun v_ w_ => v_ = some (.int (f_Pmt_isPinRight ty pn tr g)) ∧ w_ = [(hp, .inr (3, [.ref hd, .int nu, .int am, .int ty, .int fa, .int oc, .int (f_Pmt_isPinRight_flags ty fl tr g), .int wi, .int fi, .int fc, .int s2, .int sc, .int co])), (hc, .inr (5, [.ref ho, .int ky, .int pn, .int (f_Pmt_isPinRight_tries ty pn tr g), .int ct, .int rn, .int sn, .int ac, .int ed, .int md, .int mn, .int mo, .int lo, .int up])), (te, .inr (1, [.ref hs])), (hs, .inl (cA 0, 7, .inl g))]) := by
  refine gw_met (by decide) rfl (Nat.le_of_ble_eq_true rfl) ?_
  intro p_ e_ s_ m_ args_ below_ meth_ c_ A_ S g_r g_k g_n hK hA
  refine gw_eq (ws' := [(hp, .inr (3, [.ref hd, .int nu, .int am, .int ty, .int fa, .int oc, .int fl, .int wi, .int fi, .int fc, .int s2, .int sc, .int co])), (hc, .inr (5, [.ref ho, .int ky, .int pn, .int tr, .int ct, .int rn, .int sn, .int ac, .int ed, .int md, .int mn, .int mo, .int lo, .int up])), (te, .inr (1, [.ref hs])), (hs, .inl (cA 0, 7, .inl g))]) (lv' := [(0, .ref hp), (1, .ref hc), (2, .ref te)]) (st' := []) (pc' := 0) rfl rfl rfl rfl ?_
  refine gw_aload_n S dc_Pmt_isPinRight_0 rfl 2 rfl ?_
  refine gw_callVR (As := []) (st := []) S hK (c_Term_hasPad l D cA te hs g ) (cw_Pmt_141 S.2.2.2.2 rfl rfl ⟨Nat.le_of_ble_eq_true rfl, Nat.le_of_ble_eq_true rfl⟩) [2, 3] rfl (by decide) 0 rfl rfl rfl rfl rfl (Nat.le_of_ble_eq_true rfl) dc_Pmt_isPinRight_1 ⟨Nat.le_of_ble_eq_true rfl, Nat.le_of_ble_eq_true rfl⟩ ?_
  rintro _ rfl
  refine gw_eq (ws' := [(hp, .inr (3, [.ref hd, .int nu, .int am, .int ty, .int fa, .int oc, .int fl, .int wi, .int fi, .int fc, .int s2, .int sc, .int co])), (hc, .inr (5, [.ref ho, .int ky, .int pn, .int tr, .int ct, .int rn, .int sn, .int ac, .int ed, .int md, .int mn, .int mo, .int lo, .int up])), (te, .inr (1, [.ref hs])), (hs, .inl (cA 0, 7, .inl g))]) (lv' := [(0, .ref hp), (1, .ref hc), (2, .ref te)]) (st' := [.int (f_Term_hasPad g)]) (pc' := 4) rfl rfl rfl rfl ?_
  refine gw_if_eq (tgt := 15) S dc_Pmt_isPinRight_4 (by decide) (fun c_2 => ?_) (fun c_2 => ?_)
  · -- taken
    refine gw_aload_n S dc_Pmt_isPinRight_15 rfl 0 rfl ?_
    refine gw_dup S dc_Pmt_isPinRight_16 rfl ?_
    refine gw_get S hK.1 ic_Pmt rfl 6 (by decide) (gw_lk S mw_95) 0 rfl rfl dc_Pmt_isPinRight_17 ?_
    refine gw_bipush (v := 16) S dc_Pmt_isPinRight_20 (by decide) ?_
    refine gw_ior S dc_Pmt_isPinRight_22 ?_
    refine gw_put (ws' := [(hp, .inr (3, [.ref hd, .int nu, .int am, .int ty, .int fa, .int oc, .int (fl ||| 16), .int wi, .int fi, .int fc, .int s2, .int sc, .int co])), (hc, .inr (5, [.ref ho, .int ky, .int pn, .int tr, .int ct, .int rn, .int sn, .int ac, .int ed, .int md, .int mn, .int mo, .int lo, .int up])), (te, .inr (1, [.ref hs])), (hs, .inl (cA 0, 7, .inl g))]) (ty := .int) S hK.1 ic_Pmt rfl 6 (by decide) ty_Pmt to_Pmt nm_Pmt (gw_lk S mw_95) 0 rfl rfl (by decide +kernel) rfl rfl (Nat.le_of_ble_eq_true rfl) rfl dc_Pmt_isPinRight_23 ?_
    refine gw_iconst (v := 0) S dc_Pmt_isPinRight_26 (by decide) ?_
    exact gw_zret (w := [(hp, .inr (3, [.ref hd, .int nu, .int am, .int ty, .int fa, .int oc, .int (fl ||| 16), .int wi, .int fi, .int fc, .int s2, .int sc, .int co])), (hc, .inr (5, [.ref ho, .int ky, .int pn, .int tr, .int ct, .int rn, .int sn, .int ac, .int ed, .int md, .int mn, .int mo, .int lo, .int up])), (te, .inr (1, [.ref hs])), (hs, .inl (cA 0, 7, .inl g))]) S g_r g_k rfl [0, 1, 2, 3] rfl (by decide) ⟨(by simp only [f_Pmt_isPinRight, f_Pmt_isPinRight_flags, f_Pmt_isPinRight_tries, if_pos c_2]), (by simp only [f_Pmt_isPinRight, f_Pmt_isPinRight_flags, f_Pmt_isPinRight_tries, if_pos c_2])⟩ dc_Pmt_isPinRight_27
  · -- not
    refine gw_aload_n S dc_Pmt_isPinRight_7 rfl 0 rfl ?_
    refine gw_get S hK.1 ic_Pmt rfl 3 (by decide) (gw_lk S mw_91) 0 rfl rfl dc_Pmt_isPinRight_8 ?_
    refine gw_iconst (v := -1) S dc_Pmt_isPinRight_11 (by decide) ?_
    refine gw_icmp_ne (tgt := 28) S dc_Pmt_isPinRight_12 (by decide) (fun c_3 => ?_) (fun c_3 => ?_)
    · -- taken
      refine gw_aload_n S dc_Pmt_isPinRight_28 rfl 1 rfl ?_
      refine gw_callVR (As := []) (st := []) S hK (c_Card_isBlocked l D cA hc ho ky pn tr ct rn sn ac ed md mn mo lo up ) (cw_Pmt_149 S.2.2.2.2 rfl rfl ⟨Nat.le_of_ble_eq_true rfl, Nat.le_of_ble_eq_true rfl⟩) [1] rfl (by decide) 0 rfl rfl rfl rfl rfl (Nat.le_of_ble_eq_true rfl) dc_Pmt_isPinRight_29 ⟨Nat.le_of_ble_eq_true rfl, Nat.le_of_ble_eq_true rfl⟩ ?_
      rintro _ rfl
      refine gw_eq (ws' := [(hp, .inr (3, [.ref hd, .int nu, .int am, .int ty, .int fa, .int oc, .int fl, .int wi, .int fi, .int fc, .int s2, .int sc, .int co])), (hc, .inr (5, [.ref ho, .int ky, .int pn, .int tr, .int ct, .int rn, .int sn, .int ac, .int ed, .int md, .int mn, .int mo, .int lo, .int up])), (te, .inr (1, [.ref hs])), (hs, .inl (cA 0, 7, .inl g))]) (lv' := [(0, .ref hp), (1, .ref hc), (2, .ref te)]) (st' := [.int (f_Card_isBlocked tr)]) (pc' := 32) rfl rfl rfl rfl ?_
      refine gw_if_eq (tgt := 48) S dc_Pmt_isPinRight_32 (by decide) (fun c_5 => ?_) (fun c_5 => ?_)
      · -- taken
        refine gw_aload_n S dc_Pmt_isPinRight_48 rfl 1 rfl ?_
        refine gw_aload_n S dc_Pmt_isPinRight_49 rfl 0 rfl ?_
        refine gw_get S hK.1 ic_Pmt rfl 3 (by decide) (gw_lk S mw_91) 0 rfl rfl dc_Pmt_isPinRight_50 ?_
        refine gw_callV (As := [.int ty]) (st := []) (wr := [(hp, .inr (3, [.ref hd, .int nu, .int am, .int ty, .int fa, .int oc, .int fl, .int wi, .int fi, .int fc, .int s2, .int sc, .int co])), (te, .inr (1, [.ref hs])), (hs, .inl (cA 0, 7, .inl g))]) S hK hA (fun sz => c_Card_acceptsPin l D cA sz hc ho ky pn tr ct rn sn ac ed md mn mo lo up ty ) (cw_Pmt_152 S.2.2.2.2 rfl rfl ⟨Nat.le_of_ble_eq_true rfl, Nat.le_of_ble_eq_true rfl⟩) [1] [0, 2, 3] rfl (by decide) rfl (by decide) (by decide) 0 rfl rfl rfl rfl rfl (Nat.le_of_ble_eq_true rfl) dc_Pmt_isPinRight_53 ⟨Nat.le_of_ble_eq_true rfl, Nat.le_of_ble_eq_true rfl⟩ ?_
        rintro _ _ ⟨rfl, rfl⟩
        refine gw_eq (ws' := [(hp, .inr (3, [.ref hd, .int nu, .int am, .int ty, .int fa, .int oc, .int fl, .int wi, .int fi, .int fc, .int s2, .int sc, .int co])), (te, .inr (1, [.ref hs])), (hs, .inl (cA 0, 7, .inl g)), (hc, .inr (5, [.ref ho, .int ky, .int pn, .int (f_Card_acceptsPin_tries pn tr ty), .int ct, .int rn, .int sn, .int ac, .int ed, .int md, .int mn, .int mo, .int lo, .int up]))]) (lv' := [(0, .ref hp), (1, .ref hc), (2, .ref te)]) (st' := [.int (f_Card_acceptsPin pn ty)]) (pc' := 56) rfl rfl rfl rfl ?_
        exact gw_zret (w := [(hp, .inr (3, [.ref hd, .int nu, .int am, .int ty, .int fa, .int oc, .int fl, .int wi, .int fi, .int fc, .int s2, .int sc, .int co])), (hc, .inr (5, [.ref ho, .int ky, .int pn, .int (f_Card_acceptsPin_tries pn tr ty), .int ct, .int rn, .int sn, .int ac, .int ed, .int md, .int mn, .int mo, .int lo, .int up])), (te, .inr (1, [.ref hs])), (hs, .inl (cA 0, 7, .inl g))]) S g_r g_k (z_cx (b_Card_acceptsPin pn ty)) [0, 3, 1, 2] rfl (by decide) ⟨(by simp only [f_Pmt_isPinRight, f_Pmt_isPinRight_flags, f_Pmt_isPinRight_tries, if_neg c_2, if_neg c_3, if_pos c_5]), (by simp only [f_Pmt_isPinRight, f_Pmt_isPinRight_flags, f_Pmt_isPinRight_tries, if_neg c_2, if_neg c_3, if_pos c_5])⟩ dc_Pmt_isPinRight_56
      · -- not
        refine gw_aload_n S dc_Pmt_isPinRight_35 rfl 0 rfl ?_
        refine gw_dup S dc_Pmt_isPinRight_36 rfl ?_
        refine gw_get S hK.1 ic_Pmt rfl 6 (by decide) (gw_lk S mw_95) 0 rfl rfl dc_Pmt_isPinRight_37 ?_
        refine gw_bipush (v := 32) S dc_Pmt_isPinRight_40 (by decide) ?_
        refine gw_ior S dc_Pmt_isPinRight_42 ?_
        refine gw_put (ws' := [(hp, .inr (3, [.ref hd, .int nu, .int am, .int ty, .int fa, .int oc, .int (fl ||| 32), .int wi, .int fi, .int fc, .int s2, .int sc, .int co])), (hc, .inr (5, [.ref ho, .int ky, .int pn, .int tr, .int ct, .int rn, .int sn, .int ac, .int ed, .int md, .int mn, .int mo, .int lo, .int up])), (te, .inr (1, [.ref hs])), (hs, .inl (cA 0, 7, .inl g))]) (ty := .int) S hK.1 ic_Pmt rfl 6 (by decide) ty_Pmt to_Pmt nm_Pmt (gw_lk S mw_95) 0 rfl rfl (by decide +kernel) rfl rfl (Nat.le_of_ble_eq_true rfl) rfl dc_Pmt_isPinRight_43 ?_
        refine gw_iconst (v := 0) S dc_Pmt_isPinRight_46 (by decide) ?_
        exact gw_zret (w := [(hp, .inr (3, [.ref hd, .int nu, .int am, .int ty, .int fa, .int oc, .int (fl ||| 32), .int wi, .int fi, .int fc, .int s2, .int sc, .int co])), (hc, .inr (5, [.ref ho, .int ky, .int pn, .int tr, .int ct, .int rn, .int sn, .int ac, .int ed, .int md, .int mn, .int mo, .int lo, .int up])), (te, .inr (1, [.ref hs])), (hs, .inl (cA 0, 7, .inl g))]) S g_r g_k rfl [0, 1, 2, 3] rfl (by decide) ⟨(by simp only [f_Pmt_isPinRight, f_Pmt_isPinRight_flags, f_Pmt_isPinRight_tries, if_neg c_2, if_neg c_3, if_neg c_5]), (by simp only [f_Pmt_isPinRight, f_Pmt_isPinRight_flags, f_Pmt_isPinRight_tries, if_neg c_2, if_neg c_3, if_neg c_5])⟩ dc_Pmt_isPinRight_47
    · -- not
      refine gw_aload_n S dc_Pmt_isPinRight_15 rfl 0 rfl ?_
      refine gw_dup S dc_Pmt_isPinRight_16 rfl ?_
      refine gw_get S hK.1 ic_Pmt rfl 6 (by decide) (gw_lk S mw_95) 0 rfl rfl dc_Pmt_isPinRight_17 ?_
      refine gw_bipush (v := 16) S dc_Pmt_isPinRight_20 (by decide) ?_
      refine gw_ior S dc_Pmt_isPinRight_22 ?_
      refine gw_put (ws' := [(hp, .inr (3, [.ref hd, .int nu, .int am, .int ty, .int fa, .int oc, .int (fl ||| 16), .int wi, .int fi, .int fc, .int s2, .int sc, .int co])), (hc, .inr (5, [.ref ho, .int ky, .int pn, .int tr, .int ct, .int rn, .int sn, .int ac, .int ed, .int md, .int mn, .int mo, .int lo, .int up])), (te, .inr (1, [.ref hs])), (hs, .inl (cA 0, 7, .inl g))]) (ty := .int) S hK.1 ic_Pmt rfl 6 (by decide) ty_Pmt to_Pmt nm_Pmt (gw_lk S mw_95) 0 rfl rfl (by decide +kernel) rfl rfl (Nat.le_of_ble_eq_true rfl) rfl dc_Pmt_isPinRight_23 ?_
      refine gw_iconst (v := 0) S dc_Pmt_isPinRight_26 (by decide) ?_
      exact gw_zret (w := [(hp, .inr (3, [.ref hd, .int nu, .int am, .int ty, .int fa, .int oc, .int (fl ||| 16), .int wi, .int fi, .int fc, .int s2, .int sc, .int co])), (hc, .inr (5, [.ref ho, .int ky, .int pn, .int tr, .int ct, .int rn, .int sn, .int ac, .int ed, .int md, .int mn, .int mo, .int lo, .int up])), (te, .inr (1, [.ref hs])), (hs, .inl (cA 0, 7, .inl g))]) S g_r g_k rfl [0, 1, 2, 3] rfl (by decide) ⟨(by simp only [f_Pmt_isPinRight, f_Pmt_isPinRight_flags, f_Pmt_isPinRight_tries, if_neg c_2, if_pos c_3]), (by simp only [f_Pmt_isPinRight, f_Pmt_isPinRight_flags, f_Pmt_isPinRight_tries, if_neg c_2, if_pos c_3])⟩ dc_Pmt_isPinRight_27
def f_Pmt_isMet (ty : Int32) (pn : Int32) (tr : Int32) (g : Nat → Int32) (x : Int32) : Int32 := if x = 0 then 0 else (if x = 1 then (f_Pmt_isPinRight ty pn tr g) else (if x = 31 then 1 else (0)))
def f_Pmt_isMet_flags (ty : Int32) (fl : Int32) (tr : Int32) (g : Nat → Int32) (x : Int32) : Int32 := if x = 0 then fl else (if x = 1 then (f_Pmt_isPinRight_flags ty fl tr g) else (if x = 31 then fl else (fl ||| 8)))
def f_Pmt_isMet_tries (ty : Int32) (pn : Int32) (tr : Int32) (g : Nat → Int32) (x : Int32) : Int32 := if x = 0 then tr else (if x = 1 then (f_Pmt_isPinRight_tries ty pn tr g) else (tr))
theorem b_Pmt_isMet (ty : Int32) (pn : Int32) (tr : Int32) (g : Nat → Int32) (x : Int32) : f_Pmt_isMet ty pn tr g x = 0 ∨ f_Pmt_isMet ty pn tr g x = 1 := by
  unfold f_Pmt_isMet
  exact (bo_ite (Or.inl rfl) (bo_ite (b_Pmt_isPinRight ty pn tr g) (bo_ite (Or.inr rfl) (Or.inl rfl))))
set_option maxRecDepth 100000 in
set_option maxHeartbeats 4000000 in
theorem c_Pmt_isMet (l : Launch) (D : va_G) (cA : Nat → ClassId) (sz : Nat) (hp : Nat) (hd : Nat) (nu : Int32) (am : Int32) (ty : Int32) (fa : Int32) (oc : Int32) (fl : Int32) (wi : Int32) (fi : Int32) (fc : Int32) (s2 : Int32) (sc : Int32) (co : Int32) (hc : Nat) (ho : Nat) (ky : Int32) (pn : Int32) (tr : Int32) (ct : Int32) (rn : Int32) (sn : Int32) (ac : Int32) (ed : Int32) (md : Int32) (mn : Int32) (mo : Int32) (lo : Int32) (up : Int32) (te : Nat) (hs : Nat) (g : Nat → Int32) (x : Int32)  : ct_M l D cA yn_Pmt_isMet cd_Pmt_isMet 3 0 0 sz [.ref hp, .int x, .ref hc, .ref te] [(hp, .inr (3, [.ref hd, .int nu, .int am, .int ty, .int fa, .int oc, .int fl, .int wi, .int fi, .int fc, .int s2, .int sc, .int co])), (hc, .inr (5, [.ref ho, .int ky, .int pn, .int tr, .int ct, .int rn, .int sn, .int ac, .int ed, .int md, .int mn, .int mo, .int lo, .int up])), (te, .inr (1, [.ref hs])), (hs, .inl (cA 0, 7, .inl g))] (fun v_ w_ => v_ = some (.int (f_Pmt_isMet ty pn tr g x)) ∧ w_ = [(hp, .inr (3, [.ref hd, .int nu, .int am, .int ty, .int fa, .int oc, .int (f_Pmt_isMet_flags ty fl tr g x), .int wi, .int fi, .int fc, .int s2, .int sc, .int co])), (hc, .inr (5, [.ref ho, .int ky, .int pn, .int (f_Pmt_isMet_tries ty pn tr g x), .int ct, .int rn, .int sn, .int ac, .int ed, .int md, .int mn, .int mo, .int lo, .int up])), (te, .inr (1, [.ref hs])), (hs, .inl (cA 0, 7, .inl g))]) := by
  refine gw_met (by decide) rfl (Nat.le_of_ble_eq_true rfl) ?_
  intro p_ e_ s_ m_ args_ below_ meth_ c_ A_ S g_r g_k g_n hK hA
  refine gw_eq (ws' := [(hp, .inr (3, [.ref hd, .int nu, .int am, .int ty, .int fa, .int oc, .int fl, .int wi, .int fi, .int fc, .int s2, .int sc, .int co])), (hc, .inr (5, [.ref ho, .int ky, .int pn, .int tr, .int ct, .int rn, .int sn, .int ac, .int ed, .int md, .int mn, .int mo, .int lo, .int up])), (te, .inr (1, [.ref hs])), (hs, .inl (cA 0, 7, .inl g))]) (lv' := [(0, .ref hp), (1, .int x), (2, .ref hc), (3, .ref te)]) (st' := []) (pc' := 0) rfl rfl rfl rfl ?_
  refine gw_iload_n S dc_Pmt_isMet_0 rfl 1 rfl ?_
  rcases Classical.em (x = 0) with c_1 | c_1
  · -- case 0
    refine gw_lookup (tgt := 45) (off := 44) S dc_Pmt_isMet_1 (by decide) (by first | (rw [c_1]; done) | (rw [c_1]; rfl)) (by decide) ?_
    refine gw_iconst (v := 0) S dc_Pmt_isMet_45 (by decide) ?_
    exact gw_zret (w := [(hp, .inr (3, [.ref hd, .int nu, .int am, .int ty, .int fa, .int oc, .int fl, .int wi, .int fi, .int fc, .int s2, .int sc, .int co])), (hc, .inr (5, [.ref ho, .int ky, .int pn, .int tr, .int ct, .int rn, .int sn, .int ac, .int ed, .int md, .int mn, .int mo, .int lo, .int up])), (te, .inr (1, [.ref hs])), (hs, .inl (cA 0, 7, .inl g))]) S g_r g_k rfl [0, 1, 2, 3] rfl (by decide) ⟨(by simp only [f_Pmt_isMet, f_Pmt_isMet_flags, f_Pmt_isMet_tries, if_pos c_1]), (by simp only [f_Pmt_isMet, f_Pmt_isMet_flags, f_Pmt_isMet_tries, if_pos c_1])⟩ dc_Pmt_isMet_46
  · -- else
    rcases Classical.em (x = 1) with c_2 | c_2
    · -- case 1
      refine gw_lookup (tgt := 38) (off := 37) S dc_Pmt_isMet_1 (by decide) (by first | (rw [c_2]; done) | (rw [c_2]; rfl)) (by decide) ?_
      refine gw_aload_n S dc_Pmt_isMet_38 rfl 0 rfl ?_
      refine gw_aload_n S dc_Pmt_isMet_39 rfl 2 rfl ?_
      refine gw_aload_n S dc_Pmt_isMet_40 rfl 3 rfl ?_
      refine gw_callV (As := [.ref hc, .ref te]) (st := []) (wr := []) S hK hA (fun sz => c_Pmt_isPinRight l D cA sz hp hd nu am ty fa oc fl wi fi fc s2 sc co hc ho ky pn tr ct rn sn ac ed md mn mo lo up te hs g ) (cw_Pmt_145 S.2.2.2.2 rfl rfl ⟨Nat.le_of_ble_eq_true rfl, Nat.le_of_ble_eq_true rfl⟩) [0, 1, 2, 3] [] rfl (by decide) rfl (by decide) (by decide) 0 rfl rfl rfl rfl rfl (Nat.le_of_ble_eq_true rfl) dc_Pmt_isMet_41 ⟨Nat.le_of_ble_eq_true rfl, Nat.le_of_ble_eq_true rfl⟩ ?_
      rintro _ _ ⟨rfl, rfl⟩
      refine gw_eq (ws' := [(hp, .inr (3, [.ref hd, .int nu, .int am, .int ty, .int fa, .int oc, .int (f_Pmt_isPinRight_flags ty fl tr g), .int wi, .int fi, .int fc, .int s2, .int sc, .int co])), (hc, .inr (5, [.ref ho, .int ky, .int pn, .int (f_Pmt_isPinRight_tries ty pn tr g), .int ct, .int rn, .int sn, .int ac, .int ed, .int md, .int mn, .int mo, .int lo, .int up])), (te, .inr (1, [.ref hs])), (hs, .inl (cA 0, 7, .inl g))]) (lv' := [(0, .ref hp), (1, .int x), (2, .ref hc), (3, .ref te)]) (st' := [.int (f_Pmt_isPinRight ty pn tr g)]) (pc' := 44) rfl rfl rfl rfl ?_
      exact gw_zret (w := [(hp, .inr (3, [.ref hd, .int nu, .int am, .int ty, .int fa, .int oc, .int (f_Pmt_isPinRight_flags ty fl tr g), .int wi, .int fi, .int fc, .int s2, .int sc, .int co])), (hc, .inr (5, [.ref ho, .int ky, .int pn, .int (f_Pmt_isPinRight_tries ty pn tr g), .int ct, .int rn, .int sn, .int ac, .int ed, .int md, .int mn, .int mo, .int lo, .int up])), (te, .inr (1, [.ref hs])), (hs, .inl (cA 0, 7, .inl g))]) S g_r g_k (z_cx (b_Pmt_isPinRight ty pn tr g)) [0, 1, 2, 3] rfl (by decide) ⟨(by simp only [f_Pmt_isMet, f_Pmt_isMet_flags, f_Pmt_isMet_tries, if_neg c_1, if_pos c_2]), (by simp only [f_Pmt_isMet, f_Pmt_isMet_flags, f_Pmt_isMet_tries, if_neg c_1, if_pos c_2])⟩ dc_Pmt_isMet_44
    · -- else
      rcases Classical.em (x = 31) with c_3 | c_3
      · -- case 31
        refine gw_lookup (tgt := 36) (off := 35) S dc_Pmt_isMet_1 (by decide) (by first | (rw [c_3]; done) | (rw [c_3]; rfl)) (by decide) ?_
        refine gw_iconst (v := 1) S dc_Pmt_isMet_36 (by decide) ?_
        exact gw_zret (w := [(hp, .inr (3, [.ref hd, .int nu, .int am, .int ty, .int fa, .int oc, .int fl, .int wi, .int fi, .int fc, .int s2, .int sc, .int co])), (hc, .inr (5, [.ref ho, .int ky, .int pn, .int tr, .int ct, .int rn, .int sn, .int ac, .int ed, .int md, .int mn, .int mo, .int lo, .int up])), (te, .inr (1, [.ref hs])), (hs, .inl (cA 0, 7, .inl g))]) S g_r g_k rfl [0, 1, 2, 3] rfl (by decide) ⟨(by simp only [f_Pmt_isMet, f_Pmt_isMet_flags, f_Pmt_isMet_tries, if_neg c_1, if_neg c_2, if_pos c_3]), (by simp only [f_Pmt_isMet, f_Pmt_isMet_flags, f_Pmt_isMet_tries, if_neg c_1, if_neg c_2, if_pos c_3])⟩ dc_Pmt_isMet_37
      · -- else
        refine gw_lookup (tgt := 47) (off := 46) S dc_Pmt_isMet_1 (by decide) ((lv_osw c_1 (by decide)).trans ((lv_osw c_2 (by decide)).trans ((lv_osw c_3 (by decide)).trans rfl))) (by decide) ?_
        refine gw_aload_n S dc_Pmt_isMet_47 rfl 0 rfl ?_
        refine gw_dup S dc_Pmt_isMet_48 rfl ?_
        refine gw_get S hK.1 ic_Pmt rfl 6 (by decide) (gw_lk S mw_95) 0 rfl rfl dc_Pmt_isMet_49 ?_
        refine gw_bipush (v := 8) S dc_Pmt_isMet_52 (by decide) ?_
        refine gw_ior S dc_Pmt_isMet_54 ?_
        refine gw_put (ws' := [(hp, .inr (3, [.ref hd, .int nu, .int am, .int ty, .int fa, .int oc, .int (fl ||| 8), .int wi, .int fi, .int fc, .int s2, .int sc, .int co])), (hc, .inr (5, [.ref ho, .int ky, .int pn, .int tr, .int ct, .int rn, .int sn, .int ac, .int ed, .int md, .int mn, .int mo, .int lo, .int up])), (te, .inr (1, [.ref hs])), (hs, .inl (cA 0, 7, .inl g))]) (ty := .int) S hK.1 ic_Pmt rfl 6 (by decide) ty_Pmt to_Pmt nm_Pmt (gw_lk S mw_95) 0 rfl rfl (by decide +kernel) rfl rfl (Nat.le_of_ble_eq_true rfl) rfl dc_Pmt_isMet_55 ?_
        refine gw_iconst (v := 0) S dc_Pmt_isMet_58 (by decide) ?_
        exact gw_zret (w := [(hp, .inr (3, [.ref hd, .int nu, .int am, .int ty, .int fa, .int oc, .int (fl ||| 8), .int wi, .int fi, .int fc, .int s2, .int sc, .int co])), (hc, .inr (5, [.ref ho, .int ky, .int pn, .int tr, .int ct, .int rn, .int sn, .int ac, .int ed, .int md, .int mn, .int mo, .int lo, .int up])), (te, .inr (1, [.ref hs])), (hs, .inl (cA 0, 7, .inl g))]) S g_r g_k rfl [0, 1, 2, 3] rfl (by decide) ⟨(by simp only [f_Pmt_isMet, f_Pmt_isMet_flags, f_Pmt_isMet_tries, if_neg c_1, if_neg c_2, if_neg c_3]), (by simp only [f_Pmt_isMet, f_Pmt_isMet_flags, f_Pmt_isMet_tries, if_neg c_1, if_neg c_2, if_neg c_3])⟩ dc_Pmt_isMet_59
def f_Pmt_weighRisks_flags (am : Int32) (fl : Int32) (rn : Int32) (lo : Int32) (up : Int32) (g : Nat → Int32) : Int32 := if am < (g 0) then (if lo = (-1) then (f_Pmt_setIf_flags fl 0 64) else (if up = (-1) then (f_Pmt_setIf_flags fl 0 64) else (f_Pmt_setIf_flags (f_Pmt_setIf_flags (f_Pmt_setIf_flags fl 0 64) (f_Card_isRunAtLower rn lo) 128) (f_Card_isRunAtUpper rn up) 256))) else (if lo = (-1) then (f_Pmt_setIf_flags fl 1 64) else (if up = (-1) then (f_Pmt_setIf_flags fl 1 64) else (f_Pmt_setIf_flags (f_Pmt_setIf_flags (f_Pmt_setIf_flags fl 1 64) (f_Card_isRunAtLower rn lo) 128) (f_Card_isRunAtUpper rn up) 256)))
set_option maxRecDepth 100000 in
set_option maxHeartbeats 4000000 in
theorem c_Pmt_weighRisks (l : Launch) (D : va_G) (cA : Nat → ClassId) (sz : Nat) (hp : Nat) (hd : Nat) (nu : Int32) (am : Int32) (ty : Int32) (fa : Int32) (oc : Int32) (fl : Int32) (wi : Int32) (fi : Int32) (fc : Int32) (s2 : Int32) (sc : Int32) (co : Int32) (hc : Nat) (ho : Nat) (ky : Int32) (pn : Int32) (tr : Int32) (ct : Int32) (rn : Int32) (sn : Int32) (ac : Int32) (ed : Int32) (md : Int32) (mn : Int32) (mo : Int32) (lo : Int32) (up : Int32) (te : Nat) (hs : Nat) (g : Nat → Int32)  : ct_M l D cA yn_Pmt_weighRisks cd_Pmt_weighRisks 2 0 0 sz [.ref hp, .ref hc, .ref te] [(hp, .inr (3, [.ref hd, .int nu, .int am, .int ty, .int fa, .int oc, .int fl, .int wi, .int fi, .int fc, .int s2, .int sc, .int co])), (hc, .inr (5, [.ref ho, .int ky, .int pn, .int tr, .int ct, .int rn, .int sn, .int ac, .int ed, .int md, .int mn, .int mo, .int lo, .int up])), (te, .inr (1, [.ref hs])), (hs, .inl (cA 0, 7, .inl g))] (fun v_ w_ => v_ = none ∧ w_ = [(hp, .inr (3, [.ref hd, .int nu, .int am, .int ty, .int fa, .int oc, .int (f_Pmt_weighRisks_flags am fl rn lo up g), .int wi, .int fi, .int fc, .int s2, .int sc, .int co])), (hc, .inr (5, [.ref ho, .int ky, .int pn, .int tr, .int ct, .int rn, .int sn, .int ac, .int ed, .int md, .int mn, .int mo, .int lo, .int up])), (te, .inr (1, [.ref hs])), (hs, .inl (cA 0, 7, .inl g))]) := by
  refine gw_met (by decide) rfl (Nat.le_of_ble_eq_true rfl) ?_
  intro p_ e_ s_ m_ args_ below_ meth_ c_ A_ S g_r g_k g_n hK hA
  refine gw_eq (ws' := [(hp, .inr (3, [.ref hd, .int nu, .int am, .int ty, .int fa, .int oc, .int fl, .int wi, .int fi, .int fc, .int s2, .int sc, .int co])), (hc, .inr (5, [.ref ho, .int ky, .int pn, .int tr, .int ct, .int rn, .int sn, .int ac, .int ed, .int md, .int mn, .int mo, .int lo, .int up])), (te, .inr (1, [.ref hs])), (hs, .inl (cA 0, 7, .inl g))]) (lv' := [(0, .ref hp), (1, .ref hc), (2, .ref te)]) (st' := []) (pc' := 0) rfl rfl rfl rfl ?_
  refine gw_aload_n S dc_Pmt_weighRisks_0 rfl 0 rfl ?_
  refine gw_aload_n S dc_Pmt_weighRisks_1 rfl 0 rfl ?_
  refine gw_get S hK.1 ic_Pmt rfl 2 (by decide) (gw_lk S mw_90) 0 rfl rfl dc_Pmt_weighRisks_2 ?_
  refine gw_aload_n S dc_Pmt_weighRisks_5 rfl 2 rfl ?_
  refine gw_callVR (As := []) (st := [.int am, .ref hp]) S hK (c_Term_floor l D cA te hs g ) (cw_Pmt_156 S.2.2.2.2 rfl rfl ⟨Nat.le_of_ble_eq_true rfl, Nat.le_of_ble_eq_true rfl⟩) [2, 3] rfl (by decide) 0 rfl rfl rfl rfl rfl (Nat.le_of_ble_eq_true rfl) dc_Pmt_weighRisks_6 ⟨Nat.le_of_ble_eq_true rfl, Nat.le_of_ble_eq_true rfl⟩ ?_
  rintro _ rfl
  refine gw_eq (ws' := [(hp, .inr (3, [.ref hd, .int nu, .int am, .int ty, .int fa, .int oc, .int fl, .int wi, .int fi, .int fc, .int s2, .int sc, .int co])), (hc, .inr (5, [.ref ho, .int ky, .int pn, .int tr, .int ct, .int rn, .int sn, .int ac, .int ed, .int md, .int mn, .int mo, .int lo, .int up])), (te, .inr (1, [.ref hs])), (hs, .inl (cA 0, 7, .inl g))]) (lv' := [(0, .ref hp), (1, .ref hc), (2, .ref te)]) (st' := [.int (g 0), .int am, .ref hp]) (pc' := 9) rfl rfl rfl rfl ?_
  refine gw_icmp_lt (tgt := 16) S dc_Pmt_weighRisks_9 (by decide) (fun c_2 => ?_) (fun c_2 => ?_)
  · -- taken
    refine gw_iconst (v := 0) S dc_Pmt_weighRisks_16 (by decide) ?_
    refine gw_bipush (v := 64) S dc_Pmt_weighRisks_17 (by decide) ?_
    refine gw_callV (As := [.int 0, .int 64]) (st := []) (wr := [(hc, .inr (5, [.ref ho, .int ky, .int pn, .int tr, .int ct, .int rn, .int sn, .int ac, .int ed, .int md, .int mn, .int mo, .int lo, .int up])), (te, .inr (1, [.ref hs])), (hs, .inl (cA 0, 7, .inl g))]) S hK hA (fun sz => c_Pmt_setIf l D cA sz hp hd nu am ty fa oc fl wi fi fc s2 sc co 0 64 ) (cw_Pmt_59 S.2.2.2.2 rfl rfl ⟨Nat.le_of_ble_eq_true rfl, Nat.le_of_ble_eq_true rfl⟩) [0] [1, 2, 3] rfl (by decide) rfl (by decide) (by decide) 0 rfl rfl rfl rfl rfl (Nat.le_of_ble_eq_true rfl) dc_Pmt_weighRisks_19 ⟨Nat.le_of_ble_eq_true rfl, Nat.le_of_ble_eq_true rfl⟩ ?_
    rintro _ _ ⟨rfl, rfl⟩
    refine gw_eq (ws' := [(hc, .inr (5, [.ref ho, .int ky, .int pn, .int tr, .int ct, .int rn, .int sn, .int ac, .int ed, .int md, .int mn, .int mo, .int lo, .int up])), (te, .inr (1, [.ref hs])), (hs, .inl (cA 0, 7, .inl g)), (hp, .inr (3, [.ref hd, .int nu, .int am, .int ty, .int fa, .int oc, .int (f_Pmt_setIf_flags fl 0 64), .int wi, .int fi, .int fc, .int s2, .int sc, .int co]))]) (lv' := [(0, .ref hp), (1, .ref hc), (2, .ref te)]) (st' := []) (pc' := 22) rfl rfl rfl rfl ?_
    refine gw_aload_n S dc_Pmt_weighRisks_22 rfl 1 rfl ?_
    refine gw_getN S hK.1 ic_Card rfl 12 (by decide) (hK.2 _ mn_213).2 0 rfl rfl dc_Pmt_weighRisks_23 ?_
    refine gw_iconst (v := -1) S dc_Pmt_weighRisks_26 (by decide) ?_
    refine gw_icmp_eq (tgt := 60) S dc_Pmt_weighRisks_27 (by decide) (fun c_3 => ?_) (fun c_3 => ?_)
    · -- taken
      exact gw_vret (w := [(hp, .inr (3, [.ref hd, .int nu, .int am, .int ty, .int fa, .int oc, .int (f_Pmt_setIf_flags fl 0 64), .int wi, .int fi, .int fc, .int s2, .int sc, .int co])), (hc, .inr (5, [.ref ho, .int ky, .int pn, .int tr, .int ct, .int rn, .int sn, .int ac, .int ed, .int md, .int mn, .int mo, .int lo, .int up])), (te, .inr (1, [.ref hs])), (hs, .inl (cA 0, 7, .inl g))]) S g_r g_k  [3, 0, 1, 2] rfl (by decide) ⟨(by simp only [f_Pmt_weighRisks_flags, if_pos c_2, if_pos c_3]), (by simp only [f_Pmt_weighRisks_flags, if_pos c_2, if_pos c_3])⟩ dc_Pmt_weighRisks_60
    · -- not
      refine gw_aload_n S dc_Pmt_weighRisks_30 rfl 1 rfl ?_
      refine gw_getN S hK.1 ic_Card rfl 13 (by decide) (hK.2 _ mn_215).2 0 rfl rfl dc_Pmt_weighRisks_31 ?_
      refine gw_iconst (v := -1) S dc_Pmt_weighRisks_34 (by decide) ?_
      refine gw_icmp_eq (tgt := 60) S dc_Pmt_weighRisks_35 (by decide) (fun c_4 => ?_) (fun c_4 => ?_)
      · -- taken
        exact gw_vret (w := [(hp, .inr (3, [.ref hd, .int nu, .int am, .int ty, .int fa, .int oc, .int (f_Pmt_setIf_flags fl 0 64), .int wi, .int fi, .int fc, .int s2, .int sc, .int co])), (hc, .inr (5, [.ref ho, .int ky, .int pn, .int tr, .int ct, .int rn, .int sn, .int ac, .int ed, .int md, .int mn, .int mo, .int lo, .int up])), (te, .inr (1, [.ref hs])), (hs, .inl (cA 0, 7, .inl g))]) S g_r g_k  [3, 0, 1, 2] rfl (by decide) ⟨(by simp only [f_Pmt_weighRisks_flags, if_pos c_2, if_neg c_3, if_pos c_4]), (by simp only [f_Pmt_weighRisks_flags, if_pos c_2, if_neg c_3, if_pos c_4])⟩ dc_Pmt_weighRisks_60
      · -- not
        refine gw_aload_n S dc_Pmt_weighRisks_38 rfl 0 rfl ?_
        refine gw_aload_n S dc_Pmt_weighRisks_39 rfl 1 rfl ?_
        refine gw_callVR (As := []) (st := [.ref hp]) S hK (c_Card_isRunAtLower l D cA hc ho ky pn tr ct rn sn ac ed md mn mo lo up ) (cw_Pmt_165 S.2.2.2.2 rfl rfl ⟨Nat.le_of_ble_eq_true rfl, Nat.le_of_ble_eq_true rfl⟩) [0] rfl (by decide) 0 rfl rfl rfl rfl rfl (Nat.le_of_ble_eq_true rfl) dc_Pmt_weighRisks_40 ⟨Nat.le_of_ble_eq_true rfl, Nat.le_of_ble_eq_true rfl⟩ ?_
        rintro _ rfl
        refine gw_eq (ws' := [(hc, .inr (5, [.ref ho, .int ky, .int pn, .int tr, .int ct, .int rn, .int sn, .int ac, .int ed, .int md, .int mn, .int mo, .int lo, .int up])), (te, .inr (1, [.ref hs])), (hs, .inl (cA 0, 7, .inl g)), (hp, .inr (3, [.ref hd, .int nu, .int am, .int ty, .int fa, .int oc, .int (f_Pmt_setIf_flags fl 0 64), .int wi, .int fi, .int fc, .int s2, .int sc, .int co]))]) (lv' := [(0, .ref hp), (1, .ref hc), (2, .ref te)]) (st' := [.int (f_Card_isRunAtLower rn lo), .ref hp]) (pc' := 43) rfl rfl rfl rfl ?_
        refine gw_sipush (v := 128) S dc_Pmt_weighRisks_43 (by decide) ?_
        refine gw_callV (As := [.int (f_Card_isRunAtLower rn lo), .int 128]) (st := []) (wr := [(hc, .inr (5, [.ref ho, .int ky, .int pn, .int tr, .int ct, .int rn, .int sn, .int ac, .int ed, .int md, .int mn, .int mo, .int lo, .int up])), (te, .inr (1, [.ref hs])), (hs, .inl (cA 0, 7, .inl g))]) S hK hA (fun sz => c_Pmt_setIf l D cA sz hp hd nu am ty fa oc (f_Pmt_setIf_flags fl 0 64) wi fi fc s2 sc co (f_Card_isRunAtLower rn lo) 128 ) (cw_Pmt_59 S.2.2.2.2 rfl rfl ⟨Nat.le_of_ble_eq_true rfl, Nat.le_of_ble_eq_true rfl⟩) [3] [0, 1, 2] rfl (by decide) rfl (by decide) (by decide) 0 rfl rfl rfl rfl rfl (Nat.le_of_ble_eq_true rfl) dc_Pmt_weighRisks_46 ⟨Nat.le_of_ble_eq_true rfl, Nat.le_of_ble_eq_true rfl⟩ ?_
        rintro _ _ ⟨rfl, rfl⟩
        refine gw_eq (ws' := [(hc, .inr (5, [.ref ho, .int ky, .int pn, .int tr, .int ct, .int rn, .int sn, .int ac, .int ed, .int md, .int mn, .int mo, .int lo, .int up])), (te, .inr (1, [.ref hs])), (hs, .inl (cA 0, 7, .inl g)), (hp, .inr (3, [.ref hd, .int nu, .int am, .int ty, .int fa, .int oc, .int (f_Pmt_setIf_flags (f_Pmt_setIf_flags fl 0 64) (f_Card_isRunAtLower rn lo) 128), .int wi, .int fi, .int fc, .int s2, .int sc, .int co]))]) (lv' := [(0, .ref hp), (1, .ref hc), (2, .ref te)]) (st' := []) (pc' := 49) rfl rfl rfl rfl ?_
        refine gw_aload_n S dc_Pmt_weighRisks_49 rfl 0 rfl ?_
        refine gw_aload_n S dc_Pmt_weighRisks_50 rfl 1 rfl ?_
        refine gw_callVR (As := []) (st := [.ref hp]) S hK (c_Card_isRunAtUpper l D cA hc ho ky pn tr ct rn sn ac ed md mn mo lo up ) (cw_Pmt_168 S.2.2.2.2 rfl rfl ⟨Nat.le_of_ble_eq_true rfl, Nat.le_of_ble_eq_true rfl⟩) [0] rfl (by decide) 0 rfl rfl rfl rfl rfl (Nat.le_of_ble_eq_true rfl) dc_Pmt_weighRisks_51 ⟨Nat.le_of_ble_eq_true rfl, Nat.le_of_ble_eq_true rfl⟩ ?_
        rintro _ rfl
        refine gw_eq (ws' := [(hc, .inr (5, [.ref ho, .int ky, .int pn, .int tr, .int ct, .int rn, .int sn, .int ac, .int ed, .int md, .int mn, .int mo, .int lo, .int up])), (te, .inr (1, [.ref hs])), (hs, .inl (cA 0, 7, .inl g)), (hp, .inr (3, [.ref hd, .int nu, .int am, .int ty, .int fa, .int oc, .int (f_Pmt_setIf_flags (f_Pmt_setIf_flags fl 0 64) (f_Card_isRunAtLower rn lo) 128), .int wi, .int fi, .int fc, .int s2, .int sc, .int co]))]) (lv' := [(0, .ref hp), (1, .ref hc), (2, .ref te)]) (st' := [.int (f_Card_isRunAtUpper rn up), .ref hp]) (pc' := 54) rfl rfl rfl rfl ?_
        refine gw_sipush (v := 256) S dc_Pmt_weighRisks_54 (by decide) ?_
        refine gw_callV (As := [.int (f_Card_isRunAtUpper rn up), .int 256]) (st := []) (wr := [(hc, .inr (5, [.ref ho, .int ky, .int pn, .int tr, .int ct, .int rn, .int sn, .int ac, .int ed, .int md, .int mn, .int mo, .int lo, .int up])), (te, .inr (1, [.ref hs])), (hs, .inl (cA 0, 7, .inl g))]) S hK hA (fun sz => c_Pmt_setIf l D cA sz hp hd nu am ty fa oc (f_Pmt_setIf_flags (f_Pmt_setIf_flags fl 0 64) (f_Card_isRunAtLower rn lo) 128) wi fi fc s2 sc co (f_Card_isRunAtUpper rn up) 256 ) (cw_Pmt_59 S.2.2.2.2 rfl rfl ⟨Nat.le_of_ble_eq_true rfl, Nat.le_of_ble_eq_true rfl⟩) [3] [0, 1, 2] rfl (by decide) rfl (by decide) (by decide) 0 rfl rfl rfl rfl rfl (Nat.le_of_ble_eq_true rfl) dc_Pmt_weighRisks_57 ⟨Nat.le_of_ble_eq_true rfl, Nat.le_of_ble_eq_true rfl⟩ ?_
        rintro _ _ ⟨rfl, rfl⟩
        refine gw_eq (ws' := [(hc, .inr (5, [.ref ho, .int ky, .int pn, .int tr, .int ct, .int rn, .int sn, .int ac, .int ed, .int md, .int mn, .int mo, .int lo, .int up])), (te, .inr (1, [.ref hs])), (hs, .inl (cA 0, 7, .inl g)), (hp, .inr (3, [.ref hd, .int nu, .int am, .int ty, .int fa, .int oc, .int (f_Pmt_setIf_flags (f_Pmt_setIf_flags (f_Pmt_setIf_flags fl 0 64) (f_Card_isRunAtLower rn lo) 128) (f_Card_isRunAtUpper rn up) 256), .int wi, .int fi, .int fc, .int s2, .int sc, .int co]))]) (lv' := [(0, .ref hp), (1, .ref hc), (2, .ref te)]) (st' := []) (pc' := 60) rfl rfl rfl rfl ?_
        exact gw_vret (w := [(hp, .inr (3, [.ref hd, .int nu, .int am, .int ty, .int fa, .int oc, .int (f_Pmt_setIf_flags (f_Pmt_setIf_flags (f_Pmt_setIf_flags fl 0 64) (f_Card_isRunAtLower rn lo) 128) (f_Card_isRunAtUpper rn up) 256), .int wi, .int fi, .int fc, .int s2, .int sc, .int co])), (hc, .inr (5, [.ref ho, .int ky, .int pn, .int tr, .int ct, .int rn, .int sn, .int ac, .int ed, .int md, .int mn, .int mo, .int lo, .int up])), (te, .inr (1, [.ref hs])), (hs, .inl (cA 0, 7, .inl g))]) S g_r g_k  [3, 0, 1, 2] rfl (by decide) ⟨(by simp only [f_Pmt_weighRisks_flags, if_pos c_2, if_neg c_3, if_neg c_4]), (by simp only [f_Pmt_weighRisks_flags, if_pos c_2, if_neg c_3, if_neg c_4])⟩ dc_Pmt_weighRisks_60
  · -- not
    refine gw_iconst (v := 1) S dc_Pmt_weighRisks_12 (by decide) ?_
    refine gw_goto (tgt := 17) S dc_Pmt_weighRisks_13 (by decide) ?_
    refine gw_bipush (v := 64) S dc_Pmt_weighRisks_17 (by decide) ?_
    refine gw_callV (As := [.int 1, .int 64]) (st := []) (wr := [(hc, .inr (5, [.ref ho, .int ky, .int pn, .int tr, .int ct, .int rn, .int sn, .int ac, .int ed, .int md, .int mn, .int mo, .int lo, .int up])), (te, .inr (1, [.ref hs])), (hs, .inl (cA 0, 7, .inl g))]) S hK hA (fun sz => c_Pmt_setIf l D cA sz hp hd nu am ty fa oc fl wi fi fc s2 sc co 1 64 ) (cw_Pmt_59 S.2.2.2.2 rfl rfl ⟨Nat.le_of_ble_eq_true rfl, Nat.le_of_ble_eq_true rfl⟩) [0] [1, 2, 3] rfl (by decide) rfl (by decide) (by decide) 0 rfl rfl rfl rfl rfl (Nat.le_of_ble_eq_true rfl) dc_Pmt_weighRisks_19 ⟨Nat.le_of_ble_eq_true rfl, Nat.le_of_ble_eq_true rfl⟩ ?_
    rintro _ _ ⟨rfl, rfl⟩
    refine gw_eq (ws' := [(hc, .inr (5, [.ref ho, .int ky, .int pn, .int tr, .int ct, .int rn, .int sn, .int ac, .int ed, .int md, .int mn, .int mo, .int lo, .int up])), (te, .inr (1, [.ref hs])), (hs, .inl (cA 0, 7, .inl g)), (hp, .inr (3, [.ref hd, .int nu, .int am, .int ty, .int fa, .int oc, .int (f_Pmt_setIf_flags fl 1 64), .int wi, .int fi, .int fc, .int s2, .int sc, .int co]))]) (lv' := [(0, .ref hp), (1, .ref hc), (2, .ref te)]) (st' := []) (pc' := 22) rfl rfl rfl rfl ?_
    refine gw_aload_n S dc_Pmt_weighRisks_22 rfl 1 rfl ?_
    refine gw_getN S hK.1 ic_Card rfl 12 (by decide) (hK.2 _ mn_213).2 0 rfl rfl dc_Pmt_weighRisks_23 ?_
    refine gw_iconst (v := -1) S dc_Pmt_weighRisks_26 (by decide) ?_
    refine gw_icmp_eq (tgt := 60) S dc_Pmt_weighRisks_27 (by decide) (fun c_7 => ?_) (fun c_7 => ?_)
    · -- taken
      exact gw_vret (w := [(hp, .inr (3, [.ref hd, .int nu, .int am, .int ty, .int fa, .int oc, .int (f_Pmt_setIf_flags fl 1 64), .int wi, .int fi, .int fc, .int s2, .int sc, .int co])), (hc, .inr (5, [.ref ho, .int ky, .int pn, .int tr, .int ct, .int rn, .int sn, .int ac, .int ed, .int md, .int mn, .int mo, .int lo, .int up])), (te, .inr (1, [.ref hs])), (hs, .inl (cA 0, 7, .inl g))]) S g_r g_k  [3, 0, 1, 2] rfl (by decide) ⟨(by simp only [f_Pmt_weighRisks_flags, if_neg c_2, if_pos c_7]), (by simp only [f_Pmt_weighRisks_flags, if_neg c_2, if_pos c_7])⟩ dc_Pmt_weighRisks_60
    · -- not
      refine gw_aload_n S dc_Pmt_weighRisks_30 rfl 1 rfl ?_
      refine gw_getN S hK.1 ic_Card rfl 13 (by decide) (hK.2 _ mn_215).2 0 rfl rfl dc_Pmt_weighRisks_31 ?_
      refine gw_iconst (v := -1) S dc_Pmt_weighRisks_34 (by decide) ?_
      refine gw_icmp_eq (tgt := 60) S dc_Pmt_weighRisks_35 (by decide) (fun c_8 => ?_) (fun c_8 => ?_)
      · -- taken
        exact gw_vret (w := [(hp, .inr (3, [.ref hd, .int nu, .int am, .int ty, .int fa, .int oc, .int (f_Pmt_setIf_flags fl 1 64), .int wi, .int fi, .int fc, .int s2, .int sc, .int co])), (hc, .inr (5, [.ref ho, .int ky, .int pn, .int tr, .int ct, .int rn, .int sn, .int ac, .int ed, .int md, .int mn, .int mo, .int lo, .int up])), (te, .inr (1, [.ref hs])), (hs, .inl (cA 0, 7, .inl g))]) S g_r g_k  [3, 0, 1, 2] rfl (by decide) ⟨(by simp only [f_Pmt_weighRisks_flags, if_neg c_2, if_neg c_7, if_pos c_8]), (by simp only [f_Pmt_weighRisks_flags, if_neg c_2, if_neg c_7, if_pos c_8])⟩ dc_Pmt_weighRisks_60
      · -- not
        refine gw_aload_n S dc_Pmt_weighRisks_38 rfl 0 rfl ?_
        refine gw_aload_n S dc_Pmt_weighRisks_39 rfl 1 rfl ?_
        refine gw_callVR (As := []) (st := [.ref hp]) S hK (c_Card_isRunAtLower l D cA hc ho ky pn tr ct rn sn ac ed md mn mo lo up ) (cw_Pmt_165 S.2.2.2.2 rfl rfl ⟨Nat.le_of_ble_eq_true rfl, Nat.le_of_ble_eq_true rfl⟩) [0] rfl (by decide) 0 rfl rfl rfl rfl rfl (Nat.le_of_ble_eq_true rfl) dc_Pmt_weighRisks_40 ⟨Nat.le_of_ble_eq_true rfl, Nat.le_of_ble_eq_true rfl⟩ ?_
        rintro _ rfl
        refine gw_eq (ws' := [(hc, .inr (5, [.ref ho, .int ky, .int pn, .int tr, .int ct, .int rn, .int sn, .int ac, .int ed, .int md, .int mn, .int mo, .int lo, .int up])), (te, .inr (1, [.ref hs])), (hs, .inl (cA 0, 7, .inl g)), (hp, .inr (3, [.ref hd, .int nu, .int am, .int ty, .int fa, .int oc, .int (f_Pmt_setIf_flags fl 1 64), .int wi, .int fi, .int fc, .int s2, .int sc, .int co]))]) (lv' := [(0, .ref hp), (1, .ref hc), (2, .ref te)]) (st' := [.int (f_Card_isRunAtLower rn lo), .ref hp]) (pc' := 43) rfl rfl rfl rfl ?_
        refine gw_sipush (v := 128) S dc_Pmt_weighRisks_43 (by decide) ?_
        refine gw_callV (As := [.int (f_Card_isRunAtLower rn lo), .int 128]) (st := []) (wr := [(hc, .inr (5, [.ref ho, .int ky, .int pn, .int tr, .int ct, .int rn, .int sn, .int ac, .int ed, .int md, .int mn, .int mo, .int lo, .int up])), (te, .inr (1, [.ref hs])), (hs, .inl (cA 0, 7, .inl g))]) S hK hA (fun sz => c_Pmt_setIf l D cA sz hp hd nu am ty fa oc (f_Pmt_setIf_flags fl 1 64) wi fi fc s2 sc co (f_Card_isRunAtLower rn lo) 128 ) (cw_Pmt_59 S.2.2.2.2 rfl rfl ⟨Nat.le_of_ble_eq_true rfl, Nat.le_of_ble_eq_true rfl⟩) [3] [0, 1, 2] rfl (by decide) rfl (by decide) (by decide) 0 rfl rfl rfl rfl rfl (Nat.le_of_ble_eq_true rfl) dc_Pmt_weighRisks_46 ⟨Nat.le_of_ble_eq_true rfl, Nat.le_of_ble_eq_true rfl⟩ ?_
        rintro _ _ ⟨rfl, rfl⟩
        refine gw_eq (ws' := [(hc, .inr (5, [.ref ho, .int ky, .int pn, .int tr, .int ct, .int rn, .int sn, .int ac, .int ed, .int md, .int mn, .int mo, .int lo, .int up])), (te, .inr (1, [.ref hs])), (hs, .inl (cA 0, 7, .inl g)), (hp, .inr (3, [.ref hd, .int nu, .int am, .int ty, .int fa, .int oc, .int (f_Pmt_setIf_flags (f_Pmt_setIf_flags fl 1 64) (f_Card_isRunAtLower rn lo) 128), .int wi, .int fi, .int fc, .int s2, .int sc, .int co]))]) (lv' := [(0, .ref hp), (1, .ref hc), (2, .ref te)]) (st' := []) (pc' := 49) rfl rfl rfl rfl ?_
        refine gw_aload_n S dc_Pmt_weighRisks_49 rfl 0 rfl ?_
        refine gw_aload_n S dc_Pmt_weighRisks_50 rfl 1 rfl ?_
        refine gw_callVR (As := []) (st := [.ref hp]) S hK (c_Card_isRunAtUpper l D cA hc ho ky pn tr ct rn sn ac ed md mn mo lo up ) (cw_Pmt_168 S.2.2.2.2 rfl rfl ⟨Nat.le_of_ble_eq_true rfl, Nat.le_of_ble_eq_true rfl⟩) [0] rfl (by decide) 0 rfl rfl rfl rfl rfl (Nat.le_of_ble_eq_true rfl) dc_Pmt_weighRisks_51 ⟨Nat.le_of_ble_eq_true rfl, Nat.le_of_ble_eq_true rfl⟩ ?_
        rintro _ rfl
        refine gw_eq (ws' := [(hc, .inr (5, [.ref ho, .int ky, .int pn, .int tr, .int ct, .int rn, .int sn, .int ac, .int ed, .int md, .int mn, .int mo, .int lo, .int up])), (te, .inr (1, [.ref hs])), (hs, .inl (cA 0, 7, .inl g)), (hp, .inr (3, [.ref hd, .int nu, .int am, .int ty, .int fa, .int oc, .int (f_Pmt_setIf_flags (f_Pmt_setIf_flags fl 1 64) (f_Card_isRunAtLower rn lo) 128), .int wi, .int fi, .int fc, .int s2, .int sc, .int co]))]) (lv' := [(0, .ref hp), (1, .ref hc), (2, .ref te)]) (st' := [.int (f_Card_isRunAtUpper rn up), .ref hp]) (pc' := 54) rfl rfl rfl rfl ?_
        refine gw_sipush (v := 256) S dc_Pmt_weighRisks_54 (by decide) ?_
        refine gw_callV (As := [.int (f_Card_isRunAtUpper rn up), .int 256]) (st := []) (wr := [(hc, .inr (5, [.ref ho, .int ky, .int pn, .int tr, .int ct, .int rn, .int sn, .int ac, .int ed, .int md, .int mn, .int mo, .int lo, .int up])), (te, .inr (1, [.ref hs])), (hs, .inl (cA 0, 7, .inl g))]) S hK hA (fun sz => c_Pmt_setIf l D cA sz hp hd nu am ty fa oc (f_Pmt_setIf_flags (f_Pmt_setIf_flags fl 1 64) (f_Card_isRunAtLower rn lo) 128) wi fi fc s2 sc co (f_Card_isRunAtUpper rn up) 256 ) (cw_Pmt_59 S.2.2.2.2 rfl rfl ⟨Nat.le_of_ble_eq_true rfl, Nat.le_of_ble_eq_true rfl⟩) [3] [0, 1, 2] rfl (by decide) rfl (by decide) (by decide) 0 rfl rfl rfl rfl rfl (Nat.le_of_ble_eq_true rfl) dc_Pmt_weighRisks_57 ⟨Nat.le_of_ble_eq_true rfl, Nat.le_of_ble_eq_true rfl⟩ ?_
        rintro _ _ ⟨rfl, rfl⟩
        refine gw_eq (ws' := [(hc, .inr (5, [.ref ho, .int ky, .int pn, .int tr, .int ct, .int rn, .int sn, .int ac, .int ed, .int md, .int mn, .int mo, .int lo, .int up])), (te, .inr (1, [.ref hs])), (hs, .inl (cA 0, 7, .inl g)), (hp, .inr (3, [.ref hd, .int nu, .int am, .int ty, .int fa, .int oc, .int (f_Pmt_setIf_flags (f_Pmt_setIf_flags (f_Pmt_setIf_flags fl 1 64) (f_Card_isRunAtLower rn lo) 128) (f_Card_isRunAtUpper rn up) 256), .int wi, .int fi, .int fc, .int s2, .int sc, .int co]))]) (lv' := [(0, .ref hp), (1, .ref hc), (2, .ref te)]) (st' := []) (pc' := 60) rfl rfl rfl rfl ?_
        exact gw_vret (w := [(hp, .inr (3, [.ref hd, .int nu, .int am, .int ty, .int fa, .int oc, .int (f_Pmt_setIf_flags (f_Pmt_setIf_flags (f_Pmt_setIf_flags fl 1 64) (f_Card_isRunAtLower rn lo) 128) (f_Card_isRunAtUpper rn up) 256), .int wi, .int fi, .int fc, .int s2, .int sc, .int co])), (hc, .inr (5, [.ref ho, .int ky, .int pn, .int tr, .int ct, .int rn, .int sn, .int ac, .int ed, .int md, .int mn, .int mo, .int lo, .int up])), (te, .inr (1, [.ref hs])), (hs, .inl (cA 0, 7, .inl g))]) S g_r g_k  [3, 0, 1, 2] rfl (by decide) ⟨(by simp only [f_Pmt_weighRisks_flags, if_neg c_2, if_neg c_7, if_neg c_8]), (by simp only [f_Pmt_weighRisks_flags, if_neg c_2, if_neg c_7, if_neg c_8])⟩ dc_Pmt_weighRisks_60
def f_Pmt_findWish (fl : Int32) (md : Int32) (mn : Int32) (mo : Int32) (g : Nat → Int32) : Int32 := if (f_Pmt_hasFlagIn fl (mn ||| (g 5))) = 0 then (if (f_Term_isConnected g) = 0 then (if (f_Pmt_hasFlagIn fl (md ||| (g 4))) = 0 then 2 else (0)) else (if (f_Pmt_hasFlagIn fl (mo ||| (g 6))) = 0 then 2 else (1))) else (0)
set_option maxRecDepth 100000 in
set_option maxHeartbeats 4000000 in
theorem c_Pmt_findWish (l : Launch) (D : va_G) (cA : Nat → ClassId) (hp : Nat) (hd : Nat) (nu : Int32) (am : Int32) (ty : Int32) (fa : Int32) (oc : Int32) (fl : Int32) (wi : Int32) (fi : Int32) (fc : Int32) (s2 : Int32) (sc : Int32) (co : Int32) (hc : Nat) (ho : Nat) (ky : Int32) (pn : Int32) (tr : Int32) (ct : Int32) (rn : Int32) (sn : Int32) (ac : Int32) (ed : Int32) (md : Int32) (mn : Int32) (mo : Int32) (lo : Int32) (up : Int32) (te : Nat) (hs : Nat) (g : Nat → Int32)  : ct_R l D cA yn_Pmt_findWish cd_Pmt_findWish 2 [.ref hp, .ref hc, .ref te] [(hp, .inr (3, [.ref hd, .int nu, .int am, .int ty, .int fa, .int oc, .int fl, .int wi, .int fi, .int fc, .int s2, .int sc, .int co])), (hc, .inr (5, [.ref ho, .int ky, .int pn, .int tr, .int ct, .int rn, .int sn, .int ac, .int ed, .int md, .int mn, .int mo, .int lo, .int up])), (te, .inr (1, [.ref hs])), (hs, .inl (cA 0, 7, .inl g))] (fun v_ => v_ = some (.int (f_Pmt_findWish fl md mn mo g))) := by
  refine gw_metR (by decide) rfl (Nat.le_of_ble_eq_true rfl) ?_
  intro p_ e_ s_ m_ args_ below_ meth_ c_ S g_r g_k hK
  refine gw_eq (ws' := [(hp, .inr (3, [.ref hd, .int nu, .int am, .int ty, .int fa, .int oc, .int fl, .int wi, .int fi, .int fc, .int s2, .int sc, .int co])), (hc, .inr (5, [.ref ho, .int ky, .int pn, .int tr, .int ct, .int rn, .int sn, .int ac, .int ed, .int md, .int mn, .int mo, .int lo, .int up])), (te, .inr (1, [.ref hs])), (hs, .inl (cA 0, 7, .inl g))]) (lv' := [(0, .ref hp), (1, .ref hc), (2, .ref te)]) (st' := []) (pc' := 0) rfl rfl rfl rfl ?_
  refine gw_aload_n S dc_Pmt_findWish_0 rfl 0 rfl ?_
  refine gw_aload_n S dc_Pmt_findWish_1 rfl 1 rfl ?_
  refine gw_getN S hK.1 ic_Card rfl 10 (by decide) (hK.2 _ mn_209).2 1 rfl rfl dc_Pmt_findWish_2 ?_
  refine gw_aload_n S dc_Pmt_findWish_5 rfl 2 rfl ?_
  refine gw_callVR (As := []) (st := [.int mn, .ref hp]) S hK (c_Term_maskDenial l D cA te hs g ) (cw_Pmt_174 S.2.2.2.2 rfl rfl ⟨Nat.le_of_ble_eq_true rfl, Nat.le_of_ble_eq_true rfl⟩) [2, 3] rfl (by decide) 0 rfl rfl rfl rfl rfl (Nat.le_of_ble_eq_true rfl) dc_Pmt_findWish_6 ⟨Nat.le_of_ble_eq_true rfl, Nat.le_of_ble_eq_true rfl⟩ ?_
  rintro _ rfl
  refine gw_eq (ws' := [(hp, .inr (3, [.ref hd, .int nu, .int am, .int ty, .int fa, .int oc, .int fl, .int wi, .int fi, .int fc, .int s2, .int sc, .int co])), (hc, .inr (5, [.ref ho, .int ky, .int pn, .int tr, .int ct, .int rn, .int sn, .int ac, .int ed, .int md, .int mn, .int mo, .int lo, .int up])), (te, .inr (1, [.ref hs])), (hs, .inl (cA 0, 7, .inl g))]) (lv' := [(0, .ref hp), (1, .ref hc), (2, .ref te)]) (st' := [.int (g 5), .int mn, .ref hp]) (pc' := 9) rfl rfl rfl rfl ?_
  refine gw_ior S dc_Pmt_findWish_9 ?_
  refine gw_callVR (As := [.int (mn ||| (g 5))]) (st := []) S hK (c_Pmt_hasFlagIn l D cA hp hd nu am ty fa oc fl wi fi fc s2 sc co (mn ||| (g 5)) ) (cw_Pmt_176 S.2.2.2.2 rfl rfl ⟨Nat.le_of_ble_eq_true rfl, Nat.le_of_ble_eq_true rfl⟩) [0] rfl (by decide) 0 rfl rfl rfl rfl rfl (Nat.le_of_ble_eq_true rfl) dc_Pmt_findWish_10 ⟨Nat.le_of_ble_eq_true rfl, Nat.le_of_ble_eq_true rfl⟩ ?_
  rintro _ rfl
  refine gw_eq (ws' := [(hp, .inr (3, [.ref hd, .int nu, .int am, .int ty, .int fa, .int oc, .int fl, .int wi, .int fi, .int fc, .int s2, .int sc, .int co])), (hc, .inr (5, [.ref ho, .int ky, .int pn, .int tr, .int ct, .int rn, .int sn, .int ac, .int ed, .int md, .int mn, .int mo, .int lo, .int up])), (te, .inr (1, [.ref hs])), (hs, .inl (cA 0, 7, .inl g))]) (lv' := [(0, .ref hp), (1, .ref hc), (2, .ref te)]) (st' := [.int (f_Pmt_hasFlagIn fl (mn ||| (g 5)))]) (pc' := 13) rfl rfl rfl rfl ?_
  refine gw_if_eq (tgt := 18) S dc_Pmt_findWish_13 (by decide) (fun c_3 => ?_) (fun c_3 => ?_)
  · -- taken
    refine gw_aload_n S dc_Pmt_findWish_18 rfl 2 rfl ?_
    refine gw_callVR (As := []) (st := []) S hK (c_Term_isConnected l D cA te hs g ) (cw_Pmt_179 S.2.2.2.2 rfl rfl ⟨Nat.le_of_ble_eq_true rfl, Nat.le_of_ble_eq_true rfl⟩) [2, 3] rfl (by decide) 0 rfl rfl rfl rfl rfl (Nat.le_of_ble_eq_true rfl) dc_Pmt_findWish_19 ⟨Nat.le_of_ble_eq_true rfl, Nat.le_of_ble_eq_true rfl⟩ ?_
    rintro _ rfl
    refine gw_eq (ws' := [(hp, .inr (3, [.ref hd, .int nu, .int am, .int ty, .int fa, .int oc, .int fl, .int wi, .int fi, .int fc, .int s2, .int sc, .int co])), (hc, .inr (5, [.ref ho, .int ky, .int pn, .int tr, .int ct, .int rn, .int sn, .int ac, .int ed, .int md, .int mn, .int mo, .int lo, .int up])), (te, .inr (1, [.ref hs])), (hs, .inl (cA 0, 7, .inl g))]) (lv' := [(0, .ref hp), (1, .ref hc), (2, .ref te)]) (st' := [.int (f_Term_isConnected g)]) (pc' := 22) rfl rfl rfl rfl ?_
    refine gw_if_eq (tgt := 47) S dc_Pmt_findWish_22 (by decide) (fun c_5 => ?_) (fun c_5 => ?_)
    · -- taken
      refine gw_aload_n S dc_Pmt_findWish_47 rfl 0 rfl ?_
      refine gw_aload_n S dc_Pmt_findWish_48 rfl 1 rfl ?_
      refine gw_getN S hK.1 ic_Card rfl 9 (by decide) (hK.2 _ mn_207).2 1 rfl rfl dc_Pmt_findWish_49 ?_
      refine gw_aload_n S dc_Pmt_findWish_52 rfl 2 rfl ?_
      refine gw_callVR (As := []) (st := [.int md, .ref hp]) S hK (c_Term_maskDefault l D cA te hs g ) (cw_Pmt_190 S.2.2.2.2 rfl rfl ⟨Nat.le_of_ble_eq_true rfl, Nat.le_of_ble_eq_true rfl⟩) [2, 3] rfl (by decide) 0 rfl rfl rfl rfl rfl (Nat.le_of_ble_eq_true rfl) dc_Pmt_findWish_53 ⟨Nat.le_of_ble_eq_true rfl, Nat.le_of_ble_eq_true rfl⟩ ?_
      rintro _ rfl
      refine gw_eq (ws' := [(hp, .inr (3, [.ref hd, .int nu, .int am, .int ty, .int fa, .int oc, .int fl, .int wi, .int fi, .int fc, .int s2, .int sc, .int co])), (hc, .inr (5, [.ref ho, .int ky, .int pn, .int tr, .int ct, .int rn, .int sn, .int ac, .int ed, .int md, .int mn, .int mo, .int lo, .int up])), (te, .inr (1, [.ref hs])), (hs, .inl (cA 0, 7, .inl g))]) (lv' := [(0, .ref hp), (1, .ref hc), (2, .ref te)]) (st' := [.int (g 4), .int md, .ref hp]) (pc' := 56) rfl rfl rfl rfl ?_
      refine gw_ior S dc_Pmt_findWish_56 ?_
      refine gw_callVR (As := [.int (md ||| (g 4))]) (st := []) S hK (c_Pmt_hasFlagIn l D cA hp hd nu am ty fa oc fl wi fi fc s2 sc co (md ||| (g 4)) ) (cw_Pmt_176 S.2.2.2.2 rfl rfl ⟨Nat.le_of_ble_eq_true rfl, Nat.le_of_ble_eq_true rfl⟩) [0] rfl (by decide) 0 rfl rfl rfl rfl rfl (Nat.le_of_ble_eq_true rfl) dc_Pmt_findWish_57 ⟨Nat.le_of_ble_eq_true rfl, Nat.le_of_ble_eq_true rfl⟩ ?_
      rintro _ rfl
      refine gw_eq (ws' := [(hp, .inr (3, [.ref hd, .int nu, .int am, .int ty, .int fa, .int oc, .int fl, .int wi, .int fi, .int fc, .int s2, .int sc, .int co])), (hc, .inr (5, [.ref ho, .int ky, .int pn, .int tr, .int ct, .int rn, .int sn, .int ac, .int ed, .int md, .int mn, .int mo, .int lo, .int up])), (te, .inr (1, [.ref hs])), (hs, .inl (cA 0, 7, .inl g))]) (lv' := [(0, .ref hp), (1, .ref hc), (2, .ref te)]) (st' := [.int (f_Pmt_hasFlagIn fl (md ||| (g 4)))]) (pc' := 60) rfl rfl rfl rfl ?_
      refine gw_if_eq (tgt := 67) S dc_Pmt_findWish_60 (by decide) (fun c_8 => ?_) (fun c_8 => ?_)
      · -- taken
        refine gw_iconst (v := 2) S dc_Pmt_findWish_67 (by decide) ?_
        exact gw_iretR S g_r g_k  (by simp only [f_Pmt_findWish, if_pos c_3, if_pos c_5, if_pos c_8]) dc_Pmt_findWish_68
      · -- not
        refine gw_iconst (v := 0) S dc_Pmt_findWish_63 (by decide) ?_
        refine gw_goto (tgt := 68) S dc_Pmt_findWish_64 (by decide) ?_
        exact gw_iretR S g_r g_k  (by simp only [f_Pmt_findWish, if_pos c_3, if_pos c_5, if_neg c_8]) dc_Pmt_findWish_68
    · -- not
      refine gw_aload_n S dc_Pmt_findWish_25 rfl 0 rfl ?_
      refine gw_aload_n S dc_Pmt_findWish_26 rfl 1 rfl ?_
      refine gw_getN S hK.1 ic_Card rfl 11 (by decide) (hK.2 _ mn_211).2 1 rfl rfl dc_Pmt_findWish_27 ?_
      refine gw_aload_n S dc_Pmt_findWish_30 rfl 2 rfl ?_
      refine gw_callVR (As := []) (st := [.int mo, .ref hp]) S hK (c_Term_maskOnline l D cA te hs g ) (cw_Pmt_185 S.2.2.2.2 rfl rfl ⟨Nat.le_of_ble_eq_true rfl, Nat.le_of_ble_eq_true rfl⟩) [2, 3] rfl (by decide) 0 rfl rfl rfl rfl rfl (Nat.le_of_ble_eq_true rfl) dc_Pmt_findWish_31 ⟨Nat.le_of_ble_eq_true rfl, Nat.le_of_ble_eq_true rfl⟩ ?_
      rintro _ rfl
      refine gw_eq (ws' := [(hp, .inr (3, [.ref hd, .int nu, .int am, .int ty, .int fa, .int oc, .int fl, .int wi, .int fi, .int fc, .int s2, .int sc, .int co])), (hc, .inr (5, [.ref ho, .int ky, .int pn, .int tr, .int ct, .int rn, .int sn, .int ac, .int ed, .int md, .int mn, .int mo, .int lo, .int up])), (te, .inr (1, [.ref hs])), (hs, .inl (cA 0, 7, .inl g))]) (lv' := [(0, .ref hp), (1, .ref hc), (2, .ref te)]) (st' := [.int (g 6), .int mo, .ref hp]) (pc' := 34) rfl rfl rfl rfl ?_
      refine gw_ior S dc_Pmt_findWish_34 ?_
      refine gw_callVR (As := [.int (mo ||| (g 6))]) (st := []) S hK (c_Pmt_hasFlagIn l D cA hp hd nu am ty fa oc fl wi fi fc s2 sc co (mo ||| (g 6)) ) (cw_Pmt_176 S.2.2.2.2 rfl rfl ⟨Nat.le_of_ble_eq_true rfl, Nat.le_of_ble_eq_true rfl⟩) [0] rfl (by decide) 0 rfl rfl rfl rfl rfl (Nat.le_of_ble_eq_true rfl) dc_Pmt_findWish_35 ⟨Nat.le_of_ble_eq_true rfl, Nat.le_of_ble_eq_true rfl⟩ ?_
      rintro _ rfl
      refine gw_eq (ws' := [(hp, .inr (3, [.ref hd, .int nu, .int am, .int ty, .int fa, .int oc, .int fl, .int wi, .int fi, .int fc, .int s2, .int sc, .int co])), (hc, .inr (5, [.ref ho, .int ky, .int pn, .int tr, .int ct, .int rn, .int sn, .int ac, .int ed, .int md, .int mn, .int mo, .int lo, .int up])), (te, .inr (1, [.ref hs])), (hs, .inl (cA 0, 7, .inl g))]) (lv' := [(0, .ref hp), (1, .ref hc), (2, .ref te)]) (st' := [.int (f_Pmt_hasFlagIn fl (mo ||| (g 6)))]) (pc' := 38) rfl rfl rfl rfl ?_
      refine gw_if_eq (tgt := 45) S dc_Pmt_findWish_38 (by decide) (fun c_11 => ?_) (fun c_11 => ?_)
      · -- taken
        refine gw_iconst (v := 2) S dc_Pmt_findWish_45 (by decide) ?_
        exact gw_iretR S g_r g_k  (by simp only [f_Pmt_findWish, if_pos c_3, if_neg c_5, if_pos c_11]) dc_Pmt_findWish_46
      · -- not
        refine gw_iconst (v := 1) S dc_Pmt_findWish_41 (by decide) ?_
        refine gw_goto (tgt := 46) S dc_Pmt_findWish_42 (by decide) ?_
        exact gw_iretR S g_r g_k  (by simp only [f_Pmt_findWish, if_pos c_3, if_neg c_5, if_neg c_11]) dc_Pmt_findWish_46
  · -- not
    refine gw_iconst (v := 0) S dc_Pmt_findWish_16 (by decide) ?_
    exact gw_iretR S g_r g_k  (by simp only [f_Pmt_findWish, if_neg c_3]) dc_Pmt_findWish_17
def f_Pmt_demanded (nu : Int32) (am : Int32) (fl : Int32) (g : Nat → Int32) (x : Int32) : Int32 := if x = 149 then fl else (if x = 154 then (g 1) else (if x = 40706 then am else (if x = 40759 then nu else (0))))
set_option maxRecDepth 100000 in
set_option maxHeartbeats 4000000 in
theorem c_Pmt_demanded (l : Launch) (D : va_G) (cA : Nat → ClassId) (hp : Nat) (hd : Nat) (nu : Int32) (am : Int32) (ty : Int32) (fa : Int32) (oc : Int32) (fl : Int32) (wi : Int32) (fi : Int32) (fc : Int32) (s2 : Int32) (sc : Int32) (co : Int32) (te : Nat) (hs : Nat) (g : Nat → Int32) (x : Int32)  : ct_R l D cA yn_Pmt_demanded cd_Pmt_demanded 2 [.ref hp, .int x, .ref te] [(hp, .inr (3, [.ref hd, .int nu, .int am, .int ty, .int fa, .int oc, .int fl, .int wi, .int fi, .int fc, .int s2, .int sc, .int co])), (te, .inr (1, [.ref hs])), (hs, .inl (cA 0, 7, .inl g))] (fun v_ => v_ = some (.int (f_Pmt_demanded nu am fl g x))) := by
  refine gw_metR (by decide) rfl (Nat.le_of_ble_eq_true rfl) ?_
  intro p_ e_ s_ m_ args_ below_ meth_ c_ S g_r g_k hK
  refine gw_eq (ws' := [(hp, .inr (3, [.ref hd, .int nu, .int am, .int ty, .int fa, .int oc, .int fl, .int wi, .int fi, .int fc, .int s2, .int sc, .int co])), (te, .inr (1, [.ref hs])), (hs, .inl (cA 0, 7, .inl g))]) (lv' := [(0, .ref hp), (1, .int x), (2, .ref te)]) (st' := []) (pc' := 0) rfl rfl rfl rfl ?_
  refine gw_iload_n S dc_Pmt_demanded_0 rfl 1 rfl ?_
  rcases Classical.em (x = 149) with c_1 | c_1
  · -- case 149
    refine gw_lookup (tgt := 49) (off := 48) S dc_Pmt_demanded_1 (by decide) (by first | (rw [c_1]; done) | (rw [c_1]; rfl)) (by decide) ?_
    refine gw_aload_n S dc_Pmt_demanded_49 rfl 0 rfl ?_
    refine gw_get S hK.1 ic_Pmt rfl 6 (by decide) (gw_lk S mw_95) 0 rfl rfl dc_Pmt_demanded_50 ?_
    exact gw_iretR S g_r g_k  (by simp only [f_Pmt_demanded, if_pos c_1]) dc_Pmt_demanded_53
  · -- else
    rcases Classical.em (x = 154) with c_2 | c_2
    · -- case 154
      refine gw_lookup (tgt := 54) (off := 53) S dc_Pmt_demanded_1 (by decide) (by first | (rw [c_2]; done) | (rw [c_2]; rfl)) (by decide) ?_
      refine gw_aload_n S dc_Pmt_demanded_54 rfl 2 rfl ?_
      refine gw_callVR (As := []) (st := []) S hK (c_Term_day l D cA te hs g ) (cw_Pmt_50 S.2.2.2.2 rfl rfl ⟨Nat.le_of_ble_eq_true rfl, Nat.le_of_ble_eq_true rfl⟩) [1, 2] rfl (by decide) 0 rfl rfl rfl rfl rfl (Nat.le_of_ble_eq_true rfl) dc_Pmt_demanded_55 ⟨Nat.le_of_ble_eq_true rfl, Nat.le_of_ble_eq_true rfl⟩ ?_
      rintro _ rfl
      refine gw_eq (ws' := [(hp, .inr (3, [.ref hd, .int nu, .int am, .int ty, .int fa, .int oc, .int fl, .int wi, .int fi, .int fc, .int s2, .int sc, .int co])), (te, .inr (1, [.ref hs])), (hs, .inl (cA 0, 7, .inl g))]) (lv' := [(0, .ref hp), (1, .int x), (2, .ref te)]) (st' := [.int (g 1)]) (pc' := 58) rfl rfl rfl rfl ?_
      exact gw_iretR S g_r g_k  (by simp only [f_Pmt_demanded, if_neg c_1, if_pos c_2]) dc_Pmt_demanded_58
    · -- else
      rcases Classical.em (x = 40706) with c_4 | c_4
      · -- case 40706
        refine gw_lookup (tgt := 44) (off := 43) S dc_Pmt_demanded_1 (by decide) (by first | (rw [c_4]; done) | (rw [c_4]; rfl)) (by decide) ?_
        refine gw_aload_n S dc_Pmt_demanded_44 rfl 0 rfl ?_
        refine gw_get S hK.1 ic_Pmt rfl 2 (by decide) (gw_lk S mw_90) 0 rfl rfl dc_Pmt_demanded_45 ?_
        exact gw_iretR S g_r g_k  (by simp only [f_Pmt_demanded, if_neg c_1, if_neg c_2, if_pos c_4]) dc_Pmt_demanded_48
      · -- else
        rcases Classical.em (x = 40759) with c_5 | c_5
        · -- case 40759
          refine gw_lookup (tgt := 59) (off := 58) S dc_Pmt_demanded_1 (by decide) (by first | (rw [c_5]; done) | (rw [c_5]; rfl)) (by decide) ?_
          refine gw_aload_n S dc_Pmt_demanded_59 rfl 0 rfl ?_
          refine gw_get S hK.1 ic_Pmt rfl 1 (by decide) (gw_lk S mw_87) 0 rfl rfl dc_Pmt_demanded_60 ?_
          exact gw_iretR S g_r g_k  (by simp only [f_Pmt_demanded, if_neg c_1, if_neg c_2, if_neg c_4, if_pos c_5]) dc_Pmt_demanded_63
        · -- else
          refine gw_lookup (tgt := 64) (off := 63) S dc_Pmt_demanded_1 (by decide) ((lv_osw c_1 (by decide)).trans ((lv_osw c_2 (by decide)).trans ((lv_osw c_4 (by decide)).trans ((lv_osw c_5 (by decide)).trans rfl)))) (by decide) ?_
          refine gw_iconst (v := 0) S dc_Pmt_demanded_64 (by decide) ?_
          exact gw_iretR S g_r g_k  (by simp only [f_Pmt_demanded, if_neg c_1, if_neg c_2, if_neg c_4, if_neg c_5]) dc_Pmt_demanded_65
def f_Pmt_hasReply (fa : Int32) (g : Nat → Int32) : Int32 := if (f_Term_isConnected g) = 0 then 0 else (if fa = 1 then 0 else (if fa = 2 then 0 else (1)))
theorem b_Pmt_hasReply (fa : Int32) (g : Nat → Int32) : f_Pmt_hasReply fa g = 0 ∨ f_Pmt_hasReply fa g = 1 := by
  unfold f_Pmt_hasReply
  exact (bo_ite (Or.inl rfl) (bo_ite (Or.inl rfl) (bo_ite (Or.inl rfl) (Or.inr rfl))))
set_option maxRecDepth 100000 in
set_option maxHeartbeats 4000000 in
theorem c_Pmt_hasReply (l : Launch) (D : va_G) (cA : Nat → ClassId) (hp : Nat) (hd : Nat) (nu : Int32) (am : Int32) (ty : Int32) (fa : Int32) (oc : Int32) (fl : Int32) (wi : Int32) (fi : Int32) (fc : Int32) (s2 : Int32) (sc : Int32) (co : Int32) (te : Nat) (hs : Nat) (g : Nat → Int32)  : ct_R l D cA yn_Pmt_hasReply cd_Pmt_hasReply 2 [.ref hp, .ref te] [(hp, .inr (3, [.ref hd, .int nu, .int am, .int ty, .int fa, .int oc, .int fl, .int wi, .int fi, .int fc, .int s2, .int sc, .int co])), (te, .inr (1, [.ref hs])), (hs, .inl (cA 0, 7, .inl g))] (fun v_ => v_ = some (.int (f_Pmt_hasReply fa g))) := by
  refine gw_metR (by decide) rfl (Nat.le_of_ble_eq_true rfl) ?_
  intro p_ e_ s_ m_ args_ below_ meth_ c_ S g_r g_k hK
  refine gw_eq (ws' := [(hp, .inr (3, [.ref hd, .int nu, .int am, .int ty, .int fa, .int oc, .int fl, .int wi, .int fi, .int fc, .int s2, .int sc, .int co])), (te, .inr (1, [.ref hs])), (hs, .inl (cA 0, 7, .inl g))]) (lv' := [(0, .ref hp), (1, .ref te)]) (st' := []) (pc' := 0) rfl rfl rfl rfl ?_
  refine gw_aload_n S dc_Pmt_hasReply_0 rfl 1 rfl ?_
  refine gw_callVR (As := []) (st := []) S hK (c_Term_isConnected l D cA te hs g ) (cw_Pmt_179 S.2.2.2.2 rfl rfl ⟨Nat.le_of_ble_eq_true rfl, Nat.le_of_ble_eq_true rfl⟩) [1, 2] rfl (by decide) 0 rfl rfl rfl rfl rfl (Nat.le_of_ble_eq_true rfl) dc_Pmt_hasReply_1 ⟨Nat.le_of_ble_eq_true rfl, Nat.le_of_ble_eq_true rfl⟩ ?_
  rintro _ rfl
  refine gw_eq (ws' := [(hp, .inr (3, [.ref hd, .int nu, .int am, .int ty, .int fa, .int oc, .int fl, .int wi, .int fi, .int fc, .int s2, .int sc, .int co])), (te, .inr (1, [.ref hs])), (hs, .inl (cA 0, 7, .inl g))]) (lv' := [(0, .ref hp), (1, .ref te)]) (st' := [.int (f_Term_isConnected g)]) (pc' := 4) rfl rfl rfl rfl ?_
  refine gw_if_eq (tgt := 27) S dc_Pmt_hasReply_4 (by decide) (fun c_2 => ?_) (fun c_2 => ?_)
  · -- taken
    refine gw_iconst (v := 0) S dc_Pmt_hasReply_27 (by decide) ?_
    exact gw_zretR S g_r g_k rfl (by simp only [f_Pmt_hasReply, if_pos c_2]) dc_Pmt_hasReply_28
  · -- not
    refine gw_aload_n S dc_Pmt_hasReply_7 rfl 0 rfl ?_
    refine gw_get S hK.1 ic_Pmt rfl 4 (by decide) (gw_lk S mw_92) 0 rfl rfl dc_Pmt_hasReply_8 ?_
    refine gw_iconst (v := 1) S dc_Pmt_hasReply_11 (by decide) ?_
    refine gw_icmp_eq (tgt := 27) S dc_Pmt_hasReply_12 (by decide) (fun c_3 => ?_) (fun c_3 => ?_)
    · -- taken
      refine gw_iconst (v := 0) S dc_Pmt_hasReply_27 (by decide) ?_
      exact gw_zretR S g_r g_k rfl (by simp only [f_Pmt_hasReply, if_neg c_2, if_pos c_3]) dc_Pmt_hasReply_28
    · -- not
      refine gw_aload_n S dc_Pmt_hasReply_15 rfl 0 rfl ?_
      refine gw_get S hK.1 ic_Pmt rfl 4 (by decide) (gw_lk S mw_92) 0 rfl rfl dc_Pmt_hasReply_16 ?_
      refine gw_iconst (v := 2) S dc_Pmt_hasReply_19 (by decide) ?_
      refine gw_icmp_eq (tgt := 27) S dc_Pmt_hasReply_20 (by decide) (fun c_4 => ?_) (fun c_4 => ?_)
      · -- taken
        refine gw_iconst (v := 0) S dc_Pmt_hasReply_27 (by decide) ?_
        exact gw_zretR S g_r g_k rfl (by simp only [f_Pmt_hasReply, if_neg c_2, if_neg c_3, if_pos c_4]) dc_Pmt_hasReply_28
      · -- not
        refine gw_iconst (v := 1) S dc_Pmt_hasReply_23 (by decide) ?_
        refine gw_goto (tgt := 28) S dc_Pmt_hasReply_24 (by decide) ?_
        exact gw_zretR S g_r g_k rfl (by simp only [f_Pmt_hasReply, if_neg c_2, if_neg c_3, if_neg c_4]) dc_Pmt_hasReply_28
def f_Pmt_needsReversal (fa : Int32) (oc : Int32) (fi : Int32) (co : Int32) (g : Nat → Int32) : Int32 := if fi = 1 then (if (f_Term_isConnected g) = 0 then 0 else (if (f_Pmt_hasReply fa g) = 0 then 1 else (if co = 1 then (if oc = 1 then 0 else (1)) else (0)))) else (0)
theorem b_Pmt_needsReversal (fa : Int32) (oc : Int32) (fi : Int32) (co : Int32) (g : Nat → Int32) : f_Pmt_needsReversal fa oc fi co g = 0 ∨ f_Pmt_needsReversal fa oc fi co g = 1 := by
  unfold f_Pmt_needsReversal
  exact (bo_ite (bo_ite (Or.inl rfl) (bo_ite (Or.inr rfl) (bo_ite (bo_ite (Or.inl rfl) (Or.inr rfl)) (Or.inl rfl)))) (Or.inl rfl))
set_option maxRecDepth 100000 in
set_option maxHeartbeats 4000000 in
theorem c_Pmt_needsReversal (l : Launch) (D : va_G) (cA : Nat → ClassId) (hp : Nat) (hd : Nat) (nu : Int32) (am : Int32) (ty : Int32) (fa : Int32) (oc : Int32) (fl : Int32) (wi : Int32) (fi : Int32) (fc : Int32) (s2 : Int32) (sc : Int32) (co : Int32) (te : Nat) (hs : Nat) (g : Nat → Int32)  : ct_R l D cA yn_Pmt_needsReversal cd_Pmt_needsReversal 3 [.ref hp, .ref te] [(hp, .inr (3, [.ref hd, .int nu, .int am, .int ty, .int fa, .int oc, .int fl, .int wi, .int fi, .int fc, .int s2, .int sc, .int co])), (te, .inr (1, [.ref hs])), (hs, .inl (cA 0, 7, .inl g))] (fun v_ => v_ = some (.int (f_Pmt_needsReversal fa oc fi co g))) := by
  refine gw_metR (by decide) rfl (Nat.le_of_ble_eq_true rfl) ?_
  intro p_ e_ s_ m_ args_ below_ meth_ c_ S g_r g_k hK
  refine gw_eq (ws' := [(hp, .inr (3, [.ref hd, .int nu, .int am, .int ty, .int fa, .int oc, .int fl, .int wi, .int fi, .int fc, .int s2, .int sc, .int co])), (te, .inr (1, [.ref hs])), (hs, .inl (cA 0, 7, .inl g))]) (lv' := [(0, .ref hp), (1, .ref te)]) (st' := []) (pc' := 0) rfl rfl rfl rfl ?_
  refine gw_aload_n S dc_Pmt_needsReversal_0 rfl 0 rfl ?_
  refine gw_get S hK.1 ic_Pmt rfl 8 (by decide) (gw_lk S mw_97) 0 rfl rfl dc_Pmt_needsReversal_1 ?_
  refine gw_iconst (v := 1) S dc_Pmt_needsReversal_4 (by decide) ?_
  refine gw_icmp_ne (tgt := 15) S dc_Pmt_needsReversal_5 (by decide) (fun c_1 => ?_) (fun c_1 => ?_)
  · -- taken
    refine gw_iconst (v := 0) S dc_Pmt_needsReversal_15 (by decide) ?_
    exact gw_zretR S g_r g_k rfl (by simp only [f_Pmt_needsReversal, if_neg c_1]) dc_Pmt_needsReversal_16
  · -- not
    refine gw_aload_n S dc_Pmt_needsReversal_8 rfl 1 rfl ?_
    refine gw_callVR (As := []) (st := []) S hK (c_Term_isConnected l D cA te hs g ) (cw_Pmt_179 S.2.2.2.2 rfl rfl ⟨Nat.le_of_ble_eq_true rfl, Nat.le_of_ble_eq_true rfl⟩) [1, 2] rfl (by decide) 0 rfl rfl rfl rfl rfl (Nat.le_of_ble_eq_true rfl) dc_Pmt_needsReversal_9 ⟨Nat.le_of_ble_eq_true rfl, Nat.le_of_ble_eq_true rfl⟩ ?_
    rintro _ rfl
    refine gw_eq (ws' := [(hp, .inr (3, [.ref hd, .int nu, .int am, .int ty, .int fa, .int oc, .int fl, .int wi, .int fi, .int fc, .int s2, .int sc, .int co])), (te, .inr (1, [.ref hs])), (hs, .inl (cA 0, 7, .inl g))]) (lv' := [(0, .ref hp), (1, .ref te)]) (st' := [.int (f_Term_isConnected g)]) (pc' := 12) rfl rfl rfl rfl ?_
    refine gw_if_ne (tgt := 17) S dc_Pmt_needsReversal_12 (by decide) (fun c_3 => ?_) (fun c_3 => ?_)
    · -- taken
      refine gw_aload_n S dc_Pmt_needsReversal_17 rfl 0 rfl ?_
      refine gw_aload_n S dc_Pmt_needsReversal_18 rfl 1 rfl ?_
      refine gw_callVR (As := [.ref te]) (st := []) S hK (c_Pmt_hasReply l D cA hp hd nu am ty fa oc fl wi fi fc s2 sc co te hs g ) (cw_Pmt_221 S.2.2.2.2 rfl rfl ⟨Nat.le_of_ble_eq_true rfl, Nat.le_of_ble_eq_true rfl⟩) [0, 1, 2] rfl (by decide) 0 rfl rfl rfl rfl rfl (Nat.le_of_ble_eq_true rfl) dc_Pmt_needsReversal_19 ⟨Nat.le_of_ble_eq_true rfl, Nat.le_of_ble_eq_true rfl⟩ ?_
      rintro _ rfl
      refine gw_eq (ws' := [(hp, .inr (3, [.ref hd, .int nu, .int am, .int ty, .int fa, .int oc, .int fl, .int wi, .int fi, .int fc, .int s2, .int sc, .int co])), (te, .inr (1, [.ref hs])), (hs, .inl (cA 0, 7, .inl g))]) (lv' := [(0, .ref hp), (1, .ref te)]) (st' := [.int (f_Pmt_hasReply fa g)]) (pc' := 22) rfl rfl rfl rfl ?_
      refine gw_if_eq (tgt := 41) S dc_Pmt_needsReversal_22 (by decide) (fun c_5 => ?_) (fun c_5 => ?_)
      · -- taken
        refine gw_iconst (v := 1) S dc_Pmt_needsReversal_41 (by decide) ?_
        refine gw_goto (tgt := 46) S dc_Pmt_needsReversal_42 (by decide) ?_
        exact gw_zretR S g_r g_k rfl (by simp only [f_Pmt_needsReversal, if_pos c_1, if_neg c_3, if_pos c_5]) dc_Pmt_needsReversal_46
      · -- not
        refine gw_aload_n S dc_Pmt_needsReversal_25 rfl 0 rfl ?_
        refine gw_get S hK.1 ic_Pmt rfl 12 (by decide) (gw_lk S mw_102) 0 rfl rfl dc_Pmt_needsReversal_26 ?_
        refine gw_iconst (v := 1) S dc_Pmt_needsReversal_29 (by decide) ?_
        refine gw_icmp_ne (tgt := 45) S dc_Pmt_needsReversal_30 (by decide) (fun c_6 => ?_) (fun c_6 => ?_)
        · -- taken
          refine gw_iconst (v := 0) S dc_Pmt_needsReversal_45 (by decide) ?_
          exact gw_zretR S g_r g_k rfl (by simp only [f_Pmt_needsReversal, if_pos c_1, if_neg c_3, if_neg c_5, if_neg c_6]) dc_Pmt_needsReversal_46
        · -- not
          refine gw_aload_n S dc_Pmt_needsReversal_33 rfl 0 rfl ?_
          refine gw_get S hK.1 ic_Pmt rfl 5 (by decide) (gw_lk S mw_93) 0 rfl rfl dc_Pmt_needsReversal_34 ?_
          refine gw_iconst (v := 1) S dc_Pmt_needsReversal_37 (by decide) ?_
          refine gw_icmp_eq (tgt := 45) S dc_Pmt_needsReversal_38 (by decide) (fun c_7 => ?_) (fun c_7 => ?_)
          · -- taken
            refine gw_iconst (v := 0) S dc_Pmt_needsReversal_45 (by decide) ?_
            exact gw_zretR S g_r g_k rfl (by simp only [f_Pmt_needsReversal, if_pos c_1, if_neg c_3, if_neg c_5, if_pos c_6, if_pos c_7]) dc_Pmt_needsReversal_46
          · -- not
            refine gw_iconst (v := 1) S dc_Pmt_needsReversal_41 (by decide) ?_
            refine gw_goto (tgt := 46) S dc_Pmt_needsReversal_42 (by decide) ?_
            exact gw_zretR S g_r g_k rfl (by simp only [f_Pmt_needsReversal, if_pos c_1, if_neg c_3, if_neg c_5, if_pos c_6, if_neg c_7]) dc_Pmt_needsReversal_46
    · -- not
      refine gw_iconst (v := 0) S dc_Pmt_needsReversal_15 (by decide) ?_
      exact gw_zretR S g_r g_k rfl (by simp only [f_Pmt_needsReversal, if_pos c_1, if_pos c_3]) dc_Pmt_needsReversal_16
def f_Pmt_answerAlone (fl : Int32) (tr : Int32) (rn : Int32) (md : Int32) (up : Int32) (g : Nat → Int32) : Int32 := if (f_Pmt_hasFlagIn fl (md ||| (g 4))) = 0 then (if (f_Card_isBlocked tr) = 0 then (if (f_Card_isRunAtUpper rn up) = 0 then 2 else (0)) else (0)) else (0)
def f_Pmt_answerAlone_run (fl : Int32) (tr : Int32) (rn : Int32) (md : Int32) (up : Int32) (g : Nat → Int32) : Int32 := if (f_Pmt_hasFlagIn fl (md ||| (g 4))) = 0 then (if (f_Card_isBlocked tr) = 0 then (if (f_Card_isRunAtUpper rn up) = 0 then (rn + 1) else (rn)) else (rn)) else (rn)
set_option maxRecDepth 100000 in
set_option maxHeartbeats 4000000 in
theorem c_Pmt_answerAlone (l : Launch) (D : va_G) (cA : Nat → ClassId) (sz : Nat) (hp : Nat) (hd : Nat) (nu : Int32) (am : Int32) (ty : Int32) (fa : Int32) (oc : Int32) (fl : Int32) (wi : Int32) (fi : Int32) (fc : Int32) (s2 : Int32) (sc : Int32) (co : Int32) (hc : Nat) (ho : Nat) (ky : Int32) (pn : Int32) (tr : Int32) (ct : Int32) (rn : Int32) (sn : Int32) (ac : Int32) (ed : Int32) (md : Int32) (mn : Int32) (mo : Int32) (lo : Int32) (up : Int32) (te : Nat) (hs : Nat) (g : Nat → Int32)  : ct_M l D cA yn_Pmt_answerAlone cd_Pmt_answerAlone 2 0 0 sz [.ref hp, .ref hc, .ref te] [(hp, .inr (3, [.ref hd, .int nu, .int am, .int ty, .int fa, .int oc, .int fl, .int wi, .int fi, .int fc, .int s2, .int sc, .int co])), (hc, .inr (5, [.ref ho, .int ky, .int pn, .int tr, .int ct, .int rn, .int sn, .int ac, .int ed, .int md, .int mn, .int mo, .int lo, .int up])), (te, .inr (1, [.ref hs])), (hs, .inl (cA 0, 7, .inl g))] (fun v_ w_ => v_ = some (.int (f_Pmt_answerAlone fl tr rn md up g)) ∧ w_ = [(hp, .inr (3, [.ref hd, .int nu, .int am, .int ty, .int fa, .int oc, .int fl, .int wi, .int fi, .int fc, .int s2, .int sc, .int co])), (hc, .inr (5, [.ref ho, .int ky, .int pn, .int tr, .int ct, .int (f_Pmt_answerAlone_run fl tr rn md up g), .int sn, .int ac, .int ed, .int md, .int mn, .int mo, .int lo, .int up])), (te, .inr (1, [.ref hs])), (hs, .inl (cA 0, 7, .inl g))]) := by
  refine gw_met (by decide) rfl (Nat.le_of_ble_eq_true rfl) ?_
  intro p_ e_ s_ m_ args_ below_ meth_ c_ A_ S g_r g_k g_n hK hA
  refine gw_eq (ws' := [(hp, .inr (3, [.ref hd, .int nu, .int am, .int ty, .int fa, .int oc, .int fl, .int wi, .int fi, .int fc, .int s2, .int sc, .int co])), (hc, .inr (5, [.ref ho, .int ky, .int pn, .int tr, .int ct, .int rn, .int sn, .int ac, .int ed, .int md, .int mn, .int mo, .int lo, .int up])), (te, .inr (1, [.ref hs])), (hs, .inl (cA 0, 7, .inl g))]) (lv' := [(0, .ref hp), (1, .ref hc), (2, .ref te)]) (st' := []) (pc' := 0) rfl rfl rfl rfl ?_
  refine gw_aload_n S dc_Pmt_answerAlone_0 rfl 0 rfl ?_
  refine gw_aload_n S dc_Pmt_answerAlone_1 rfl 1 rfl ?_
  refine gw_getN S hK.1 ic_Card rfl 9 (by decide) (hK.2 _ mn_207).2 1 rfl rfl dc_Pmt_answerAlone_2 ?_
  refine gw_aload_n S dc_Pmt_answerAlone_5 rfl 2 rfl ?_
  refine gw_callVR (As := []) (st := [.int md, .ref hp]) S hK (c_Term_maskDefault l D cA te hs g ) (cw_Pmt_190 S.2.2.2.2 rfl rfl ⟨Nat.le_of_ble_eq_true rfl, Nat.le_of_ble_eq_true rfl⟩) [2, 3] rfl (by decide) 0 rfl rfl rfl rfl rfl (Nat.le_of_ble_eq_true rfl) dc_Pmt_answerAlone_6 ⟨Nat.le_of_ble_eq_true rfl, Nat.le_of_ble_eq_true rfl⟩ ?_
  rintro _ rfl
  refine gw_eq (ws' := [(hp, .inr (3, [.ref hd, .int nu, .int am, .int ty, .int fa, .int oc, .int fl, .int wi, .int fi, .int fc, .int s2, .int sc, .int co])), (hc, .inr (5, [.ref ho, .int ky, .int pn, .int tr, .int ct, .int rn, .int sn, .int ac, .int ed, .int md, .int mn, .int mo, .int lo, .int up])), (te, .inr (1, [.ref hs])), (hs, .inl (cA 0, 7, .inl g))]) (lv' := [(0, .ref hp), (1, .ref hc), (2, .ref te)]) (st' := [.int (g 4), .int md, .ref hp]) (pc' := 9) rfl rfl rfl rfl ?_
  refine gw_ior S dc_Pmt_answerAlone_9 ?_
  refine gw_callVR (As := [.int (md ||| (g 4))]) (st := []) S hK (c_Pmt_hasFlagIn l D cA hp hd nu am ty fa oc fl wi fi fc s2 sc co (md ||| (g 4)) ) (cw_Pmt_176 S.2.2.2.2 rfl rfl ⟨Nat.le_of_ble_eq_true rfl, Nat.le_of_ble_eq_true rfl⟩) [0] rfl (by decide) 0 rfl rfl rfl rfl rfl (Nat.le_of_ble_eq_true rfl) dc_Pmt_answerAlone_10 ⟨Nat.le_of_ble_eq_true rfl, Nat.le_of_ble_eq_true rfl⟩ ?_
  rintro _ rfl
  refine gw_eq (ws' := [(hp, .inr (3, [.ref hd, .int nu, .int am, .int ty, .int fa, .int oc, .int fl, .int wi, .int fi, .int fc, .int s2, .int sc, .int co])), (hc, .inr (5, [.ref ho, .int ky, .int pn, .int tr, .int ct, .int rn, .int sn, .int ac, .int ed, .int md, .int mn, .int mo, .int lo, .int up])), (te, .inr (1, [.ref hs])), (hs, .inl (cA 0, 7, .inl g))]) (lv' := [(0, .ref hp), (1, .ref hc), (2, .ref te)]) (st' := [.int (f_Pmt_hasFlagIn fl (md ||| (g 4)))]) (pc' := 13) rfl rfl rfl rfl ?_
  refine gw_if_ne (tgt := 30) S dc_Pmt_answerAlone_13 (by decide) (fun c_3 => ?_) (fun c_3 => ?_)
  · -- taken
    refine gw_iconst (v := 0) S dc_Pmt_answerAlone_30 (by decide) ?_
    exact gw_iret (w := [(hp, .inr (3, [.ref hd, .int nu, .int am, .int ty, .int fa, .int oc, .int fl, .int wi, .int fi, .int fc, .int s2, .int sc, .int co])), (hc, .inr (5, [.ref ho, .int ky, .int pn, .int tr, .int ct, .int rn, .int sn, .int ac, .int ed, .int md, .int mn, .int mo, .int lo, .int up])), (te, .inr (1, [.ref hs])), (hs, .inl (cA 0, 7, .inl g))]) S g_r g_k  [0, 1, 2, 3] rfl (by decide) ⟨(by simp only [f_Pmt_answerAlone, f_Pmt_answerAlone_run, if_neg c_3]), (by simp only [f_Pmt_answerAlone, f_Pmt_answerAlone_run, if_neg c_3])⟩ dc_Pmt_answerAlone_31
  · -- not
    refine gw_aload_n S dc_Pmt_answerAlone_16 rfl 1 rfl ?_
    refine gw_callVR (As := []) (st := []) S hK (c_Card_isBlocked l D cA hc ho ky pn tr ct rn sn ac ed md mn mo lo up ) (cw_Pmt_149 S.2.2.2.2 rfl rfl ⟨Nat.le_of_ble_eq_true rfl, Nat.le_of_ble_eq_true rfl⟩) [1] rfl (by decide) 0 rfl rfl rfl rfl rfl (Nat.le_of_ble_eq_true rfl) dc_Pmt_answerAlone_17 ⟨Nat.le_of_ble_eq_true rfl, Nat.le_of_ble_eq_true rfl⟩ ?_
    rintro _ rfl
    refine gw_eq (ws' := [(hp, .inr (3, [.ref hd, .int nu, .int am, .int ty, .int fa, .int oc, .int fl, .int wi, .int fi, .int fc, .int s2, .int sc, .int co])), (hc, .inr (5, [.ref ho, .int ky, .int pn, .int tr, .int ct, .int rn, .int sn, .int ac, .int ed, .int md, .int mn, .int mo, .int lo, .int up])), (te, .inr (1, [.ref hs])), (hs, .inl (cA 0, 7, .inl g))]) (lv' := [(0, .ref hp), (1, .ref hc), (2, .ref te)]) (st' := [.int (f_Card_isBlocked tr)]) (pc' := 20) rfl rfl rfl rfl ?_
    refine gw_if_ne (tgt := 30) S dc_Pmt_answerAlone_20 (by decide) (fun c_5 => ?_) (fun c_5 => ?_)
    · -- taken
      refine gw_iconst (v := 0) S dc_Pmt_answerAlone_30 (by decide) ?_
      exact gw_iret (w := [(hp, .inr (3, [.ref hd, .int nu, .int am, .int ty, .int fa, .int oc, .int fl, .int wi, .int fi, .int fc, .int s2, .int sc, .int co])), (hc, .inr (5, [.ref ho, .int ky, .int pn, .int tr, .int ct, .int rn, .int sn, .int ac, .int ed, .int md, .int mn, .int mo, .int lo, .int up])), (te, .inr (1, [.ref hs])), (hs, .inl (cA 0, 7, .inl g))]) S g_r g_k  [0, 1, 2, 3] rfl (by decide) ⟨(by simp only [f_Pmt_answerAlone, f_Pmt_answerAlone_run, if_pos c_3, if_neg c_5]), (by simp only [f_Pmt_answerAlone, f_Pmt_answerAlone_run, if_pos c_3, if_neg c_5])⟩ dc_Pmt_answerAlone_31
    · -- not
      refine gw_aload_n S dc_Pmt_answerAlone_23 rfl 1 rfl ?_
      refine gw_callVR (As := []) (st := []) S hK (c_Card_isRunAtUpper l D cA hc ho ky pn tr ct rn sn ac ed md mn mo lo up ) (cw_Pmt_168 S.2.2.2.2 rfl rfl ⟨Nat.le_of_ble_eq_true rfl, Nat.le_of_ble_eq_true rfl⟩) [1] rfl (by decide) 0 rfl rfl rfl rfl rfl (Nat.le_of_ble_eq_true rfl) dc_Pmt_answerAlone_24 ⟨Nat.le_of_ble_eq_true rfl, Nat.le_of_ble_eq_true rfl⟩ ?_
      rintro _ rfl
      refine gw_eq (ws' := [(hp, .inr (3, [.ref hd, .int nu, .int am, .int ty, .int fa, .int oc, .int fl, .int wi, .int fi, .int fc, .int s2, .int sc, .int co])), (hc, .inr (5, [.ref ho, .int ky, .int pn, .int tr, .int ct, .int rn, .int sn, .int ac, .int ed, .int md, .int mn, .int mo, .int lo, .int up])), (te, .inr (1, [.ref hs])), (hs, .inl (cA 0, 7, .inl g))]) (lv' := [(0, .ref hp), (1, .ref hc), (2, .ref te)]) (st' := [.int (f_Card_isRunAtUpper rn up)]) (pc' := 27) rfl rfl rfl rfl ?_
      refine gw_if_eq (tgt := 32) S dc_Pmt_answerAlone_27 (by decide) (fun c_7 => ?_) (fun c_7 => ?_)
      · -- taken
        refine gw_aload_n S dc_Pmt_answerAlone_32 rfl 1 rfl ?_
        refine gw_dup S dc_Pmt_answerAlone_33 rfl ?_
        refine gw_getN S hK.1 ic_Card rfl 5 (by decide) (hK.2 _ mn_198).2 1 rfl rfl dc_Pmt_answerAlone_34 ?_
        refine gw_iconst (v := 1) S dc_Pmt_answerAlone_37 (by decide) ?_
        refine gw_iadd S dc_Pmt_answerAlone_38 ?_
        refine gw_putN (ws' := [(hp, .inr (3, [.ref hd, .int nu, .int am, .int ty, .int fa, .int oc, .int fl, .int wi, .int fi, .int fc, .int s2, .int sc, .int co])), (hc, .inr (5, [.ref ho, .int ky, .int pn, .int tr, .int ct, .int (rn + 1), .int sn, .int ac, .int ed, .int md, .int mn, .int mo, .int lo, .int up])), (te, .inr (1, [.ref hs])), (hs, .inl (cA 0, 7, .inl g))]) (ty := .int) S hK.1 ic_Card rfl 5 (by decide) ty_Card to_Card nm_Card (hK.2 _ mn_198).2 1 rfl rfl (by decide +kernel) rfl rfl (Nat.le_of_ble_eq_true rfl) rfl dc_Pmt_answerAlone_39 ?_
        refine gw_iconst (v := 2) S dc_Pmt_answerAlone_42 (by decide) ?_
        exact gw_iret (w := [(hp, .inr (3, [.ref hd, .int nu, .int am, .int ty, .int fa, .int oc, .int fl, .int wi, .int fi, .int fc, .int s2, .int sc, .int co])), (hc, .inr (5, [.ref ho, .int ky, .int pn, .int tr, .int ct, .int (rn + 1), .int sn, .int ac, .int ed, .int md, .int mn, .int mo, .int lo, .int up])), (te, .inr (1, [.ref hs])), (hs, .inl (cA 0, 7, .inl g))]) S g_r g_k  [0, 1, 2, 3] rfl (by decide) ⟨(by simp only [f_Pmt_answerAlone, f_Pmt_answerAlone_run, if_pos c_3, if_pos c_5, if_pos c_7]), (by simp only [f_Pmt_answerAlone, f_Pmt_answerAlone_run, if_pos c_3, if_pos c_5, if_pos c_7])⟩ dc_Pmt_answerAlone_43
      · -- not
        refine gw_iconst (v := 0) S dc_Pmt_answerAlone_30 (by decide) ?_
        exact gw_iret (w := [(hp, .inr (3, [.ref hd, .int nu, .int am, .int ty, .int fa, .int oc, .int fl, .int wi, .int fi, .int fc, .int s2, .int sc, .int co])), (hc, .inr (5, [.ref ho, .int ky, .int pn, .int tr, .int ct, .int rn, .int sn, .int ac, .int ed, .int md, .int mn, .int mo, .int lo, .int up])), (te, .inr (1, [.ref hs])), (hs, .inl (cA 0, 7, .inl g))]) S g_r g_k  [0, 1, 2, 3] rfl (by decide) ⟨(by simp only [f_Pmt_answerAlone, f_Pmt_answerAlone_run, if_pos c_3, if_pos c_5, if_neg c_7]), (by simp only [f_Pmt_answerAlone, f_Pmt_answerAlone_run, if_pos c_3, if_pos c_5, if_neg c_7])⟩ dc_Pmt_answerAlone_31
def f_Pmt_answerReply (fc : Int32) (co : Int32) (ky : Int32) (ac : Int32) (k : Nat → Int32) : Int32 := if (f_Card_acceptsReply ky co fc (f_Host_sealOf k ac co fc)) = 0 then 0 else (if co = 1 then 2 else (0))
def f_Pmt_answerReply_flags (fl : Int32) (fc : Int32) (co : Int32) (ky : Int32) (ac : Int32) (k : Nat → Int32) : Int32 := if (f_Card_acceptsReply ky co fc (f_Host_sealOf k ac co fc)) = 0 then (fl ||| 1024) else (fl)
def f_Pmt_answerReply_run (fc : Int32) (co : Int32) (ky : Int32) (rn : Int32) (ac : Int32) (k : Nat → Int32) : Int32 := f_Card_acceptsReply_run ky rn co fc (f_Host_sealOf k ac co fc)
def f_Pmt_answerReply_seen (fc : Int32) (co : Int32) (ky : Int32) (sn : Int32) (ac : Int32) (k : Nat → Int32) : Int32 := f_Card_acceptsReply_seen ky sn co fc (f_Host_sealOf k ac co fc)
set_option maxRecDepth 100000 in
set_option maxHeartbeats 4000000 in
theorem c_Pmt_answerReply (l : Launch) (D : va_G) (cA : Nat → ClassId) (sz : Nat) (hp : Nat) (hd : Nat) (nu : Int32) (am : Int32) (ty : Int32) (fa : Int32) (oc : Int32) (fl : Int32) (wi : Int32) (fi : Int32) (fc : Int32) (s2 : Int32) (sc : Int32) (co : Int32) (hc : Nat) (ho : Nat) (ky : Int32) (pn : Int32) (tr : Int32) (ct : Int32) (rn : Int32) (sn : Int32) (ac : Int32) (ed : Int32) (md : Int32) (mn : Int32) (mo : Int32) (lo : Int32) (up : Int32) (hh : Nat) (h1 : Nat) (h2 : Nat) (h3 : Nat) (k : Nat → Int32) (sd : Int32)  : ct_M l D cA yn_Pmt_answerReply cd_Pmt_answerReply 4 0 0 sz [.ref hp, .ref hc, .ref hh] [(hp, .inr (3, [.ref hd, .int nu, .int am, .int ty, .int fa, .int oc, .int fl, .int wi, .int fi, .int fc, .int s2, .int sc, .int co])), (hc, .inr (5, [.ref ho, .int ky, .int pn, .int tr, .int ct, .int rn, .int sn, .int ac, .int ed, .int md, .int mn, .int mo, .int lo, .int up])), (hh, .inr (2, [.ref h1, .ref h2, .ref h3, .int sd])), (h2, .inl (cA 0, 8, .inl k))] (fun v_ w_ => v_ = some (.int (f_Pmt_answerReply fc co ky ac k)) ∧ w_ = [(hp, .inr (3, [.ref hd, .int nu, .int am, .int ty, .int fa, .int oc, .int (f_Pmt_answerReply_flags fl fc co ky ac k), .int wi, .int fi, .int fc, .int s2, .int sc, .int co])), (hc, .inr (5, [.ref ho, .int ky, .int pn, .int tr, .int ct, .int (f_Pmt_answerReply_run fc co ky rn ac k), .int (f_Pmt_answerReply_seen fc co ky sn ac k), .int ac, .int ed, .int md, .int mn, .int mo, .int lo, .int up])), (hh, .inr (2, [.ref h1, .ref h2, .ref h3, .int sd])), (h2, .inl (cA 0, 8, .inl k))]) := by
  refine gw_met (by decide) rfl (Nat.le_of_ble_eq_true rfl) ?_
  intro p_ e_ s_ m_ args_ below_ meth_ c_ A_ S g_r g_k g_n hK hA
  refine gw_eq (ws' := [(hp, .inr (3, [.ref hd, .int nu, .int am, .int ty, .int fa, .int oc, .int fl, .int wi, .int fi, .int fc, .int s2, .int sc, .int co])), (hc, .inr (5, [.ref ho, .int ky, .int pn, .int tr, .int ct, .int rn, .int sn, .int ac, .int ed, .int md, .int mn, .int mo, .int lo, .int up])), (hh, .inr (2, [.ref h1, .ref h2, .ref h3, .int sd])), (h2, .inl (cA 0, 8, .inl k))]) (lv' := [(0, .ref hp), (1, .ref hc), (2, .ref hh)]) (st' := []) (pc' := 0) rfl rfl rfl rfl ?_
  refine gw_aload_n S dc_Pmt_answerReply_0 rfl 2 rfl ?_
  refine gw_aload_n S dc_Pmt_answerReply_1 rfl 1 rfl ?_
  refine gw_getN S hK.1 ic_Card rfl 7 (by decide) (hK.2 _ mn_203).2 1 rfl rfl dc_Pmt_answerReply_2 ?_
  refine gw_aload_n S dc_Pmt_answerReply_5 rfl 0 rfl ?_
  refine gw_get S hK.1 ic_Pmt rfl 12 (by decide) (gw_lk S mw_102) 0 rfl rfl dc_Pmt_answerReply_6 ?_
  refine gw_aload_n S dc_Pmt_answerReply_9 rfl 0 rfl ?_
  refine gw_get S hK.1 ic_Pmt rfl 9 (by decide) (gw_lk S mw_98) 0 rfl rfl dc_Pmt_answerReply_10 ?_
  refine gw_callVR (As := [.int ac, .int co, .int fc]) (st := []) S hK (c_Host_sealOf l D cA hh h1 h2 h3 k sd ac co fc ) (cw_Pmt_232 S.2.2.2.2 rfl rfl ⟨Nat.le_of_ble_eq_true rfl, Nat.le_of_ble_eq_true rfl⟩) [2, 3] rfl (by decide) 0 rfl rfl rfl rfl rfl (Nat.le_of_ble_eq_true rfl) dc_Pmt_answerReply_13 ⟨Nat.le_of_ble_eq_true rfl, Nat.le_of_ble_eq_true rfl⟩ ?_
  rintro _ rfl
  refine gw_eq (ws' := [(hp, .inr (3, [.ref hd, .int nu, .int am, .int ty, .int fa, .int oc, .int fl, .int wi, .int fi, .int fc, .int s2, .int sc, .int co])), (hc, .inr (5, [.ref ho, .int ky, .int pn, .int tr, .int ct, .int rn, .int sn, .int ac, .int ed, .int md, .int mn, .int mo, .int lo, .int up])), (hh, .inr (2, [.ref h1, .ref h2, .ref h3, .int sd])), (h2, .inl (cA 0, 8, .inl k))]) (lv' := [(0, .ref hp), (1, .ref hc), (2, .ref hh)]) (st' := [.int (f_Host_sealOf k ac co fc)]) (pc' := 16) rfl rfl rfl rfl ?_
  refine gw_istore_n (lv' := [(3, .int (f_Host_sealOf k ac co fc)), (0, .ref hp), (1, .ref hc), (2, .ref hh)]) S dc_Pmt_answerReply_16 rfl (by decide) rfl ?_
  refine gw_aload_n S dc_Pmt_answerReply_17 rfl 2 rfl ?_
  refine gw_aload_n S dc_Pmt_answerReply_18 rfl 1 rfl ?_
  refine gw_get S hK.1 ic_Pmt rfl 12 (by decide) (gw_lk S mw_102) 0 rfl rfl dc_Pmt_answerReply_19 ?_
  refine gw_aload_n S dc_Pmt_answerReply_22 rfl 1 rfl ?_
  refine gw_get S hK.1 ic_Pmt rfl 9 (by decide) (gw_lk S mw_98) 0 rfl rfl dc_Pmt_answerReply_23 ?_
  refine gw_iload_n S dc_Pmt_answerReply_26 rfl 0 rfl ?_
  refine gw_callV (As := [.int co, .int fc, .int (f_Host_sealOf k ac co fc)]) (st := []) (wr := [(hp, .inr (3, [.ref hd, .int nu, .int am, .int ty, .int fa, .int oc, .int fl, .int wi, .int fi, .int fc, .int s2, .int sc, .int co])), (hh, .inr (2, [.ref h1, .ref h2, .ref h3, .int sd])), (h2, .inl (cA 0, 8, .inl k))]) S hK hA (fun sz => c_Card_acceptsReply l D cA sz hc ho ky pn tr ct rn sn ac ed md mn mo lo up co fc (f_Host_sealOf k ac co fc) ) (cw_Pmt_236 S.2.2.2.2 rfl rfl ⟨Nat.le_of_ble_eq_true rfl, Nat.le_of_ble_eq_true rfl⟩) [1] [0, 2, 3] rfl (by decide) rfl (by decide) (by decide) 0 rfl rfl rfl rfl rfl (Nat.le_of_ble_eq_true rfl) dc_Pmt_answerReply_27 ⟨Nat.le_of_ble_eq_true rfl, Nat.le_of_ble_eq_true rfl⟩ ?_
  rintro _ _ ⟨rfl, rfl⟩
  refine gw_eq (ws' := [(hp, .inr (3, [.ref hd, .int nu, .int am, .int ty, .int fa, .int oc, .int fl, .int wi, .int fi, .int fc, .int s2, .int sc, .int co])), (hh, .inr (2, [.ref h1, .ref h2, .ref h3, .int sd])), (h2, .inl (cA 0, 8, .inl k)), (hc, .inr (5, [.ref ho, .int ky, .int pn, .int tr, .int ct, .int (f_Card_acceptsReply_run ky rn co fc (f_Host_sealOf k ac co fc)), .int (f_Card_acceptsReply_seen ky sn co fc (f_Host_sealOf k ac co fc)), .int ac, .int ed, .int md, .int mn, .int mo, .int lo, .int up]))]) (lv' := [(3, .int (f_Host_sealOf k ac co fc)), (0, .ref hp), (1, .ref hc), (2, .ref hh)]) (st' := [.int (f_Card_acceptsReply ky co fc (f_Host_sealOf k ac co fc))]) (pc' := 30) rfl rfl rfl rfl ?_
  refine gw_if_ne (tgt := 47) S dc_Pmt_answerReply_30 (by decide) (fun c_2 => ?_) (fun c_2 => ?_)
  · -- taken
    refine gw_aload_n S dc_Pmt_answerReply_47 rfl 1 rfl ?_
    refine gw_get S hK.1 ic_Pmt rfl 12 (by decide) (gw_lk S mw_102) 0 rfl rfl dc_Pmt_answerReply_48 ?_
    refine gw_iconst (v := 1) S dc_Pmt_answerReply_51 (by decide) ?_
    refine gw_icmp_ne (tgt := 59) S dc_Pmt_answerReply_52 (by decide) (fun c_3 => ?_) (fun c_3 => ?_)
    · -- taken
      refine gw_iconst (v := 0) S dc_Pmt_answerReply_59 (by decide) ?_
      exact gw_iret (w := [(hp, .inr (3, [.ref hd, .int nu, .int am, .int ty, .int fa, .int oc, .int fl, .int wi, .int fi, .int fc, .int s2, .int sc, .int co])), (hc, .inr (5, [.ref ho, .int ky, .int pn, .int tr, .int ct, .int (f_Card_acceptsReply_run ky rn co fc (f_Host_sealOf k ac co fc)), .int (f_Card_acceptsReply_seen ky sn co fc (f_Host_sealOf k ac co fc)), .int ac, .int ed, .int md, .int mn, .int mo, .int lo, .int up])), (hh, .inr (2, [.ref h1, .ref h2, .ref h3, .int sd])), (h2, .inl (cA 0, 8, .inl k))]) S g_r g_k  [0, 3, 1, 2] rfl (by decide) ⟨(by simp only [f_Pmt_answerReply, f_Pmt_answerReply_flags, f_Pmt_answerReply_run, f_Pmt_answerReply_seen, if_neg c_2, if_neg c_3]), (by simp only [f_Pmt_answerReply, f_Pmt_answerReply_flags, f_Pmt_answerReply_run, f_Pmt_answerReply_seen, if_neg c_2, if_neg c_3])⟩ dc_Pmt_answerReply_60
    · -- not
      refine gw_iconst (v := 2) S dc_Pmt_answerReply_55 (by decide) ?_
      refine gw_goto (tgt := 60) S dc_Pmt_answerReply_56 (by decide) ?_
      exact gw_iret (w := [(hp, .inr (3, [.ref hd, .int nu, .int am, .int ty, .int fa, .int oc, .int fl, .int wi, .int fi, .int fc, .int s2, .int sc, .int co])), (hc, .inr (5, [.ref ho, .int ky, .int pn, .int tr, .int ct, .int (f_Card_acceptsReply_run ky rn co fc (f_Host_sealOf k ac co fc)), .int (f_Card_acceptsReply_seen ky sn co fc (f_Host_sealOf k ac co fc)), .int ac, .int ed, .int md, .int mn, .int mo, .int lo, .int up])), (hh, .inr (2, [.ref h1, .ref h2, .ref h3, .int sd])), (h2, .inl (cA 0, 8, .inl k))]) S g_r g_k  [0, 3, 1, 2] rfl (by decide) ⟨(by simp only [f_Pmt_answerReply, f_Pmt_answerReply_flags, f_Pmt_answerReply_run, f_Pmt_answerReply_seen, if_neg c_2, if_pos c_3]), (by simp only [f_Pmt_answerReply, f_Pmt_answerReply_flags, f_Pmt_answerReply_run, f_Pmt_answerReply_seen, if_neg c_2, if_pos c_3])⟩ dc_Pmt_answerReply_60
  · -- not
    refine gw_aload_n S dc_Pmt_answerReply_33 rfl 1 rfl ?_
    refine gw_dup S dc_Pmt_answerReply_34 rfl ?_
    refine gw_get S hK.1 ic_Pmt rfl 6 (by decide) (gw_lk S mw_95) 0 rfl rfl dc_Pmt_answerReply_35 ?_
    refine gw_sipush (v := 1024) S dc_Pmt_answerReply_38 (by decide) ?_
    refine gw_ior S dc_Pmt_answerReply_41 ?_
    refine gw_put (ws' := [(hp, .inr (3, [.ref hd, .int nu, .int am, .int ty, .int fa, .int oc, .int (fl ||| 1024), .int wi, .int fi, .int fc, .int s2, .int sc, .int co])), (hh, .inr (2, [.ref h1, .ref h2, .ref h3, .int sd])), (h2, .inl (cA 0, 8, .inl k)), (hc, .inr (5, [.ref ho, .int ky, .int pn, .int tr, .int ct, .int (f_Card_acceptsReply_run ky rn co fc (f_Host_sealOf k ac co fc)), .int (f_Card_acceptsReply_seen ky sn co fc (f_Host_sealOf k ac co fc)), .int ac, .int ed, .int md, .int mn, .int mo, .int lo, .int up]))]) (ty := .int) S hK.1 ic_Pmt rfl 6 (by decide) ty_Pmt to_Pmt nm_Pmt (gw_lk S mw_95) 0 rfl rfl (by decide +kernel) rfl rfl (Nat.le_of_ble_eq_true rfl) rfl dc_Pmt_answerReply_42 ?_
    refine gw_iconst (v := 0) S dc_Pmt_answerReply_45 (by decide) ?_
    exact gw_iret (w := [(hp, .inr (3, [.ref hd, .int nu, .int am, .int ty, .int fa, .int oc, .int (fl ||| 1024), .int wi, .int fi, .int fc, .int s2, .int sc, .int co])), (hc, .inr (5, [.ref ho, .int ky, .int pn, .int tr, .int ct, .int (f_Card_acceptsReply_run ky rn co fc (f_Host_sealOf k ac co fc)), .int (f_Card_acceptsReply_seen ky sn co fc (f_Host_sealOf k ac co fc)), .int ac, .int ed, .int md, .int mn, .int mo, .int lo, .int up])), (hh, .inr (2, [.ref h1, .ref h2, .ref h3, .int sd])), (h2, .inl (cA 0, 8, .inl k))]) S g_r g_k  [0, 3, 1, 2] rfl (by decide) ⟨(by simp only [f_Pmt_answerReply, f_Pmt_answerReply_flags, f_Pmt_answerReply_run, f_Pmt_answerReply_seen, if_pos c_2]), (by simp only [f_Pmt_answerReply, f_Pmt_answerReply_flags, f_Pmt_answerReply_run, f_Pmt_answerReply_seen, if_pos c_2])⟩ dc_Pmt_answerReply_46
