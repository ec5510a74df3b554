set_option maxRecDepth 100000 in
set_option maxHeartbeats 4000000 in
theorem c_PC_card_n (l : Launch) (D : va_G) (cA : Nat → ClassId) (pc : Nat) (tx : Nat) (ca : Nat) (te : Nat) (hh : Nat) (hp : Nat) (qu : Nat) (sp : Nat) (pl : Int32) (ap : Int32) (x : Int32) (y : Int32) (hx : f_PC_isWithin x 0 3 = 0) : ct_R l D cA yn_PC_card cd_PC_card 4 [.ref pc, .int x, .int y] [(pc, .inr (7, [.ref tx, .ref ca, .ref te, .ref hh, .ref hp, .ref qu, .ref sp, .int pl, .int ap]))] (fun v_ => v_ = some (.int (-1))) := by
  refine gw_metR (by decide) rfl (Nat.le_of_ble_eq_true rfl) ?_
  intro p_ e_ s_ m_ args_ below_ meth_ c_ S g_r g_k hK
  refine gw_eq (ws' := [(pc, .inr (7, [.ref tx, .ref ca, .ref te, .ref hh, .ref hp, .ref qu, .ref sp, .int pl, .int ap]))]) (lv' := [(0, .ref pc), (1, .int x), (2, .int y)]) (st' := []) (pc' := 0) rfl rfl rfl rfl ?_
  refine gw_aload_n S dc_PC_card_0 rfl 0 rfl ?_
  refine gw_iload_n S dc_PC_card_1 rfl 1 rfl ?_
  refine gw_callVR (As := [.int x]) (st := []) S hK (c_PC_cardThere_n l D cA pc tx ca te hh hp qu sp pl ap x (by assumption)) (cw_PC_108 S.2.2.2.2 rfl rfl ⟨Nat.le_of_ble_eq_true rfl, Nat.le_of_ble_eq_true rfl⟩) [0] rfl (by decide) 0 rfl rfl rfl rfl rfl (Nat.le_of_ble_eq_true rfl) dc_PC_card_2 ⟨Nat.le_of_ble_eq_true rfl, Nat.le_of_ble_eq_true rfl⟩ ?_
  rintro _ rfl
  refine gw_eq (ws' := [(pc, .inr (7, [.ref tx, .ref ca, .ref te, .ref hh, .ref hp, .ref qu, .ref sp, .int pl, .int ap]))]) (lv' := [(0, .ref pc), (1, .int x), (2, .int y)]) (st' := [.null]) (pc' := 5) rfl rfl rfl rfl ?_
  refine gw_astore_nN (lv' := [(3, .null), (0, .ref pc), (1, .int x), (2, .int y)]) S dc_PC_card_5 rfl (by decide) rfl ?_
  refine gw_aload_nN S dc_PC_card_6 rfl 0 rfl ?_
  refine gw_ifnonnullN S dc_PC_card_7 ?_
  refine gw_iconst (v := -1) S dc_PC_card_10 (by decide) ?_
  refine gw_goto (tgt := 19) S dc_PC_card_11 (by decide) ?_
  exact gw_iretR S g_r g_k  rfl dc_PC_card_19
set_option maxRecDepth 100000 in
set_option maxHeartbeats 4000000 in
theorem c_PC_card_z (l : Launch) (D : va_G) (cA : Nat → ClassId) (pc : Nat) (tx : Nat) (ca : Nat) (te : Nat) (hh : Nat) (hp : Nat) (qu : Nat) (sp : Nat) (pl : Int32) (ap : Int32) (cf : Nat → Option Nat) (ar : Nat) (y : Int32) (har : ar ≤ 3) (hcf : cf ar = none) : ct_R l D cA yn_PC_card cd_PC_card 4 [.ref pc, .int (nI ar), .int y] [(pc, .inr (7, [.ref tx, .ref ca, .ref te, .ref hh, .ref hp, .ref qu, .ref sp, .int pl, .int ap])), (ca, .inl (cA 3, 4, .inr (.inr (.inr (.inr cf)))))] (fun v_ => v_ = some (.int (-1))) := by
  refine gw_metR (by decide) rfl (Nat.le_of_ble_eq_true rfl) ?_
  intro p_ e_ s_ m_ args_ below_ meth_ c_ S g_r g_k hK
  refine gw_eq (ws' := [(pc, .inr (7, [.ref tx, .ref ca, .ref te, .ref hh, .ref hp, .ref qu, .ref sp, .int pl, .int ap])), (ca, .inl (cA 3, 4, .inr (.inr (.inr (.inr cf)))))]) (lv' := [(0, .ref pc), (1, .int (nI ar)), (2, .int y)]) (st' := []) (pc' := 0) rfl rfl rfl rfl ?_
  refine gw_aload_n S dc_PC_card_0 rfl 0 rfl ?_
  refine gw_iload_n S dc_PC_card_1 rfl 1 rfl ?_
  refine gw_callVR (As := [.int (nI ar)]) (st := []) S hK (c_PC_cardThere_z l D cA pc tx ca te hh hp qu sp pl ap cf ar (by assumption) (by assumption)) (cw_PC_108 S.2.2.2.2 rfl rfl ⟨Nat.le_of_ble_eq_true rfl, Nat.le_of_ble_eq_true rfl⟩) [0, 1] rfl (by decide) 0 rfl rfl rfl rfl rfl (Nat.le_of_ble_eq_true rfl) dc_PC_card_2 ⟨Nat.le_of_ble_eq_true rfl, Nat.le_of_ble_eq_true rfl⟩ ?_
  rintro _ rfl
  refine gw_eq (ws' := [(pc, .inr (7, [.ref tx, .ref ca, .ref te, .ref hh, .ref hp, .ref qu, .ref sp, .int pl, .int ap])), (ca, .inl (cA 3, 4, .inr (.inr (.inr (.inr cf)))))]) (lv' := [(0, .ref pc), (1, .int (nI ar)), (2, .int y)]) (st' := [.null]) (pc' := 5) rfl rfl rfl rfl ?_
  refine gw_astore_nN (lv' := [(3, .null), (0, .ref pc), (1, .int (nI ar)), (2, .int y)]) S dc_PC_card_5 rfl (by decide) rfl ?_
  refine gw_aload_nN S dc_PC_card_6 rfl 0 rfl ?_
  refine gw_ifnonnullN S dc_PC_card_7 ?_
  refine gw_iconst (v := -1) S dc_PC_card_10 (by decide) ?_
  refine gw_goto (tgt := 19) S dc_PC_card_11 (by decide) ?_
  exact gw_iretR S g_r g_k  rfl dc_PC_card_19
set_option maxRecDepth 100000 in
set_option maxHeartbeats 4000000 in
theorem c_PC_value_n (l : Launch) (D : va_G) (cA : Nat → ClassId) (pc : Nat) (tx : Nat) (ca : Nat) (te : Nat) (hh : Nat) (hp : Nat) (qu : Nat) (sp : Nat) (pl : Int32) (ap : Int32) (x : Int32) (y : Int32) (w : Int32) (hx : f_PC_isWithin x 0 3 = 0) : ct_R l D cA yn_PC_value cd_PC_value 4 [.ref pc, .int x, .int y, .int w] [(pc, .inr (7, [.ref tx, .ref ca, .ref te, .ref hh, .ref hp, .ref qu, .ref sp, .int pl, .int ap]))] (fun v_ => v_ = some (.int (-1))) := by
  refine gw_metR (by decide) rfl (Nat.le_of_ble_eq_true rfl) ?_
  intro p_ e_ s_ m_ args_ below_ meth_ c_ S g_r g_k hK
  refine gw_eq (ws' := [(pc, .inr (7, [.ref tx, .ref ca, .ref te, .ref hh, .ref hp, .ref qu, .ref sp, .int pl, .int ap]))]) (lv' := [(0, .ref pc), (1, .int x), (2, .int y), (3, .int w)]) (st' := []) (pc' := 0) rfl rfl rfl rfl ?_
  refine gw_aload_n S dc_PC_value_0 rfl 0 rfl ?_
  refine gw_iload_n S dc_PC_value_1 rfl 1 rfl ?_
  refine gw_callVR (As := [.int x]) (st := []) S hK (c_PC_cardThere_n l D cA pc tx ca te hh hp qu sp pl ap x (by assumption)) (cw_PC_108 S.2.2.2.2 rfl rfl ⟨Nat.le_of_ble_eq_true rfl, Nat.le_of_ble_eq_true rfl⟩) [0] rfl (by decide) 0 rfl rfl rfl rfl rfl (Nat.le_of_ble_eq_true rfl) dc_PC_value_2 ⟨Nat.le_of_ble_eq_true rfl, Nat.le_of_ble_eq_true rfl⟩ ?_
  rintro _ rfl
  refine gw_eq (ws' := [(pc, .inr (7, [.ref tx, .ref ca, .ref te, .ref hh, .ref hp, .ref qu, .ref sp, .int pl, .int ap]))]) (lv' := [(0, .ref pc), (1, .int x), (2, .int y), (3, .int w)]) (st' := [.null]) (pc' := 5) rfl rfl rfl rfl ?_
  refine gw_astoreN (lv' := [(4, .null), (0, .ref pc), (1, .int x), (2, .int y), (3, .int w)]) S dc_PC_value_5 (by decide) rfl ?_
  refine gw_aloadN S dc_PC_value_7 0 rfl ?_
  refine gw_ifnonnullN S dc_PC_value_9 ?_
  refine gw_iconst (v := -1) S dc_PC_value_12 (by decide) ?_
  exact gw_iretR S g_r g_k  rfl dc_PC_value_13
set_option maxRecDepth 100000 in
set_option maxHeartbeats 4000000 in
theorem c_PC_value_z (l : Launch) (D : va_G) (cA : Nat → ClassId) (pc : Nat) (tx : Nat) (ca : Nat) (te : Nat) (hh : Nat) (hp : Nat) (qu : Nat) (sp : Nat) (pl : Int32) (ap : Int32) (cf : Nat → Option Nat) (ar : Nat) (y : Int32) (w : Int32) (har : ar ≤ 3) (hcf : cf ar = none) : ct_R l D cA yn_PC_value cd_PC_value 4 [.ref pc, .int (nI ar), .int y, .int w] [(pc, .inr (7, [.ref tx, .ref ca, .ref te, .ref hh, .ref hp, .ref qu, .ref sp, .int pl, .int ap])), (ca, .inl (cA 3, 4, .inr (.inr (.inr (.inr cf)))))] (fun v_ => v_ = some (.int (-1))) := by
  refine gw_metR (by decide) rfl (Nat.le_of_ble_eq_true rfl) ?_
  intro p_ e_ s_ m_ args_ below_ meth_ c_ S g_r g_k hK
  refine gw_eq (ws' := [(pc, .inr (7, [.ref tx, .ref ca, .ref te, .ref hh, .ref hp, .ref qu, .ref sp, .int pl, .int ap])), (ca, .inl (cA 3, 4, .inr (.inr (.inr (.inr cf)))))]) (lv' := [(0, .ref pc), (1, .int (nI ar)), (2, .int y), (3, .int w)]) (st' := []) (pc' := 0) rfl rfl rfl rfl ?_
  refine gw_aload_n S dc_PC_value_0 rfl 0 rfl ?_
  refine gw_iload_n S dc_PC_value_1 rfl 1 rfl ?_
  refine gw_callVR (As := [.int (nI ar)]) (st := []) S hK (c_PC_cardThere_z l D cA pc tx ca te hh hp qu sp pl ap cf ar (by assumption) (by assumption)) (cw_PC_108 S.2.2.2.2 rfl rfl ⟨Nat.le_of_ble_eq_true rfl, Nat.le_of_ble_eq_true rfl⟩) [0, 1] rfl (by decide) 0 rfl rfl rfl rfl rfl (Nat.le_of_ble_eq_true rfl) dc_PC_value_2 ⟨Nat.le_of_ble_eq_true rfl, Nat.le_of_ble_eq_true rfl⟩ ?_
  rintro _ rfl
  refine gw_eq (ws' := [(pc, .inr (7, [.ref tx, .ref ca, .ref te, .ref hh, .ref hp, .ref qu, .ref sp, .int pl, .int ap])), (ca, .inl (cA 3, 4, .inr (.inr (.inr (.inr cf)))))]) (lv' := [(0, .ref pc), (1, .int (nI ar)), (2, .int y), (3, .int w)]) (st' := [.null]) (pc' := 5) rfl rfl rfl rfl ?_
  refine gw_astoreN (lv' := [(4, .null), (0, .ref pc), (1, .int (nI ar)), (2, .int y), (3, .int w)]) S dc_PC_value_5 (by decide) rfl ?_
  refine gw_aloadN S dc_PC_value_7 0 rfl ?_
  refine gw_ifnonnullN S dc_PC_value_9 ?_
  refine gw_iconst (v := -1) S dc_PC_value_12 (by decide) ?_
  exact gw_iretR S g_r g_k  rfl dc_PC_value_13
set_option maxRecDepth 100000 in
set_option maxHeartbeats 4000000 in
theorem c_PC_inside_n (l : Launch) (D : va_G) (cA : Nat → ClassId) (pc : Nat) (tx : Nat) (ca : Nat) (te : Nat) (hh : Nat) (hp : Nat) (qu : Nat) (sp : Nat) (pl : Int32) (ap : Int32) (x : Int32) (y : Int32) (hx : f_PC_isWithin x 0 3 = 0) : ct_R l D cA yn_PC_inside cd_PC_inside 4 [.ref pc, .int x, .int y] [(pc, .inr (7, [.ref tx, .ref ca, .ref te, .ref hh, .ref hp, .ref qu, .ref sp, .int pl, .int ap]))] (fun v_ => v_ = some (.int (-1))) := by
  refine gw_metR (by decide) rfl (Nat.le_of_ble_eq_true rfl) ?_
  intro p_ e_ s_ m_ args_ below_ meth_ c_ S g_r g_k hK
  refine gw_eq (ws' := [(pc, .inr (7, [.ref tx, .ref ca, .ref te, .ref hh, .ref hp, .ref qu, .ref sp, .int pl, .int ap]))]) (lv' := [(0, .ref pc), (1, .int x), (2, .int y)]) (st' := []) (pc' := 0) rfl rfl rfl rfl ?_
  refine gw_aload_n S dc_PC_inside_0 rfl 0 rfl ?_
  refine gw_iload_n S dc_PC_inside_1 rfl 1 rfl ?_
  refine gw_callVR (As := [.int x]) (st := []) S hK (c_PC_cardThere_n l D cA pc tx ca te hh hp qu sp pl ap x (by assumption)) (cw_PC_108 S.2.2.2.2 rfl rfl ⟨Nat.le_of_ble_eq_true rfl, Nat.le_of_ble_eq_true rfl⟩) [0] rfl (by decide) 0 rfl rfl rfl rfl rfl (Nat.le_of_ble_eq_true rfl) dc_PC_inside_2 ⟨Nat.le_of_ble_eq_true rfl, Nat.le_of_ble_eq_true rfl⟩ ?_
  rintro _ rfl
  refine gw_eq (ws' := [(pc, .inr (7, [.ref tx, .ref ca, .ref te, .ref hh, .ref hp, .ref qu, .ref sp, .int pl, .int ap]))]) (lv' := [(0, .ref pc), (1, .int x), (2, .int y)]) (st' := [.null]) (pc' := 5) rfl rfl rfl rfl ?_
  refine gw_astore_nN (lv' := [(3, .null), (0, .ref pc), (1, .int x), (2, .int y)]) S dc_PC_inside_5 rfl (by decide) rfl ?_
  refine gw_aload_nN S dc_PC_inside_6 rfl 0 rfl ?_
  refine gw_ifnonnullN S dc_PC_inside_7 ?_
  refine gw_iconst (v := -1) S dc_PC_inside_10 (by decide) ?_
  exact gw_iretR S g_r g_k  rfl dc_PC_inside_11
set_option maxRecDepth 100000 in
set_option maxHeartbeats 4000000 in
theorem c_PC_inside_z (l : Launch) (D : va_G) (cA : Nat → ClassId) (pc : Nat) (tx : Nat) (ca : Nat) (te : Nat) (hh : Nat) (hp : Nat) (qu : Nat) (sp : Nat) (pl : Int32) (ap : Int32) (cf : Nat → Option Nat) (ar : Nat) (y : Int32) (har : ar ≤ 3) (hcf : cf ar = none) : ct_R l D cA yn_PC_inside cd_PC_inside 4 [.ref pc, .int (nI ar), .int y] [(pc, .inr (7, [.ref tx, .ref ca, .ref te, .ref hh, .ref hp, .ref qu, .ref sp, .int pl, .int ap])), (ca, .inl (cA 3, 4, .inr (.inr (.inr (.inr cf)))))] (fun v_ => v_ = some (.int (-1))) := by
  refine gw_metR (by decide) rfl (Nat.le_of_ble_eq_true rfl) ?_
  intro p_ e_ s_ m_ args_ below_ meth_ c_ S g_r g_k hK
  refine gw_eq (ws' := [(pc, .inr (7, [.ref tx, .ref ca, .ref te, .ref hh, .ref hp, .ref qu, .ref sp, .int pl, .int ap])), (ca, .inl (cA 3, 4, .inr (.inr (.inr (.inr cf)))))]) (lv' := [(0, .ref pc), (1, .int (nI ar)), (2, .int y)]) (st' := []) (pc' := 0) rfl rfl rfl rfl ?_
  refine gw_aload_n S dc_PC_inside_0 rfl 0 rfl ?_
  refine gw_iload_n S dc_PC_inside_1 rfl 1 rfl ?_
  refine gw_callVR (As := [.int (nI ar)]) (st := []) S hK (c_PC_cardThere_z l D cA pc tx ca te hh hp qu sp pl ap cf ar (by assumption) (by assumption)) (cw_PC_108 S.2.2.2.2 rfl rfl ⟨Nat.le_of_ble_eq_true rfl, Nat.le_of_ble_eq_true rfl⟩) [0, 1] rfl (by decide) 0 rfl rfl rfl rfl rfl (Nat.le_of_ble_eq_true rfl) dc_PC_inside_2 ⟨Nat.le_of_ble_eq_true rfl, Nat.le_of_ble_eq_true rfl⟩ ?_
  rintro _ rfl
  refine gw_eq (ws' := [(pc, .inr (7, [.ref tx, .ref ca, .ref te, .ref hh, .ref hp, .ref qu, .ref sp, .int pl, .int ap])), (ca, .inl (cA 3, 4, .inr (.inr (.inr (.inr cf)))))]) (lv' := [(0, .ref pc), (1, .int (nI ar)), (2, .int y)]) (st' := [.null]) (pc' := 5) rfl rfl rfl rfl ?_
  refine gw_astore_nN (lv' := [(3, .null), (0, .ref pc), (1, .int (nI ar)), (2, .int y)]) S dc_PC_inside_5 rfl (by decide) rfl ?_
  refine gw_aload_nN S dc_PC_inside_6 rfl 0 rfl ?_
  refine gw_ifnonnullN S dc_PC_inside_7 ?_
  refine gw_iconst (v := -1) S dc_PC_inside_10 (by decide) ?_
  exact gw_iretR S g_r g_k  rfl dc_PC_inside_11
set_option maxRecDepth 100000 in
set_option maxHeartbeats 4000000 in
theorem c_PC_card_y (l : Launch) (D : va_G) (cA : Nat → ClassId) (pc : Nat) (tx : Nat) (ca : Nat) (te : Nat) (hh : Nat) (hp : Nat) (qu : Nat) (sp : Nat) (pl : Int32) (ap : Int32) (hc : Nat) (ho : Nat) (ky : Int32) (pn : Int32) (tr : Int32) (ct : Int32) (rn : Int32) (sn : Int32) (ac : Int32) (ed : Int32) (md : Int32) (mn : Int32) (mo : Int32) (lo : Int32) (up : Int32) (hr : Nat) (ht : Nat) (hs9 : Nat) (hl : Nat) (hi : Nat) (z : Int32) (cf : Nat → Option Nat) (ar : Nat) (y : Int32) (har : ar ≤ 3) (hcf : cf ar = some hc) : ct_R l D cA yn_PC_card cd_PC_card 4 [.ref pc, .int (nI ar), .int y] [(pc, .inr (7, [.ref tx, .ref ca, .ref te, .ref hh, .ref hp, .ref qu, .ref sp, .int pl, .int ap])), (ca, .inl (cA 3, 4, .inr (.inr (.inr (.inr cf))))), (hc, .inr (5, [.ref ho, .int ky, .int pn, .int tr, .int ct, .int rn, .int sn, .int ac, .int ed, .int md, .int mn, .int mo, .int lo, .int up])), (ho, .inr (4, [.ref hr, .ref ht, .ref hs9, .ref hl, .ref hi, .int z]))] (fun v_ => v_ = some (.int (f_Card_tell tr ct rn sn ac z y))) := by
  refine gw_metR (by decide) rfl (Nat.le_of_ble_eq_true rfl) ?_
  intro p_ e_ s_ m_ args_ below_ meth_ c_ S g_r g_k hK
  refine gw_eq (ws' := [(pc, .inr (7, [.ref tx, .ref ca, .ref te, .ref hh, .ref hp, .ref qu, .ref sp, .int pl, .int ap])), (ca, .inl (cA 3, 4, .inr (.inr (.inr (.inr cf))))), (hc, .inr (5, [.ref ho, .int ky, .int pn, .int tr, .int ct, .int rn, .int sn, .int ac, .int ed, .int md, .int mn, .int mo, .int lo, .int up])), (ho, .inr (4, [.ref hr, .ref ht, .ref hs9, .ref hl, .ref hi, .int z]))]) (lv' := [(0, .ref pc), (1, .int (nI ar)), (2, .int y)]) (st' := []) (pc' := 0) rfl rfl rfl rfl ?_
  refine gw_aload_n S dc_PC_card_0 rfl 0 rfl ?_
  refine gw_iload_n S dc_PC_card_1 rfl 1 rfl ?_
  refine gw_callVR (As := [.int (nI ar)]) (st := []) S hK (c_PC_cardThere_y l D cA pc tx ca te hh hp qu sp pl ap cf ar hc (by assumption) (by assumption)) (cw_PC_108 S.2.2.2.2 rfl rfl ⟨Nat.le_of_ble_eq_true rfl, Nat.le_of_ble_eq_true rfl⟩) [0, 1] rfl (by decide) 0 rfl rfl rfl rfl rfl (Nat.le_of_ble_eq_true rfl) dc_PC_card_2 ⟨Nat.le_of_ble_eq_true rfl, Nat.le_of_ble_eq_true rfl⟩ ?_
  rintro _ rfl
  refine gw_eq (ws' := [(pc, .inr (7, [.ref tx, .ref ca, .ref te, .ref hh, .ref hp, .ref qu, .ref sp, .int pl, .int ap])), (ca, .inl (cA 3, 4, .inr (.inr (.inr (.inr cf))))), (hc, .inr (5, [.ref ho, .int ky, .int pn, .int tr, .int ct, .int rn, .int sn, .int ac, .int ed, .int md, .int mn, .int mo, .int lo, .int up])), (ho, .inr (4, [.ref hr, .ref ht, .ref hs9, .ref hl, .ref hi, .int z]))]) (lv' := [(0, .ref pc), (1, .int (nI ar)), (2, .int y)]) (st' := [.ref hc]) (pc' := 5) rfl rfl rfl rfl ?_
  refine gw_astore_n (lv' := [(3, .ref hc), (0, .ref pc), (1, .int (nI ar)), (2, .int y)]) S dc_PC_card_5 rfl (by decide) rfl ?_
  refine gw_aload_n S dc_PC_card_6 rfl 0 rfl ?_
  refine gw_ifnonnull (tgt := 14) S dc_PC_card_7 (by decide) ?_
  refine gw_aload_n S dc_PC_card_14 rfl 0 rfl ?_
  refine gw_iload_n S dc_PC_card_15 rfl 3 rfl ?_
  refine gw_callVR (As := [.int y]) (st := []) S hK (c_Card_tell l D cA hc ho ky pn tr ct rn sn ac ed md mn mo lo up hr ht hs9 hl hi z y ) (cw_PC_173 S.2.2.2.2 rfl rfl ⟨Nat.le_of_ble_eq_true rfl, Nat.le_of_ble_eq_true rfl⟩) [2, 3] rfl (by decide) 0 rfl rfl rfl rfl rfl (Nat.le_of_ble_eq_true rfl) dc_PC_card_16 ⟨Nat.le_of_ble_eq_true rfl, Nat.le_of_ble_eq_true rfl⟩ ?_
  rintro _ rfl
  refine gw_eq (ws' := [(pc, .inr (7, [.ref tx, .ref ca, .ref te, .ref hh, .ref hp, .ref qu, .ref sp, .int pl, .int ap])), (ca, .inl (cA 3, 4, .inr (.inr (.inr (.inr cf))))), (hc, .inr (5, [.ref ho, .int ky, .int pn, .int tr, .int ct, .int rn, .int sn, .int ac, .int ed, .int md, .int mn, .int mo, .int lo, .int up])), (ho, .inr (4, [.ref hr, .ref ht, .ref hs9, .ref hl, .ref hi, .int z]))]) (lv' := [(3, .ref hc), (0, .ref pc), (1, .int (nI ar)), (2, .int y)]) (st' := [.int (f_Card_tell tr ct rn sn ac z y)]) (pc' := 19) rfl rfl rfl rfl ?_
  exact gw_iretR S g_r g_k  rfl dc_PC_card_19
noncomputable def f_PC_value_y (z : Int32) (n : Int32) (f : Nat → Int32) (tg : Nat → Int32) (ss : Nat → Int32) (ln : Nat → Int32) (y : Int32) (w : Int32) : Int32 := f_PC_orRefused (f_Tree_byteOf z n f ss ln (ix_v (ix_f tg y (Int32.toNatClampNeg z) 0)) w)
set_option maxRecDepth 100000 in
set_option maxHeartbeats 4000000 in
theorem c_PC_value_y (l : Launch) (D : va_G) (cA : Nat → ClassId) (pc : Nat) (tx : Nat) (ca : Nat) (te : Nat) (hh : Nat) (hp : Nat) (qu : Nat) (sp : Nat) (pl : Int32) (ap : Int32) (hc : Nat) (ho : Nat) (ky : Int32) (pn : Int32) (tr : Int32) (ct : Int32) (rn : Int32) (sn : Int32) (ac : Int32) (ed : Int32) (md : Int32) (mn : Int32) (mo : Int32) (lo : Int32) (up : Int32) (hr : Nat) (ht : Nat) (hs9 : Nat) (hl : Nat) (hi : Nat) (hb : Nat) (z : Int32) (n : Int32) (f : Nat → Int32) (tg : Nat → Int32) (ss : Nat → Int32) (ln : Nat → Int32) (cf : Nat → Option Nat) (ar : Nat) (y : Int32) (w : Int32) (har : ar ≤ 3) (hcf : cf ar = some hc) (hz : rw_ok z 30) (hN : rw_ok n 60) : ct_R l D cA yn_PC_value cd_PC_value 5 [.ref pc, .int (nI ar), .int y, .int w] [(pc, .inr (7, [.ref tx, .ref ca, .ref te, .ref hh, .ref hp, .ref qu, .ref sp, .int pl, .int ap])), (ca, .inl (cA 3, 4, .inr (.inr (.inr (.inr cf))))), (hc, .inr (5, [.ref ho, .int ky, .int pn, .int tr, .int ct, .int rn, .int sn, .int ac, .int ed, .int md, .int mn, .int mo, .int lo, .int up])), (ho, .inr (4, [.ref hr, .ref ht, .ref hs9, .ref hl, .ref hi, .int z])), (hr, .inr (0, [.ref hb, .int n])), (hb, .inl (cA 0, 60, .inl f)), (ht, .inl (cA 0, 30, .inl tg)), (hs9, .inl (cA 0, 30, .inl ss)), (hl, .inl (cA 0, 30, .inl ln))] (fun v_ => v_ = some (.int (f_PC_value_y z n f tg ss ln y w))) := by
  refine gw_metR (by decide) rfl (Nat.le_of_ble_eq_true rfl) ?_
  intro p_ e_ s_ m_ args_ below_ meth_ c_ S g_r g_k hK
  refine gw_eq (ws' := [(pc, .inr (7, [.ref tx, .ref ca, .ref te, .ref hh, .ref hp, .ref qu, .ref sp, .int pl, .int ap])), (ca, .inl (cA 3, 4, .inr (.inr (.inr (.inr cf))))), (hc, .inr (5, [.ref ho, .int ky, .int pn, .int tr, .int ct, .int rn, .int sn, .int ac, .int ed, .int md, .int mn, .int mo, .int lo, .int up])), (ho, .inr (4, [.ref hr, .ref ht, .ref hs9, .ref hl, .ref hi, .int z])), (hr, .inr (0, [.ref hb, .int n])), (hb, .inl (cA 0, 60, .inl f)), (ht, .inl (cA 0, 30, .inl tg)), (hs9, .inl (cA 0, 30, .inl ss)), (hl, .inl (cA 0, 30, .inl ln))]) (lv' := [(0, .ref pc), (1, .int (nI ar)), (2, .int y), (3, .int w)]) (st' := []) (pc' := 0) rfl rfl rfl rfl ?_
  refine gw_aload_n S dc_PC_value_0 rfl 0 rfl ?_
  refine gw_iload_n S dc_PC_value_1 rfl 1 rfl ?_
  refine gw_callVR (As := [.int (nI ar)]) (st := []) S hK (c_PC_cardThere_y l D cA pc tx ca te hh hp qu sp pl ap cf ar hc (by assumption) (by assumption)) (cw_PC_108 S.2.2.2.2 rfl rfl ⟨Nat.le_of_ble_eq_true rfl, Nat.le_of_ble_eq_true rfl⟩) [0, 1] rfl (by decide) 0 rfl rfl rfl rfl rfl (Nat.le_of_ble_eq_true rfl) dc_PC_value_2 ⟨Nat.le_of_ble_eq_true rfl, Nat.le_of_ble_eq_true rfl⟩ ?_
  rintro _ rfl
  refine gw_eq (ws' := [(pc, .inr (7, [.ref tx, .ref ca, .ref te, .ref hh, .ref hp, .ref qu, .ref sp, .int pl, .int ap])), (ca, .inl (cA 3, 4, .inr (.inr (.inr (.inr cf))))), (hc, .inr (5, [.ref ho, .int ky, .int pn, .int tr, .int ct, .int rn, .int sn, .int ac, .int ed, .int md, .int mn, .int mo, .int lo, .int up])), (ho, .inr (4, [.ref hr, .ref ht, .ref hs9, .ref hl, .ref hi, .int z])), (hr, .inr (0, [.ref hb, .int n])), (hb, .inl (cA 0, 60, .inl f)), (ht, .inl (cA 0, 30, .inl tg)), (hs9, .inl (cA 0, 30, .inl ss)), (hl, .inl (cA 0, 30, .inl ln))]) (lv' := [(0, .ref pc), (1, .int (nI ar)), (2, .int y), (3, .int w)]) (st' := [.ref hc]) (pc' := 5) rfl rfl rfl rfl ?_
  refine gw_astore (lv' := [(4, .ref hc), (0, .ref pc), (1, .int (nI ar)), (2, .int y), (3, .int w)]) S dc_PC_value_5 (by decide) rfl ?_
  refine gw_aload S dc_PC_value_7 0 rfl ?_
  refine gw_ifnonnull (tgt := 14) S dc_PC_value_9 (by decide) ?_
  refine gw_aload S dc_PC_value_14 0 rfl ?_
  refine gw_get S hK.1 ic_Card rfl 0 (by decide) (gw_lk S mw_189) 2 rfl rfl dc_PC_value_16 ?_
  refine gw_aload S dc_PC_value_19 0 rfl ?_
  refine gw_get S hK.1 ic_Card rfl 0 (by decide) (gw_lk S mw_189) 2 rfl rfl dc_PC_value_21 ?_
  refine gw_iload_n S dc_PC_value_24 rfl 3 rfl ?_
  refine gw_callVR (As := [.int y]) (st := [.ref ho]) S hK (c_Tree_first l D cA ho hr ht hs9 hl hi z tg y (by assumption)) (cw_PC_174 S.2.2.2.2 rfl rfl ⟨Nat.le_of_ble_eq_true rfl, Nat.le_of_ble_eq_true rfl⟩) [3, 6] rfl (by decide) 0 rfl rfl rfl rfl rfl (Nat.le_of_ble_eq_true rfl) dc_PC_value_25 ⟨Nat.le_of_ble_eq_true rfl, Nat.le_of_ble_eq_true rfl⟩ ?_
  rintro _ rfl
  refine gw_eq (ws' := [(pc, .inr (7, [.ref tx, .ref ca, .ref te, .ref hh, .ref hp, .ref qu, .ref sp, .int pl, .int ap])), (ca, .inl (cA 3, 4, .inr (.inr (.inr (.inr cf))))), (hc, .inr (5, [.ref ho, .int ky, .int pn, .int tr, .int ct, .int rn, .int sn, .int ac, .int ed, .int md, .int mn, .int mo, .int lo, .int up])), (ho, .inr (4, [.ref hr, .ref ht, .ref hs9, .ref hl, .ref hi, .int z])), (hr, .inr (0, [.ref hb, .int n])), (hb, .inl (cA 0, 60, .inl f)), (ht, .inl (cA 0, 30, .inl tg)), (hs9, .inl (cA 0, 30, .inl ss)), (hl, .inl (cA 0, 30, .inl ln))]) (lv' := [(4, .ref hc), (0, .ref pc), (1, .int (nI ar)), (2, .int y), (3, .int w)]) (st' := [.int (ix_v (ix_f tg y (Int32.toNatClampNeg z) 0)), .ref ho]) (pc' := 28) rfl rfl rfl rfl ?_
  refine gw_iload_n S dc_PC_value_28 rfl 4 rfl ?_
  refine gw_callVR (As := [.int (ix_v (ix_f tg y (Int32.toNatClampNeg z) 0)), .int w]) (st := []) S hK (c_Tree_byteOf l D cA ho hr ht hs9 hl hi z hb n f ss ln (ix_v (ix_f tg y (Int32.toNatClampNeg z) 0)) w (by assumption) (by assumption)) (cw_PC_177 S.2.2.2.2 rfl rfl ⟨Nat.le_of_ble_eq_true rfl, Nat.le_of_ble_eq_true rfl⟩) [3, 4, 5, 7, 8] rfl (by decide) 0 rfl rfl rfl rfl rfl (Nat.le_of_ble_eq_true rfl) dc_PC_value_29 ⟨Nat.le_of_ble_eq_true rfl, Nat.le_of_ble_eq_true rfl⟩ ?_
  rintro _ rfl
  refine gw_eq (ws' := [(pc, .inr (7, [.ref tx, .ref ca, .ref te, .ref hh, .ref hp, .ref qu, .ref sp, .int pl, .int ap])), (ca, .inl (cA 3, 4, .inr (.inr (.inr (.inr cf))))), (hc, .inr (5, [.ref ho, .int ky, .int pn, .int tr, .int ct, .int rn, .int sn, .int ac, .int ed, .int md, .int mn, .int mo, .int lo, .int up])), (ho, .inr (4, [.ref hr, .ref ht, .ref hs9, .ref hl, .ref hi, .int z])), (hr, .inr (0, [.ref hb, .int n])), (hb, .inl (cA 0, 60, .inl f)), (ht, .inl (cA 0, 30, .inl tg)), (hs9, .inl (cA 0, 30, .inl ss)), (hl, .inl (cA 0, 30, .inl ln))]) (lv' := [(4, .ref hc), (0, .ref pc), (1, .int (nI ar)), (2, .int y), (3, .int w)]) (st' := [.int (f_Tree_byteOf z n f ss ln (ix_v (ix_f tg y (Int32.toNatClampNeg z) 0)) w)]) (pc' := 32) rfl rfl rfl rfl ?_
  refine gw_callSR (As := [.int (f_Tree_byteOf z n f ss ln (ix_v (ix_f tg y (Int32.toNatClampNeg z) 0)) w)]) (st := []) S hK (c_PC_orRefused l D cA (f_Tree_byteOf z n f ss ln (ix_v (ix_f tg y (Int32.toNatClampNeg z) 0)) w) ) (cw_PC_170 S.2.2.2.2 rfl rfl ⟨Nat.le_of_ble_eq_true rfl, Nat.le_of_ble_eq_true rfl⟩) [] rfl (by decide) rfl rfl (Nat.le_of_ble_eq_true rfl) dc_PC_value_32 ⟨Nat.le_of_ble_eq_true rfl, Nat.le_of_ble_eq_true rfl⟩ ?_
  rintro _ rfl
  refine gw_eq (ws' := [(pc, .inr (7, [.ref tx, .ref ca, .ref te, .ref hh, .ref hp, .ref qu, .ref sp, .int pl, .int ap])), (ca, .inl (cA 3, 4, .inr (.inr (.inr (.inr cf))))), (hc, .inr (5, [.ref ho, .int ky, .int pn, .int tr, .int ct, .int rn, .int sn, .int ac, .int ed, .int md, .int mn, .int mo, .int lo, .int up])), (ho, .inr (4, [.ref hr, .ref ht, .ref hs9, .ref hl, .ref hi, .int z])), (hr, .inr (0, [.ref hb, .int n])), (hb, .inl (cA 0, 60, .inl f)), (ht, .inl (cA 0, 30, .inl tg)), (hs9, .inl (cA 0, 30, .inl ss)), (hl, .inl (cA 0, 30, .inl ln))]) (lv' := [(4, .ref hc), (0, .ref pc), (1, .int (nI ar)), (2, .int y), (3, .int w)]) (st' := [.int (f_PC_orRefused (f_Tree_byteOf z n f ss ln (ix_v (ix_f tg y (Int32.toNatClampNeg z) 0)) w))]) (pc' := 35) rfl rfl rfl rfl ?_
  exact gw_iretR S g_r g_k  (by simp only [f_PC_value_y]) dc_PC_value_35
noncomputable def f_PC_inside_y (z : Int32) (tg : Nat → Int32) (nn : Nat → Int32) (y : Int32) : Int32 := f_PC_orRefused (f_Tree_innerOf z nn (ix_v (ix_f tg y (Int32.toNatClampNeg z) 0)))
set_option maxRecDepth 100000 in
set_option maxHeartbeats 4000000 in
theorem c_PC_inside_y (l : Launch) (D : va_G) (cA : Nat → ClassId) (pc : Nat) (tx : Nat) (ca : Nat) (te : Nat) (hh : Nat) (hp : Nat) (qu : Nat) (sp : Nat) (pl : Int32) (ap : Int32) (hc : Nat) (ho : Nat) (ky : Int32) (pn : Int32) (tr : Int32) (ct : Int32) (rn : Int32) (sn : Int32) (ac : Int32) (ed : Int32) (md : Int32) (mn : Int32) (mo : Int32) (lo : Int32) (up : Int32) (hr : Nat) (ht : Nat) (hs9 : Nat) (hl : Nat) (hi : Nat) (z : Int32) (tg : Nat → Int32) (nn : Nat → Int32) (cf : Nat → Option Nat) (ar : Nat) (y : Int32) (har : ar ≤ 3) (hcf : cf ar = some hc) (hz : rw_ok z 30) : ct_R l D cA yn_PC_inside cd_PC_inside 5 [.ref pc, .int (nI ar), .int y] [(pc, .inr (7, [.ref tx, .ref ca, .ref te, .ref hh, .ref hp, .ref qu, .ref sp, .int pl, .int ap])), (ca, .inl (cA 3, 4, .inr (.inr (.inr (.inr cf))))), (hc, .inr (5, [.ref ho, .int ky, .int pn, .int tr, .int ct, .int rn, .int sn, .int ac, .int ed, .int md, .int mn, .int mo, .int lo, .int up])), (ho, .inr (4, [.ref hr, .ref ht, .ref hs9, .ref hl, .ref hi, .int z])), (ht, .inl (cA 0, 30, .inl tg)), (hi, .inl (cA 0, 30, .inl nn))] (fun v_ => v_ = some (.int (f_PC_inside_y z tg nn y))) := by
  refine gw_metR (by decide) rfl (Nat.le_of_ble_eq_true rfl) ?_
  intro p_ e_ s_ m_ args_ below_ meth_ c_ S g_r g_k hK
  refine gw_eq (ws' := [(pc, .inr (7, [.ref tx, .ref ca, .ref te, .ref hh, .ref hp, .ref qu, .ref sp, .int pl, .int ap])), (ca, .inl (cA 3, 4, .inr (.inr (.inr (.inr cf))))), (hc, .inr (5, [.ref ho, .int ky, .int pn, .int tr, .int ct, .int rn, .int sn, .int ac, .int ed, .int md, .int mn, .int mo, .int lo, .int up])), (ho, .inr (4, [.ref hr, .ref ht, .ref hs9, .ref hl, .ref hi, .int z])), (ht, .inl (cA 0, 30, .inl tg)), (hi, .inl (cA 0, 30, .inl nn))]) (lv' := [(0, .ref pc), (1, .int (nI ar)), (2, .int y)]) (st' := []) (pc' := 0) rfl rfl rfl rfl ?_
  refine gw_aload_n S dc_PC_inside_0 rfl 0 rfl ?_
  refine gw_iload_n S dc_PC_inside_1 rfl 1 rfl ?_
  refine gw_callVR (As := [.int (nI ar)]) (st := []) S hK (c_PC_cardThere_y l D cA pc tx ca te hh hp qu sp pl ap cf ar hc (by assumption) (by assumption)) (cw_PC_108 S.2.2.2.2 rfl rfl ⟨Nat.le_of_ble_eq_true rfl, Nat.le_of_ble_eq_true rfl⟩) [0, 1] rfl (by decide) 0 rfl rfl rfl rfl rfl (Nat.le_of_ble_eq_true rfl) dc_PC_inside_2 ⟨Nat.le_of_ble_eq_true rfl, Nat.le_of_ble_eq_true rfl⟩ ?_
  rintro _ rfl
  refine gw_eq (ws' := [(pc, .inr (7, [.ref tx, .ref ca, .ref te, .ref hh, .ref hp, .ref qu, .ref sp, .int pl, .int ap])), (ca, .inl (cA 3, 4, .inr (.inr (.inr (.inr cf))))), (hc, .inr (5, [.ref ho, .int ky, .int pn, .int tr, .int ct, .int rn, .int sn, .int ac, .int ed, .int md, .int mn, .int mo, .int lo, .int up])), (ho, .inr (4, [.ref hr, .ref ht, .ref hs9, .ref hl, .ref hi, .int z])), (ht, .inl (cA 0, 30, .inl tg)), (hi, .inl (cA 0, 30, .inl nn))]) (lv' := [(0, .ref pc), (1, .int (nI ar)), (2, .int y)]) (st' := [.ref hc]) (pc' := 5) rfl rfl rfl rfl ?_
  refine gw_astore_n (lv' := [(3, .ref hc), (0, .ref pc), (1, .int (nI ar)), (2, .int y)]) S dc_PC_inside_5 rfl (by decide) rfl ?_
  refine gw_aload_n S dc_PC_inside_6 rfl 0 rfl ?_
  refine gw_ifnonnull (tgt := 12) S dc_PC_inside_7 (by decide) ?_
  refine gw_aload_n S dc_PC_inside_12 rfl 0 rfl ?_
  refine gw_get S hK.1 ic_Card rfl 0 (by decide) (gw_lk S mw_189) 2 rfl rfl dc_PC_inside_13 ?_
  refine gw_aload_n S dc_PC_inside_16 rfl 0 rfl ?_
  refine gw_get S hK.1 ic_Card rfl 0 (by decide) (gw_lk S mw_189) 2 rfl rfl dc_PC_inside_17 ?_
  refine gw_iload_n S dc_PC_inside_20 rfl 3 rfl ?_
  refine gw_callVR (As := [.int y]) (st := [.ref ho]) S hK (c_Tree_first l D cA ho hr ht hs9 hl hi z tg y (by assumption)) (cw_PC_174 S.2.2.2.2 rfl rfl ⟨Nat.le_of_ble_eq_true rfl, Nat.le_of_ble_eq_true rfl⟩) [3, 4] rfl (by decide) 0 rfl rfl rfl rfl rfl (Nat.le_of_ble_eq_true rfl) dc_PC_inside_21 ⟨Nat.le_of_ble_eq_true rfl, Nat.le_of_ble_eq_true rfl⟩ ?_
  rintro _ rfl
  refine gw_eq (ws' := [(pc, .inr (7, [.ref tx, .ref ca, .ref te, .ref hh, .ref hp, .ref qu, .ref sp, .int pl, .int ap])), (ca, .inl (cA 3, 4, .inr (.inr (.inr (.inr cf))))), (hc, .inr (5, [.ref ho, .int ky, .int pn, .int tr, .int ct, .int rn, .int sn, .int ac, .int ed, .int md, .int mn, .int mo, .int lo, .int up])), (ho, .inr (4, [.ref hr, .ref ht, .ref hs9, .ref hl, .ref hi, .int z])), (ht, .inl (cA 0, 30, .inl tg)), (hi, .inl (cA 0, 30, .inl nn))]) (lv' := [(3, .ref hc), (0, .ref pc), (1, .int (nI ar)), (2, .int y)]) (st' := [.int (ix_v (ix_f tg y (Int32.toNatClampNeg z) 0)), .ref ho]) (pc' := 24) rfl rfl rfl rfl ?_
  refine gw_callVR (As := [.int (ix_v (ix_f tg y (Int32.toNatClampNeg z) 0))]) (st := []) S hK (c_Tree_innerOf l D cA ho hr ht hs9 hl hi z nn (ix_v (ix_f tg y (Int32.toNatClampNeg z) 0)) (by assumption)) (cw_PC_181 S.2.2.2.2 rfl rfl ⟨Nat.le_of_ble_eq_true rfl, Nat.le_of_ble_eq_true rfl⟩) [3, 5] rfl (by decide) 0 rfl rfl rfl rfl rfl (Nat.le_of_ble_eq_true rfl) dc_PC_inside_24 ⟨Nat.le_of_ble_eq_true rfl, Nat.le_of_ble_eq_true rfl⟩ ?_
  rintro _ rfl
  refine gw_eq (ws' := [(pc, .inr (7, [.ref tx, .ref ca, .ref te, .ref hh, .ref hp, .ref qu, .ref sp, .int pl, .int ap])), (ca, .inl (cA 3, 4, .inr (.inr (.inr (.inr cf))))), (hc, .inr (5, [.ref ho, .int ky, .int pn, .int tr, .int ct, .int rn, .int sn, .int ac, .int ed, .int md, .int mn, .int mo, .int lo, .int up])), (ho, .inr (4, [.ref hr, .ref ht, .ref hs9, .ref hl, .ref hi, .int z])), (ht, .inl (cA 0, 30, .inl tg)), (hi, .inl (cA 0, 30, .inl nn))]) (lv' := [(3, .ref hc), (0, .ref pc), (1, .int (nI ar)), (2, .int y)]) (st' := [.int (f_Tree_innerOf z nn (ix_v (ix_f tg y (Int32.toNatClampNeg z) 0)))]) (pc' := 27) rfl rfl rfl rfl ?_
  refine gw_callSR (As := [.int (f_Tree_innerOf z nn (ix_v (ix_f tg y (Int32.toNatClampNeg z) 0)))]) (st := []) S hK (c_PC_orRefused l D cA (f_Tree_innerOf z nn (ix_v (ix_f tg y (Int32.toNatClampNeg z) 0))) ) (cw_PC_170 S.2.2.2.2 rfl rfl ⟨Nat.le_of_ble_eq_true rfl, Nat.le_of_ble_eq_true rfl⟩) [] rfl (by decide) rfl rfl (Nat.le_of_ble_eq_true rfl) dc_PC_inside_27 ⟨Nat.le_of_ble_eq_true rfl, Nat.le_of_ble_eq_true rfl⟩ ?_
  rintro _ rfl
  refine gw_eq (ws' := [(pc, .inr (7, [.ref tx, .ref ca, .ref te, .ref hh, .ref hp, .ref qu, .ref sp, .int pl, .int ap])), (ca, .inl (cA 3, 4, .inr (.inr (.inr (.inr cf))))), (hc, .inr (5, [.ref ho, .int ky, .int pn, .int tr, .int ct, .int rn, .int sn, .int ac, .int ed, .int md, .int mn, .int mo, .int lo, .int up])), (ho, .inr (4, [.ref hr, .ref ht, .ref hs9, .ref hl, .ref hi, .int z])), (ht, .inl (cA 0, 30, .inl tg)), (hi, .inl (cA 0, 30, .inl nn))]) (lv' := [(3, .ref hc), (0, .ref pc), (1, .int (nI ar)), (2, .int y)]) (st' := [.int (f_PC_orRefused (f_Tree_innerOf z nn (ix_v (ix_f tg y (Int32.toNatClampNeg z) 0))))]) (pc' := 30) rfl rfl rfl rfl ?_
  exact gw_iretR S g_r g_k  (by simp only [f_PC_inside_y]) dc_PC_inside_30
theorem iw_e (x : Int32) : f_PC_isWithin x 0 (-1) = 0 := by
  unfold f_PC_isWithin
  by_cases c : x < 0
  · rw [if_pos c]
  · rw [if_neg c]
    obtain ⟨j, hj, rfl⟩ := nI_of c
    rw [if_pos]
    rw [Int32.lt_iff_toInt_lt, nI_toInt hj]
    show (-1 : Int) < _
    omega
theorem iw_y {i c : Nat} (h : i < c) (hc : c ≤ 10) : ¬ f_PC_isWithin (nI i) 0 (nI (c - 1)) = 0 := by
  unfold f_PC_isWithin
  rw [if_neg (nI_pos (by omega)), if_neg (nI_nlt (by omega) (by omega))]
  decide
set_option maxRecDepth 100000 in
set_option maxHeartbeats 4000000 in
theorem c_PC_queued_e (l : Launch) (D : va_G) (cA : Nat → ClassId) (pc : Nat) (tx : Nat) (ca : Nat) (te : Nat) (hh : Nat) (hp : Nat) (sp : Nat) (pl : Int32) (ap : Int32) (qu : Nat) (hx : Nat) (mo : Int32) (x : Int32)  : ct_R l D cA yn_PC_queued cd_PC_queued 5 [.ref pc, .int x] [(pc, .inr (7, [.ref tx, .ref ca, .ref te, .ref hh, .ref hp, .ref qu, .ref sp, .int pl, .int ap])), (qu, .inr (8, [.ref hx, .int 0, .int mo]))] (fun v_ => v_ = some (.int (-1))) := by
  refine gw_metR (by decide) rfl (Nat.le_of_ble_eq_true rfl) ?_
  intro p_ e_ s_ m_ args_ below_ meth_ c_ S g_r g_k hK
  refine gw_eq (ws' := [(pc, .inr (7, [.ref tx, .ref ca, .ref te, .ref hh, .ref hp, .ref qu, .ref sp, .int pl, .int ap])), (qu, .inr (8, [.ref hx, .int 0, .int mo]))]) (lv' := [(0, .ref pc), (1, .int x)]) (st' := []) (pc' := 0) rfl rfl rfl rfl ?_
  refine gw_iload_n S dc_PC_queued_0 rfl 1 rfl ?_
  refine gw_iconst (v := 0) S dc_PC_queued_1 (by decide) ?_
  refine gw_aload_n S dc_PC_queued_2 rfl 0 rfl ?_
  refine gw_get S hK.1 ic_PC rfl 5 (by decide) (gw_lk S mw_250) 0 rfl rfl dc_PC_queued_3 ?_
  refine gw_callVR (As := []) (st := [.int 0, .int x]) S hK (c_AL_size l D cA qu hx 0 mo ) (cw_PC_113 S.2.2.2.2 rfl rfl ⟨Nat.le_of_ble_eq_true rfl, Nat.le_of_ble_eq_true rfl⟩) [1] rfl (by decide) 0 rfl rfl rfl rfl rfl (Nat.le_of_ble_eq_true rfl) dc_PC_queued_6 ⟨Nat.le_of_ble_eq_true rfl, Nat.le_of_ble_eq_true rfl⟩ ?_
  rintro _ rfl
  refine gw_eq (ws' := [(pc, .inr (7, [.ref tx, .ref ca, .ref te, .ref hh, .ref hp, .ref qu, .ref sp, .int pl, .int ap])), (qu, .inr (8, [.ref hx, .int 0, .int mo]))]) (lv' := [(0, .ref pc), (1, .int x)]) (st' := [.int (nI 0), .int 0, .int x]) (pc' := 9) rfl rfl rfl rfl ?_
  refine gw_eq (ws' := [(pc, .inr (7, [.ref tx, .ref ca, .ref te, .ref hh, .ref hp, .ref qu, .ref sp, .int pl, .int ap])), (qu, .inr (8, [.ref hx, .int 0, .int mo]))]) (lv' := [(0, .ref pc), (1, .int x)]) (st' := [.int 0, .int 0, .int x]) rfl rfl rfl rfl ?_
  refine gw_iconst (v := 1) S dc_PC_queued_9 (by decide) ?_
  refine gw_isub S dc_PC_queued_10 ?_
  refine gw_eq (ws' := [(pc, .inr (7, [.ref tx, .ref ca, .ref te, .ref hh, .ref hp, .ref qu, .ref sp, .int pl, .int ap])), (qu, .inr (8, [.ref hx, .int 0, .int mo]))]) (lv' := [(0, .ref pc), (1, .int x)]) (st' := [.int (-1), .int 0, .int x]) (pc' := 11) rfl rfl (by rw [show (0 - 1 : Int32) = -1 from by decide]) rfl ?_
  refine gw_callSR (As := [.int x, .int 0, .int (-1)]) (st := []) S hK (c_PC_isWithin l D cA x 0 (-1) ) (cw_PC_61 S.2.2.2.2 rfl rfl ⟨Nat.le_of_ble_eq_true rfl, Nat.le_of_ble_eq_true rfl⟩) [] rfl (by decide) rfl rfl (Nat.le_of_ble_eq_true rfl) dc_PC_queued_11 ⟨Nat.le_of_ble_eq_true rfl, Nat.le_of_ble_eq_true rfl⟩ ?_
  rintro _ rfl
  refine gw_eq (ws' := [(pc, .inr (7, [.ref tx, .ref ca, .ref te, .ref hh, .ref hp, .ref qu, .ref sp, .int pl, .int ap])), (qu, .inr (8, [.ref hx, .int 0, .int mo]))]) (lv' := [(0, .ref pc), (1, .int x)]) (st' := [.int (f_PC_isWithin x 0 (-1))]) (pc' := 14) rfl rfl rfl rfl ?_
  refine gw_if_eq (tgt := 34) S dc_PC_queued_14 (by decide) (fun c_3 => ?_) (fun c_3 => ?_)
  · -- taken
    refine gw_iconst (v := -1) S dc_PC_queued_34 (by decide) ?_
    exact gw_iretR S g_r g_k  (by simp only [if_pos c_3]) dc_PC_queued_35
  · -- not
    exact absurd (iw_e x) c_3
set_option maxRecDepth 100000 in
set_option maxHeartbeats 4000000 in
theorem c_PC_queued_n (l : Launch) (D : va_G) (cA : Nat → ClassId) (pc : Nat) (tx : Nat) (ca : Nat) (te : Nat) (hh : Nat) (hp : Nat) (sp : Nat) (pl : Int32) (ap : Int32) (qu : Nat) (hx : Nat) (c : Nat) (mo : Int32) (x : Int32) (hc1 : 1 ≤ c) (hw : f_PC_isWithin x 0 (nI (c - 1)) = 0) : ct_R l D cA yn_PC_queued cd_PC_queued 5 [.ref pc, .int x] [(pc, .inr (7, [.ref tx, .ref ca, .ref te, .ref hh, .ref hp, .ref qu, .ref sp, .int pl, .int ap])), (qu, .inr (8, [.ref hx, .int (nI c), .int mo]))] (fun v_ => v_ = some (.int (-1))) := by
  refine gw_metR (by decide) rfl (Nat.le_of_ble_eq_true rfl) ?_
  intro p_ e_ s_ m_ args_ below_ meth_ c_ S g_r g_k hK
  refine gw_eq (ws' := [(pc, .inr (7, [.ref tx, .ref ca, .ref te, .ref hh, .ref hp, .ref qu, .ref sp, .int pl, .int ap])), (qu, .inr (8, [.ref hx, .int (nI c), .int mo]))]) (lv' := [(0, .ref pc), (1, .int x)]) (st' := []) (pc' := 0) rfl rfl rfl rfl ?_
  refine gw_iload_n S dc_PC_queued_0 rfl 1 rfl ?_
  refine gw_iconst (v := 0) S dc_PC_queued_1 (by decide) ?_
  refine gw_aload_n S dc_PC_queued_2 rfl 0 rfl ?_
  refine gw_get S hK.1 ic_PC rfl 5 (by decide) (gw_lk S mw_250) 0 rfl rfl dc_PC_queued_3 ?_
  refine gw_callVR (As := []) (st := [.int 0, .int x]) S hK (c_AL_size l D cA qu hx c mo ) (cw_PC_113 S.2.2.2.2 rfl rfl ⟨Nat.le_of_ble_eq_true rfl, Nat.le_of_ble_eq_true rfl⟩) [1] rfl (by decide) 0 rfl rfl rfl rfl rfl (Nat.le_of_ble_eq_true rfl) dc_PC_queued_6 ⟨Nat.le_of_ble_eq_true rfl, Nat.le_of_ble_eq_true rfl⟩ ?_
  rintro _ rfl
  refine gw_eq (ws' := [(pc, .inr (7, [.ref tx, .ref ca, .ref te, .ref hh, .ref hp, .ref qu, .ref sp, .int pl, .int ap])), (qu, .inr (8, [.ref hx, .int (nI c), .int mo]))]) (lv' := [(0, .ref pc), (1, .int x)]) (st' := [.int (nI c), .int 0, .int x]) (pc' := 9) rfl rfl rfl rfl ?_
  refine gw_iconst (v := 1) S dc_PC_queued_9 (by decide) ?_
  refine gw_isub S dc_PC_queued_10 ?_
  refine gw_eq (ws' := [(pc, .inr (7, [.ref tx, .ref ca, .ref te, .ref hh, .ref hp, .ref qu, .ref sp, .int pl, .int ap])), (qu, .inr (8, [.ref hx, .int (nI c), .int mo]))]) (lv' := [(0, .ref pc), (1, .int x)]) (st' := [.int (nI (c - 1)), .int 0, .int x]) (pc' := 11) rfl rfl (by rw [show (nI c - 1 : Int32) = nI (c - 1) from pk_sub (b := 1) (by omega)]) rfl ?_
  refine gw_callSR (As := [.int x, .int 0, .int (nI (c - 1))]) (st := []) S hK (c_PC_isWithin l D cA x 0 (nI (c - 1)) ) (cw_PC_61 S.2.2.2.2 rfl rfl ⟨Nat.le_of_ble_eq_true rfl, Nat.le_of_ble_eq_true rfl⟩) [] rfl (by decide) rfl rfl (Nat.le_of_ble_eq_true rfl) dc_PC_queued_11 ⟨Nat.le_of_ble_eq_true rfl, Nat.le_of_ble_eq_true rfl⟩ ?_
  rintro _ rfl
  refine gw_eq (ws' := [(pc, .inr (7, [.ref tx, .ref ca, .ref te, .ref hh, .ref hp, .ref qu, .ref sp, .int pl, .int ap])), (qu, .inr (8, [.ref hx, .int (nI c), .int mo]))]) (lv' := [(0, .ref pc), (1, .int x)]) (st' := [.int (f_PC_isWithin x 0 (nI (c - 1)))]) (pc' := 14) rfl rfl rfl rfl ?_
  refine gw_if_eq (tgt := 34) S dc_PC_queued_14 (by decide) (fun c_3 => ?_) (fun c_3 => ?_)
  · -- taken
    refine gw_iconst (v := -1) S dc_PC_queued_34 (by decide) ?_
    exact gw_iretR S g_r g_k  (by simp only [if_pos c_3]) dc_PC_queued_35
  · -- not
    exact absurd hw c_3
set_option maxRecDepth 100000 in
set_option maxHeartbeats 4000000 in
theorem c_PC_queued_y (l : Launch) (D : va_G) (cA : Nat → ClassId) (pc : Nat) (tx : Nat) (ca : Nat) (te : Nat) (hh : Nat) (hp : Nat) (sp : Nat) (pl : Int32) (ap : Int32) (qu : Nat) (hx : Nat) (c : Nat) (mo : Int32) (i : Nat) (fq : Nat → Option Nat) (rv : Nat) (vn : Int32) (va : Int32) (vm : Int32) (vd : Int32) (hi : i < c) (hc2 : c ≤ 10) (hf : fq i = some rv) : ct_R l D cA yn_PC_queued cd_PC_queued 5 [.ref pc, .int (nI i)] [(pc, .inr (7, [.ref tx, .ref ca, .ref te, .ref hh, .ref hp, .ref qu, .ref sp, .int pl, .int ap])), (qu, .inr (8, [.ref hx, .int (nI c), .int mo])), (hx, .inl (cA 4, 10, .inr (.inr (.inr (.inr fq))))), (rv, .inr (6, [.int vn, .int va, .int vm, .int vd]))] (fun v_ => v_ = some (.int vn)) := by
  refine gw_metR (by decide) rfl (Nat.le_of_ble_eq_true rfl) ?_
  intro p_ e_ s_ m_ args_ below_ meth_ c_ S g_r g_k hK
  refine gw_eq (ws' := [(pc, .inr (7, [.ref tx, .ref ca, .ref te, .ref hh, .ref hp, .ref qu, .ref sp, .int pl, .int ap])), (qu, .inr (8, [.ref hx, .int (nI c), .int mo])), (hx, .inl (cA 4, 10, .inr (.inr (.inr (.inr fq))))), (rv, .inr (6, [.int vn, .int va, .int vm, .int vd]))]) (lv' := [(0, .ref pc), (1, .int (nI i))]) (st' := []) (pc' := 0) rfl rfl rfl rfl ?_
  refine gw_iload_n S dc_PC_queued_0 rfl 1 rfl ?_
  refine gw_iconst (v := 0) S dc_PC_queued_1 (by decide) ?_
  refine gw_aload_n S dc_PC_queued_2 rfl 0 rfl ?_
  refine gw_get S hK.1 ic_PC rfl 5 (by decide) (gw_lk S mw_250) 0 rfl rfl dc_PC_queued_3 ?_
  refine gw_callVR (As := []) (st := [.int 0, .int (nI i)]) S hK (c_AL_size l D cA qu hx c mo ) (cw_PC_113 S.2.2.2.2 rfl rfl ⟨Nat.le_of_ble_eq_true rfl, Nat.le_of_ble_eq_true rfl⟩) [1] rfl (by decide) 0 rfl rfl rfl rfl rfl (Nat.le_of_ble_eq_true rfl) dc_PC_queued_6 ⟨Nat.le_of_ble_eq_true rfl, Nat.le_of_ble_eq_true rfl⟩ ?_
  rintro _ rfl
  refine gw_eq (ws' := [(pc, .inr (7, [.ref tx, .ref ca, .ref te, .ref hh, .ref hp, .ref qu, .ref sp, .int pl, .int ap])), (qu, .inr (8, [.ref hx, .int (nI c), .int mo])), (hx, .inl (cA 4, 10, .inr (.inr (.inr (.inr fq))))), (rv, .inr (6, [.int vn, .int va, .int vm, .int vd]))]) (lv' := [(0, .ref pc), (1, .int (nI i))]) (st' := [.int (nI c), .int 0, .int (nI i)]) (pc' := 9) rfl rfl rfl rfl ?_
  refine gw_iconst (v := 1) S dc_PC_queued_9 (by decide) ?_
  refine gw_isub S dc_PC_queued_10 ?_
  refine gw_eq (ws' := [(pc, .inr (7, [.ref tx, .ref ca, .ref te, .ref hh, .ref hp, .ref qu, .ref sp, .int pl, .int ap])), (qu, .inr (8, [.ref hx, .int (nI c), .int mo])), (hx, .inl (cA 4, 10, .inr (.inr (.inr (.inr fq))))), (rv, .inr (6, [.int vn, .int va, .int vm, .int vd]))]) (lv' := [(0, .ref pc), (1, .int (nI i))]) (st' := [.int (nI (c - 1)), .int 0, .int (nI i)]) (pc' := 11) rfl rfl (by rw [show (nI c - 1 : Int32) = nI (c - 1) from pk_sub (b := 1) (by omega)]) rfl ?_
  refine gw_callSR (As := [.int (nI i), .int 0, .int (nI (c - 1))]) (st := []) S hK (c_PC_isWithin l D cA (nI i) 0 (nI (c - 1)) ) (cw_PC_61 S.2.2.2.2 rfl rfl ⟨Nat.le_of_ble_eq_true rfl, Nat.le_of_ble_eq_true rfl⟩) [] rfl (by decide) rfl rfl (Nat.le_of_ble_eq_true rfl) dc_PC_queued_11 ⟨Nat.le_of_ble_eq_true rfl, Nat.le_of_ble_eq_true rfl⟩ ?_
  rintro _ rfl
  refine gw_eq (ws' := [(pc, .inr (7, [.ref tx, .ref ca, .ref te, .ref hh, .ref hp, .ref qu, .ref sp, .int pl, .int ap])), (qu, .inr (8, [.ref hx, .int (nI c), .int mo])), (hx, .inl (cA 4, 10, .inr (.inr (.inr (.inr fq))))), (rv, .inr (6, [.int vn, .int va, .int vm, .int vd]))]) (lv' := [(0, .ref pc), (1, .int (nI i))]) (st' := [.int (f_PC_isWithin (nI i) 0 (nI (c - 1)))]) (pc' := 14) rfl rfl rfl rfl ?_
  refine gw_if_eq (tgt := 34) S dc_PC_queued_14 (by decide) (fun c_3 => ?_) (fun c_3 => ?_)
  · -- taken
    exact absurd c_3 (iw_y hi hc2)
  · -- not
    refine gw_aload_n S dc_PC_queued_17 rfl 0 rfl ?_
    refine gw_get S hK.1 ic_PC rfl 5 (by decide) (gw_lk S mw_250) 0 rfl rfl dc_PC_queued_18 ?_
    refine gw_iload_n S dc_PC_queued_21 rfl 1 rfl ?_
    refine gw_callVR (As := [.int (nI i)]) (st := []) S hK (c_AL_get l D cA qu hx c mo i fq rv hi (by assumption) (by omega) (by assumption)) (cw_PC_149 S.2.2.2.2 rfl rfl ⟨Nat.le_of_ble_eq_true rfl, Nat.le_of_ble_eq_true rfl⟩) [1, 2] rfl (by decide) 0 rfl rfl rfl rfl rfl (Nat.le_of_ble_eq_true rfl) dc_PC_queued_22 ⟨Nat.le_of_ble_eq_true rfl, Nat.le_of_ble_eq_true rfl⟩ ?_
    rintro _ rfl
    refine gw_eq (ws' := [(pc, .inr (7, [.ref tx, .ref ca, .ref te, .ref hh, .ref hp, .ref qu, .ref sp, .int pl, .int ap])), (qu, .inr (8, [.ref hx, .int (nI c), .int mo])), (hx, .inl (cA 4, 10, .inr (.inr (.inr (.inr fq))))), (rv, .inr (6, [.int vn, .int va, .int vm, .int vd]))]) (lv' := [(0, .ref pc), (1, .int (nI i))]) (st' := [.ref rv]) (pc' := 25) rfl rfl rfl rfl ?_
    refine gw_castY (C := rn_Rev) (r := (rn_Rev, tb_Rev, 4)) S hK.1 (gw_lk S mw_602) (hK.2 _ mn_1036).2 3 rfl rfl rfl dc_PC_queued_25 ?_
    refine gw_getN S hK.1 ic_Rev rfl 0 (by decide) (hK.2 _ mn_609).2 3 rfl rfl dc_PC_queued_28 ?_
    refine gw_goto (tgt := 35) S dc_PC_queued_31 (by decide) ?_
    exact gw_iretR S g_r g_k  (by simp only [if_neg c_3]) dc_PC_queued_35
noncomputable def f_PC_count (ap : Int32) (c : Nat) (n : Int32) (sd : Int32) (nu : Int32) (x : Int32) : Int32 := if x = 0 then n else (if x = 1 then nu else (if x = 2 then (nI c) else (if x = 3 then ap else (if x = 4 then sd else (-1)))))
set_option maxRecDepth 100000 in
set_option maxHeartbeats 4000000 in
theorem c_PC_count (l : Launch) (D : va_G) (cA : Nat → ClassId) (pc : Nat) (tx : Nat) (ca : Nat) (te : Nat) (hh : Nat) (hp : Nat) (sp : Nat) (pl : Int32) (ap : Int32) (qu : Nat) (hx : Nat) (c : Nat) (mo : Int32) (tb : Nat) (n : Int32) (f : Nat → Int32) (h1 : Nat) (h2 : Nat) (h3 : Nat) (sd : Int32) (hd : Nat) (nu : Int32) (am : Int32) (ty : Int32) (fa : Int32) (oc : Int32) (fl : Int32) (wi : Int32) (fi : Int32) (fc : Int32) (s2 : Int32) (sc : Int32) (co : Int32) (x : Int32)  : ct_R l D cA yn_PC_count cd_PC_count 2 [.ref pc, .int x] [(pc, .inr (7, [.ref tx, .ref ca, .ref te, .ref hh, .ref hp, .ref qu, .ref sp, .int pl, .int ap])), (tx, .inr (0, [.ref tb, .int n])), (tb, .inl (cA 0, 60, .inl f)), (hp, .inr (3, [.ref hd, .int nu, .int am, .int ty, .int fa, .int oc, .int fl, .int wi, .int fi, .int fc, .int s2, .int sc, .int co])), (qu, .inr (8, [.ref hx, .int (nI c), .int mo])), (hh, .inr (2, [.ref h1, .ref h2, .ref h3, .int sd]))] (fun v_ => v_ = some (.int (f_PC_count ap c n sd nu x))) := by
  refine gw_metR (by decide) rfl (Nat.le_of_ble_eq_true rfl) ?_
  intro p_ e_ s_ m_ args_ below_ meth_ c_ S g_r g_k hK
  refine gw_eq (ws' := [(pc, .inr (7, [.ref tx, .ref ca, .ref te, .ref hh, .ref hp, .ref qu, .ref sp, .int pl, .int ap])), (tx, .inr (0, [.ref tb, .int n])), (tb, .inl (cA 0, 60, .inl f)), (hp, .inr (3, [.ref hd, .int nu, .int am, .int ty, .int fa, .int oc, .int fl, .int wi, .int fi, .int fc, .int s2, .int sc, .int co])), (qu, .inr (8, [.ref hx, .int (nI c), .int mo])), (hh, .inr (2, [.ref h1, .ref h2, .ref h3, .int sd]))]) (lv' := [(0, .ref pc), (1, .int x)]) (st' := []) (pc' := 0) rfl rfl rfl rfl ?_
  refine gw_iload_n S dc_PC_count_0 rfl 1 rfl ?_
  rcases Classical.em (x = 0) with c_1 | c_1
  · -- case 0
    refine gw_tableIn (tgt := 36) S dc_PC_count_1 (by rw [c_1]; decide) (by rw [c_1]; decide) (by rw [c_1]; rfl) (by decide) ?_
    refine gw_aload_n S dc_PC_count_36 rfl 0 rfl ?_
    refine gw_get S hK.1 ic_PC rfl 0 (by decide) (gw_lk S mw_245) 0 rfl rfl dc_PC_count_37 ?_
    refine gw_callVR (As := []) (st := []) S hK (c_Row_length l D cA tx tb n 60 f ) (cw_PC_69 S.2.2.2.2 rfl rfl ⟨Nat.le_of_ble_eq_true rfl, Nat.le_of_ble_eq_true rfl⟩) [1, 2] rfl (by decide) 0 rfl rfl rfl rfl rfl (Nat.le_of_ble_eq_true rfl) dc_PC_count_40 ⟨Nat.le_of_ble_eq_true rfl, Nat.le_of_ble_eq_true rfl⟩ ?_
    rintro _ rfl
    refine gw_eq (ws' := [(pc, .inr (7, [.ref tx, .ref ca, .ref te, .ref hh, .ref hp, .ref qu, .ref sp, .int pl, .int ap])), (tx, .inr (0, [.ref tb, .int n])), (tb, .inl (cA 0, 60, .inl f)), (hp, .inr (3, [.ref hd, .int nu, .int am, .int ty, .int fa, .int oc, .int fl, .int wi, .int fi, .int fc, .int s2, .int sc, .int co])), (qu, .inr (8, [.ref hx, .int (nI c), .int mo])), (hh, .inr (2, [.ref h1, .ref h2, .ref h3, .int sd]))]) (lv' := [(0, .ref pc), (1, .int x)]) (st' := [.int n]) (pc' := 43) rfl rfl rfl rfl ?_
    exact gw_iretR S g_r g_k  (by simp only [f_PC_count, if_pos c_1]) dc_PC_count_43
  · -- else
    rcases Classical.em (x = 1) with c_3 | c_3
    · -- case 1
      refine gw_tableIn (tgt := 44) S dc_PC_count_1 (by rw [c_3]; decide) (by rw [c_3]; decide) (by rw [c_3]; rfl) (by decide) ?_
      refine gw_aload_n S dc_PC_count_44 rfl 0 rfl ?_
      refine gw_get S hK.1 ic_PC rfl 4 (by decide) (gw_lk S mw_249) 0 rfl rfl dc_PC_count_45 ?_
      refine gw_getN S hK.1 ic_Pmt rfl 1 (by decide) (hK.2 _ mn_88).2 3 rfl rfl dc_PC_count_48 ?_
      exact gw_iretR S g_r g_k  (by simp only [f_PC_count, if_neg c_1, if_pos c_3]) dc_PC_count_51
    · -- else
      rcases Classical.em (x = 2) with c_4 | c_4
      · -- case 2
        refine gw_tableIn (tgt := 52) S dc_PC_count_1 (by rw [c_4]; decide) (by rw [c_4]; decide) (by rw [c_4]; rfl) (by decide) ?_
        refine gw_aload_n S dc_PC_count_52 rfl 0 rfl ?_
        refine gw_get S hK.1 ic_PC rfl 5 (by decide) (gw_lk S mw_250) 0 rfl rfl dc_PC_count_53 ?_
        refine gw_callVR (As := []) (st := []) S hK (c_AL_size l D cA qu hx c mo ) (cw_PC_113 S.2.2.2.2 rfl rfl ⟨Nat.le_of_ble_eq_true rfl, Nat.le_of_ble_eq_true rfl⟩) [4] rfl (by decide) 0 rfl rfl rfl rfl rfl (Nat.le_of_ble_eq_true rfl) dc_PC_count_56 ⟨Nat.le_of_ble_eq_true rfl, Nat.le_of_ble_eq_true rfl⟩ ?_
        rintro _ rfl
        refine gw_eq (ws' := [(pc, .inr (7, [.ref tx, .ref ca, .ref te, .ref hh, .ref hp, .ref qu, .ref sp, .int pl, .int ap])), (tx, .inr (0, [.ref tb, .int n])), (tb, .inl (cA 0, 60, .inl f)), (hp, .inr (3, [.ref hd, .int nu, .int am, .int ty, .int fa, .int oc, .int fl, .int wi, .int fi, .int fc, .int s2, .int sc, .int co])), (qu, .inr (8, [.ref hx, .int (nI c), .int mo])), (hh, .inr (2, [.ref h1, .ref h2, .ref h3, .int sd]))]) (lv' := [(0, .ref pc), (1, .int x)]) (st' := [.int (nI c)]) (pc' := 59) rfl rfl rfl rfl ?_
        exact gw_iretR S g_r g_k  (by simp only [f_PC_count, if_neg c_1, if_neg c_3, if_pos c_4]) dc_PC_count_59
      · -- else
        rcases Classical.em (x = 3) with c_6 | c_6
        · -- case 3
          refine gw_tableIn (tgt := 60) S dc_PC_count_1 (by rw [c_6]; decide) (by rw [c_6]; decide) (by rw [c_6]; rfl) (by decide) ?_
          refine gw_aload_n S dc_PC_count_60 rfl 0 rfl ?_
          refine gw_get S hK.1 ic_PC rfl 8 (by decide) (gw_lk S mw_253) 0 rfl rfl dc_PC_count_61 ?_
          exact gw_iretR S g_r g_k  (by simp only [f_PC_count, if_neg c_1, if_neg c_3, if_neg c_4, if_pos c_6]) dc_PC_count_64
        · -- else
          rcases Classical.em (x = 4) with c_7 | c_7
          · -- case 4
            refine gw_tableIn (tgt := 65) S dc_PC_count_1 (by rw [c_7]; decide) (by rw [c_7]; decide) (by rw [c_7]; rfl) (by decide) ?_
            refine gw_aload_n S dc_PC_count_65 rfl 0 rfl ?_
            refine gw_get S hK.1 ic_PC rfl 3 (by decide) (gw_lk S mw_248) 0 rfl rfl dc_PC_count_66 ?_
            refine gw_getN S hK.1 ic_Host rfl 3 (by decide) (hK.2 _ mn_65).2 5 rfl rfl dc_PC_count_69 ?_
            exact gw_iretR S g_r g_k  (by simp only [f_PC_count, if_neg c_1, if_neg c_3, if_neg c_4, if_neg c_6, if_pos c_7]) dc_PC_count_72
          · -- else
            have nc_1 := lv_neT c_1 (a := 0) (by decide)
            have nc_3 := lv_neT c_3 (a := 1) (by decide)
            have nc_4 := lv_neT c_4 (a := 2) (by decide)
            have nc_6 := lv_neT c_6 (a := 3) (by decide)
            have nc_7 := lv_neT c_7 (a := 4) (by decide)
            refine gw_tableOut (tgt := 73) S dc_PC_count_1 (by omega) (by decide) ?_
            refine gw_iconst (v := -1) S dc_PC_count_73 (by decide) ?_
            exact gw_iretR S g_r g_k  (by simp only [f_PC_count, if_neg c_1, if_neg c_3, if_neg c_4, if_neg c_6, if_neg c_7]) dc_PC_count_74
