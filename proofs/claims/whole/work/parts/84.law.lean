section GL
variable {p : Program} {l : Launch} {e : Env} {R : Room} {s : State} {m : MethodId} {args : Array Value} {below : List Frame} {meth : Method} {c : Code} {cells slots : Nat} {Q : State → Prop}
variable {cc : ByteArray} {nL pc : Nat} {Ts : List Cond} {own : String} {D : va_G} {cl : List vw_C} {tys : List (ClassId × FieldType)} {A : Nat → Prop} {I : Heap → List Loc → Prop} {H0 : Heap} {ws : va_W} {lv : List (Nat × Value)} {st : List Value}
theorem gw_sld (S : CallFix p m c cc nL s args Ts own) {b L : Nat} {xs : Nat → Int32} (hXs : va_X b L xs s s.heap) (hbl : b < s.heap.size) (hbA : ¬ A b) {i : Int32} (hin : vp_in i L) (d : decode cc pc = .ok (.iaload, 1)) (k : gw_G p l e R s m args below meth c D cs_L A (va_S A s.heap) cells slots nL Q ws lv (.int (xs i.toNatClampNeg) :: st) (pc + 1)) : gw_G p l e R s m args below meth c D cs_L A (va_S A s.heap) cells slots nL Q ws lv (.int i :: .ref b :: st) pc := fun H locs ls hP hD hI hl => va_sld S.1 S.2.1 hXs hbl hbA hI hin d (k H locs ls hP hD hI hl)
theorem gw_slen (S : CallFix p m c cc nL s args Ts own) {b L : Nat} {xs : Nat → Int32} (hXs : va_X b L xs s s.heap) (hbl : b < s.heap.size) (hbA : ¬ A b) (d : decode cc pc = .ok (.arraylength, 1)) (k : gw_G p l e R s m args below meth c D cs_L A (va_S A s.heap) cells slots nL Q ws lv (.int (Int32.ofNat L) :: st) (pc + 1)) : gw_G p l e R s m args below meth c D cs_L A (va_S A s.heap) cells slots nL Q ws lv (.ref b :: st) pc := fun H locs ls hP hD hI hl => va_slen S.1 S.2.1 hXs hbl hbA hI d (k H locs ls hP hD hI hl)
theorem gw_callL (S : CallFix p m c cc nL s args Ts own) {cA : Nat → ClassId} {ut9 ed9 : Nat} {y : MethodName} {cd : Cond} {bytes : ByteArray} {maxL n index : Nat} {ret : Option FieldType} {As st0 : List Value} {C : String} {b ci : Nat} {fs : List Value} {r : vw_C} {post : Option Value → va_W → Prop} {wc wr : va_W} (hKs : gw_K D cs_L (cs_T cA) bw_N s) (hA : ∀ q, s.heap.size ≤ q → A q) (hX : sx_X ut9 ed9 A s s.heap) (hM : lq_C l D cA ut9 ed9 y cd (.ref b :: As) wc post) (cwf : ∀ (rm : Room) (mc ms : Nat), rm.cells = mc → rm.slots = ms → (rm.frames + 1 ≤ R.frames ∧ 8 + (maxL + 11) + rm.locals ≤ R.locals) → CallW R s args own C index y bytes maxL ret (cd :: bw_B) rm mc ms n) (hrec : (b, .inr (ci, fs)) ∈ wc) (hcc : cs_L[ci]? = some r) (hrC : r.1 = C) (hn : As.length = n) (hst : st0 = As.reverse ++ .ref b :: st) (hsum : (st.map fun v => v.category).sum ≤ 8) (d : decode cc pc = .ok (.invokevirtual index, 3)) (hR1 : 13 ≤ R.frames) (hR2 : 8 + (maxL + 11) + 720 ≤ R.locals) (hR3 : cells + 8 ≤ R.cells) (hR4 : slots + 202 ≤ R.slots) (k : ∀ v w, post v w → gw_G p l e R s m args below meth c D cs_L A (va_S A s.heap) (cells + 8) (slots + 202) nL Q (wr ++ w) lv (v.toList ++ st) (pc + 3)) : gw_G p l e R s m args below meth c D cs_L A (va_S A s.heap) cells slots nL Q (wc ++ wr) lv st0 pc := by
  obtain ⟨lv9, mc, ms, h1, h2, h3, hM⟩ := hM
  obtain ⟨q0, hq0⟩ := List.getElem?_of_mem hrec
  refine gw_callVZ (As := As) (st := st) (wr := wr) S hKs hA hX hM (cwf _ _ _ rfl rfl ⟨by show lv9 + 1 ≤ _; omega, by show _ + 60 * lv9 ≤ _; omega⟩) (List.range wc.length) ((List.range wr.length).map (wc.length + ·)) (th_C _ _) (th_nC _) (th_R _ _) (th_nR _ _) (th_d _ _) q0 hq0 hcc hrC hn hst hsum d ⟨by omega, by omega⟩ ?_
  intro v w hp
  exact gw_widen (by omega) (by omega) (k v w hp)
end GL
theorem lq_recv {cA : Nat → ClassId} {ed9 k9 x m : Nat} {cw mw : va_W} (h : lq_R cA ed9 k9 x m cw mw) : (∃ fs, (x, .inr (7, fs)) ∈ cw) ∧ (∃ fs, (m, .inr (9, fs)) ∈ mw) := by
  refine h _ ?_
  intro tx tb ca te hs hh h1 h2 h3 hp hd db qu hq sp xm xs xt xk xp xr xc xu xe xb xa xl xg x1 x2 x3 x4 xq xz xd pl ap n am ty fa oc fl wi fi fc s2 sc co mq ft tw inn bd fl2 p c d t4 f g cf b k la df M Z the kys pin trs cou run see bal lst pac pam pcd pbk que S Q V K hcw hmw hB hr hK hb hbb hl hd9 hp9 hn hS hQ
  exact ⟨⟨_, hcw.mem_iff.mpr (List.mem_cons_self ..)⟩, ⟨_, hmw.mem_iff.mpr (List.mem_cons_self ..)⟩⟩
theorem lq_up {cA : Nat → ClassId} {ed9 k9 x m : Nat} {cw mw : va_W} (h : lq_R cA ed9 k9 x m cw mw) : lq_R cA ed9 (k9 + 1) x m cw mw := by
  refine h _ ?_
  intro tx tb ca te hs hh h1 h2 h3 hp hd db qu hq sp xm xs xt xk xp xr xc xu xe xb xa xl xg x1 x2 x3 x4 xq xz xd pl ap n am ty fa oc fl wi fi fc s2 sc co mq ft tw inn bd fl2 p c d t4 f g cf b k la df M Z the kys pin trs cou run see bal lst pac pam pcd pbk que S Q V K hcw hmw hB hr hK hb hbb hl hd9 hp9 hn hS hQ
  exact fun P_ kk_ => kk_ tx tb ca te hs hh h1 h2 h3 hp hd db qu hq sp xm xs xt xk xp xr xc xu xe xb xa xl xg x1 x2 x3 x4 xq xz xd pl ap n am ty fa oc fl wi fi fc s2 sc co mq ft tw inn bd fl2 p c d t4 f g cf b k la df M Z the kys pin trs cou run see bal lst pac pam pcd pbk que S Q V K hcw hmw hB hr hK hb (fun j hj => ⟨(hbb j hj).1, by have := (hbb j hj).2; omega⟩) hl hd9 (Nat.le_succ_of_le hp9) hn hS hQ
theorem lw_go {k9 L : Nat} (hL : L ≤ 2560) (hk : 5 * k9 ≤ L) (c : ¬ Int32.ofNat L - 5 < nI (5 * k9)) : 5 * k9 + 5 ≤ L := by
  rcases Nat.lt_or_ge L (5 * k9 + 5) with q | q
  · refine absurd ?_ c
    rw [Int32.lt_iff_toInt_lt, nI_toInt (by omega)]
    have e : (Int32.ofNat L - 5).toInt = (L : Int) - 5 := by
      rw [Int32.toInt_sub, show (Int32.ofNat L).toInt = (L : Int) from nI_toInt (by omega), show Int32.toInt 5 = 5 by decide]
      exact Int.bmod_eq_of_le (by omega) (by omega)
    rw [e]
    omega
  · exact q
theorem lg_self (u : Int64) : lg_cmp u u = 0 := by
  unfold lg_cmp
  rw [if_neg (by rw [gt_iff_lt, Int64.lt_iff_toInt_lt]; omega), if_pos rfl]
set_option maxRecDepth 100000 in
set_option maxHeartbeats 4000000 in
theorem law_loop {p : Program} {e : Env} {s : State} {m : MethodId} {below : List Frame} {meth : Method} {c : Code} (l : Launch) {b L : Nat} {xs : Nat → Int32} {D : va_G} {cA : Nat → ClassId} {ut9 ed9 x y : Nat} {c0 : Cond} (hL : L ≤ 2560) (S : CallFix p m c code 4 s #[Value.ref b] (c0 :: bw_B) "PayChainLaw") (hr : meth.sig.returnType = ret) (hlocks : meth.locks = false) (hXs : va_X b L xs s s.heap) (hbl : b < s.heap.size) (hK : gw_K D cs_L (cs_T cA) bw_N s) (hX : sx_X ut9 ed9 (fun q : Nat => s.heap.size ≤ q) s s.heap) : ∀ (n k9 : Nat) (cw mw : va_W), 5 * k9 ≤ L → L < 5 * (k9 + n) → lq_R cA ed9 k9 x y cw mw → gw_G p l e room_1 s m #[Value.ref b] below meth c D cs_L (fun q : Nat => s.heap.size ≤ q) (va_S (fun q : Nat => s.heap.size ≤ q) s.heap) (100 + 16 * k9) (3000 + 404 * k9) 4 (lw_Z below #[Value.ref b] s) (cw ++ mw) [(3, .int (nI (5 * k9))), (2, .ref y), (1, .ref x), (0, .ref b)] [] 18 := by
  have hA : ∀ q : Nat, s.heap.size ≤ q → (fun q : Nat => s.heap.size ≤ q) q := fun _ h => h
  have hbA : ¬ (fun q : Nat => s.heap.size ≤ q) b := Nat.not_le.mpr hbl
  intro n
  induction n with
  | zero => intro k9 cw mw h1 h2; omega
  | succ n ih =>
    intro k9 cw mw h1 h2 hR
    refine gw_iload_n S dc_Law_law_18 rfl 0 rfl ?_
    refine gw_aload_n S dc_Law_law_19 rfl 3 rfl ?_
    refine gw_slen S hXs hbl hbA dc_Law_law_20 ?_
    refine gw_iconst (v := 5) S dc_Law_law_21 (by decide) ?_
    refine gw_isub S dc_Law_law_22 ?_
    refine gw_icmp_gt (tgt := 587) S dc_Law_law_23 (by decide) (fun c_1 => ?_) (fun c_1 => ?_)
    · refine gw_iconst (v := 1) S dc_Law_law_587 (by decide) ?_
      intro H locs ls hP hD hI hl
      refine va_forget (fun q hq => hI.2.2 q hq) ?_
      refine W.widen (k := 600000) (n := 7302250) (by omega) (by omega) ?_
      exact lw_ret S.1 S.2.1 hr hlocks dc_Law_law_588
    · have hgo := lw_go hL h1 c_1
      have hk9 : k9 < 512 := by omega
      obtain ⟨⟨fsx, hrx⟩, _⟩ := lq_recv hR
      have hback : ∀ (ws : va_W) (cw' mw' : va_W), ws = cw' ++ mw' → lq_R cA ed9 (k9 + 1) x y cw' mw' → gw_G p l e room_1 s m #[Value.ref b] below meth c D cs_L (fun q : Nat => s.heap.size ≤ q) (va_S (fun q : Nat => s.heap.size ≤ q) s.heap) (100 + 16 * k9 + 16) (3000 + 404 * k9 + 404) 4 (lw_Z below #[Value.ref b] s) ws [(3, .int (nI (5 * k9))), (2, .ref y), (1, .ref x), (0, .ref b)] [] 581 := by
        rintro _ cw' mw' rfl hR'
        refine gw_iinc (v := nI (5 * (k9 + 1))) (lv' := [(3, .int (nI (5 * (k9 + 1)))), (2, .ref y), (1, .ref x), (0, .ref b)]) S dc_Law_law_581 0 rfl (by rw [show (5 * (k9 + 1)) = 5 * k9 + 5 by omega]; exact nI_add _ 5) (by decide) rfl ?_
        refine gw_goto (tgt := 18) S dc_Law_law_584 (by decide) ?_
        exact gw_widen (by omega) (by omega) (ih (k9 + 1) cw' mw' (by omega) (by omega) hR')
      refine gw_aload_n S dc_Law_law_26 rfl 3 rfl ?_
      refine gw_iload_n S dc_Law_law_27 rfl 0 rfl ?_
      refine gw_sld S hXs hbl hbA (nI_in (by omega) (by omega)) dc_Law_law_28 ?_
      refine gw_bipush (v := 15) S dc_Law_law_29 (by decide) ?_
      refine gw_iand S dc_Law_law_31 ?_
      refine gw_topi (fun v9 hv9 => ?_)
      rcases Classical.em (v9 = 0) with e_0 | e_0
      · -- case 0
        refine gw_tableIn (tgt := 112) S dc_Law_law_32 (by rw [e_0]; decide) (by rw [e_0]; decide) (by rw [e_0]; rfl) (by decide) ?_
        refine gw_aload_n S dc_Law_law_112 rfl 2 rfl ?_
        refine gw_aload_n S dc_Law_law_113 rfl 3 rfl ?_
        refine gw_iload_n S dc_Law_law_114 rfl 0 rfl ?_
        refine gw_iconst (v := 1) S dc_Law_law_115 (by decide) ?_
        refine gw_iaddN (a := 5 * k9) (b := 1) S dc_Law_law_116 ?_
        refine gw_sld S hXs hbl hbA (nI_in (by omega) (by omega)) dc_Law_law_117 ?_
        obtain ⟨postC, hC, hM⟩ := pr_feed l D cA ut9 ed9 k9 x y cw mw ((xs (nI (5 * k9 + 1)).toNatClampNeg)) hk9 hR
        refine gw_callL (As := [.int (xs (nI (5 * k9 + 1)).toNatClampNeg)]) (st := []) (wr := mw) S hK hA hX hC (fun rm mc ms g1 g2 g3 => cw_Law_13 S.2.2.2.2 g1 g2 g3) hrx rfl rfl rfl rfl (Nat.le_of_ble_eq_true rfl) dc_Law_law_118 (Nat.le_of_ble_eq_true rfl) (Nat.le_of_ble_eq_true rfl) (by show 100 + 16 * k9 + 8 ≤ 600000; omega) (by show 3000 + 404 * k9 + 202 ≤ 7302250; omega) ?_
        intro v w hp1
        obtain ⟨u, rfl, postM, hC2, hfin⟩ := hM v w hp1
        refine gw_eq (ws' := mw ++ w) (lv' := [(3, .int (nI (5 * k9))), (2, .ref y), (1, .ref x), (0, .ref b)]) (st' := [.int u]) (pc' := 121) rfl rfl rfl rfl ?_
        refine gw_aload_n S dc_Law_law_121 rfl 1 rfl ?_
        refine gw_aload_n S dc_Law_law_122 rfl 3 rfl ?_
        refine gw_iload_n S dc_Law_law_123 rfl 0 rfl ?_
        refine gw_iconst (v := 1) S dc_Law_law_124 (by decide) ?_
        refine gw_iaddN (a := 5 * k9) (b := 1) S dc_Law_law_125 ?_
        refine gw_sld S hXs hbl hbA (nI_in (by omega) (by omega)) dc_Law_law_126 ?_
        obtain ⟨_, ⟨fsy, hry⟩⟩ := lq_recv hR
        refine gw_callL (As := [.int (xs (nI (5 * k9 + 1)).toNatClampNeg)]) (st := [.int u]) (wr := w) S hK hA hX hC2 (fun rm mc ms g1 g2 g3 => cw_Law_17 S.2.2.2.2 g1 g2 g3) hry rfl rfl rfl rfl (Nat.le_of_ble_eq_true rfl) dc_Law_law_127 (Nat.le_of_ble_eq_true rfl) (Nat.le_of_ble_eq_true rfl) (by show 100 + 16 * k9 + 8 + 8 ≤ 600000; omega) (by show 3000 + 404 * k9 + 202 + 202 ≤ 7302250; omega) ?_
        intro v' w' hp2
        obtain ⟨rfl, hR'⟩ := hfin v' w' hp2
        refine gw_eq (ws' := w ++ w') (lv' := [(3, .int (nI (5 * k9))), (2, .ref y), (1, .ref x), (0, .ref b)]) (st' := [.int u, .int u]) (pc' := 130) rfl rfl rfl rfl ?_
        refine gw_icmp_eq (tgt := 581) S dc_Law_law_130 (by decide) (fun _ => ?_) (fun q => absurd rfl q)
        exact hback _ w w' rfl hR'
      · -- else
        rcases Classical.em (v9 = 1) with e_1 | e_1
        · -- case 1
          refine gw_tableIn (tgt := 135) S dc_Law_law_32 (by rw [e_1]; decide) (by rw [e_1]; decide) (by rw [e_1]; rfl) (by decide) ?_
          refine gw_aload_n S dc_Law_law_135 rfl 2 rfl ?_
          obtain ⟨postC, hC, hM⟩ := pr_wipe l D cA ut9 ed9 k9 x y cw mw  hk9 hR
          refine gw_callL (As := []) (st := []) (wr := mw) S hK hA hX hC (fun rm mc ms g1 g2 g3 => cw_Law_18 S.2.2.2.2 g1 g2 g3) hrx rfl rfl rfl rfl (Nat.le_of_ble_eq_true rfl) dc_Law_law_136 (Nat.le_of_ble_eq_true rfl) (Nat.le_of_ble_eq_true rfl) (by show 100 + 16 * k9 + 8 ≤ 600000; omega) (by show 3000 + 404 * k9 + 202 ≤ 7302250; omega) ?_
          intro v w hp1
          obtain ⟨u, rfl, postM, hC2, hfin⟩ := hM v w hp1
          refine gw_eq (ws' := mw ++ w) (lv' := [(3, .int (nI (5 * k9))), (2, .ref y), (1, .ref x), (0, .ref b)]) (st' := [.int u]) (pc' := 139) rfl rfl rfl rfl ?_
          refine gw_aload_n S dc_Law_law_139 rfl 1 rfl ?_
          obtain ⟨_, ⟨fsy, hry⟩⟩ := lq_recv hR
          refine gw_callL (As := []) (st := [.int u]) (wr := w) S hK hA hX hC2 (fun rm mc ms g1 g2 g3 => cw_Law_22 S.2.2.2.2 g1 g2 g3) hry rfl rfl rfl rfl (Nat.le_of_ble_eq_true rfl) dc_Law_law_140 (Nat.le_of_ble_eq_true rfl) (Nat.le_of_ble_eq_true rfl) (by show 100 + 16 * k9 + 8 + 8 ≤ 600000; omega) (by show 3000 + 404 * k9 + 202 + 202 ≤ 7302250; omega) ?_
          intro v' w' hp2
          obtain ⟨rfl, hR'⟩ := hfin v' w' hp2
          refine gw_eq (ws' := w ++ w') (lv' := [(3, .int (nI (5 * k9))), (2, .ref y), (1, .ref x), (0, .ref b)]) (st' := [.int u, .int u]) (pc' := 143) rfl rfl rfl rfl ?_
          refine gw_icmp_eq (tgt := 581) S dc_Law_law_143 (by decide) (fun _ => ?_) (fun q => absurd rfl q)
          exact hback _ w w' rfl hR'
        · -- else
          rcases Classical.em (v9 = 2) with e_2 | e_2
          · -- case 2
            refine gw_tableIn (tgt := 148) S dc_Law_law_32 (by rw [e_2]; decide) (by rw [e_2]; decide) (by rw [e_2]; rfl) (by decide) ?_
            refine gw_aload_n S dc_Law_law_148 rfl 2 rfl ?_
            refine gw_aload_n S dc_Law_law_149 rfl 3 rfl ?_
            refine gw_iload_n S dc_Law_law_150 rfl 0 rfl ?_
            refine gw_iconst (v := 1) S dc_Law_law_151 (by decide) ?_
            refine gw_iaddN (a := 5 * k9) (b := 1) S dc_Law_law_152 ?_
            refine gw_sld S hXs hbl hbA (nI_in (by omega) (by omega)) dc_Law_law_153 ?_
            refine gw_aload_n S dc_Law_law_154 rfl 3 rfl ?_
            refine gw_iload_n S dc_Law_law_155 rfl 0 rfl ?_
            refine gw_iconst (v := 2) S dc_Law_law_156 (by decide) ?_
            refine gw_iaddN (a := 5 * k9) (b := 2) S dc_Law_law_157 ?_
            refine gw_sld S hXs hbl hbA (nI_in (by omega) (by omega)) dc_Law_law_158 ?_
            refine gw_aload_n S dc_Law_law_159 rfl 3 rfl ?_
            refine gw_iload_n S dc_Law_law_160 rfl 0 rfl ?_
            refine gw_iconst (v := 3) S dc_Law_law_161 (by decide) ?_
            refine gw_iaddN (a := 5 * k9) (b := 3) S dc_Law_law_162 ?_
            refine gw_sld S hXs hbl hbA (nI_in (by omega) (by omega)) dc_Law_law_163 ?_
            obtain ⟨postC, hC, hM⟩ := pr_make l D cA ut9 ed9 k9 x y cw mw ((xs (nI (5 * k9 + 1)).toNatClampNeg)) ((xs (nI (5 * k9 + 2)).toNatClampNeg)) ((xs (nI (5 * k9 + 3)).toNatClampNeg)) hk9 hR
            refine gw_callL (As := [.int (xs (nI (5 * k9 + 1)).toNatClampNeg), .int (xs (nI (5 * k9 + 2)).toNatClampNeg), .int (xs (nI (5 * k9 + 3)).toNatClampNeg)]) (st := []) (wr := mw) S hK hA hX hC (fun rm mc ms g1 g2 g3 => cw_Law_23 S.2.2.2.2 g1 g2 g3) hrx rfl rfl rfl rfl (Nat.le_of_ble_eq_true rfl) dc_Law_law_164 (Nat.le_of_ble_eq_true rfl) (Nat.le_of_ble_eq_true rfl) (by show 100 + 16 * k9 + 8 ≤ 600000; omega) (by show 3000 + 404 * k9 + 202 ≤ 7302250; omega) ?_
            intro v w hp1
            obtain ⟨u, rfl, postM, hC2, hfin⟩ := hM v w hp1
            refine gw_eq (ws' := mw ++ w) (lv' := [(3, .int (nI (5 * k9))), (2, .ref y), (1, .ref x), (0, .ref b)]) (st' := [.int u]) (pc' := 167) rfl rfl rfl rfl ?_
            refine gw_aload_n S dc_Law_law_167 rfl 1 rfl ?_
            refine gw_aload_n S dc_Law_law_168 rfl 3 rfl ?_
            refine gw_iload_n S dc_Law_law_169 rfl 0 rfl ?_
            refine gw_iconst (v := 1) S dc_Law_law_170 (by decide) ?_
            refine gw_iaddN (a := 5 * k9) (b := 1) S dc_Law_law_171 ?_
            refine gw_sld S hXs hbl hbA (nI_in (by omega) (by omega)) dc_Law_law_172 ?_
            refine gw_aload_n S dc_Law_law_173 rfl 3 rfl ?_
            refine gw_iload_n S dc_Law_law_174 rfl 0 rfl ?_
            refine gw_iconst (v := 2) S dc_Law_law_175 (by decide) ?_
            refine gw_iaddN (a := 5 * k9) (b := 2) S dc_Law_law_176 ?_
            refine gw_sld S hXs hbl hbA (nI_in (by omega) (by omega)) dc_Law_law_177 ?_
            refine gw_aload_n S dc_Law_law_178 rfl 3 rfl ?_
            refine gw_iload_n S dc_Law_law_179 rfl 0 rfl ?_
            refine gw_iconst (v := 3) S dc_Law_law_180 (by decide) ?_
            refine gw_iaddN (a := 5 * k9) (b := 3) S dc_Law_law_181 ?_
            refine gw_sld S hXs hbl hbA (nI_in (by omega) (by omega)) dc_Law_law_182 ?_
            obtain ⟨_, ⟨fsy, hry⟩⟩ := lq_recv hR
            refine gw_callL (As := [.int (xs (nI (5 * k9 + 1)).toNatClampNeg), .int (xs (nI (5 * k9 + 2)).toNatClampNeg), .int (xs (nI (5 * k9 + 3)).toNatClampNeg)]) (st := [.int u]) (wr := w) S hK hA hX hC2 (fun rm mc ms g1 g2 g3 => cw_Law_27 S.2.2.2.2 g1 g2 g3) hry rfl rfl rfl rfl (Nat.le_of_ble_eq_true rfl) dc_Law_law_183 (Nat.le_of_ble_eq_true rfl) (Nat.le_of_ble_eq_true rfl) (by show 100 + 16 * k9 + 8 + 8 ≤ 600000; omega) (by show 3000 + 404 * k9 + 202 + 202 ≤ 7302250; omega) ?_
            intro v' w' hp2
            obtain ⟨rfl, hR'⟩ := hfin v' w' hp2
            refine gw_eq (ws' := w ++ w') (lv' := [(3, .int (nI (5 * k9))), (2, .ref y), (1, .ref x), (0, .ref b)]) (st' := [.int u, .int u]) (pc' := 186) rfl rfl rfl rfl ?_
            refine gw_icmp_eq (tgt := 581) S dc_Law_law_186 (by decide) (fun _ => ?_) (fun q => absurd rfl q)
            exact hback _ w w' rfl hR'
          · -- else
            rcases Classical.em (v9 = 3) with e_3 | e_3
            · -- case 3
              refine gw_tableIn (tgt := 191) S dc_Law_law_32 (by rw [e_3]; decide) (by rw [e_3]; decide) (by rw [e_3]; rfl) (by decide) ?_
              refine gw_aload_n S dc_Law_law_191 rfl 2 rfl ?_
              obtain ⟨postC, hC, hM⟩ := pr_place l D cA ut9 ed9 k9 x y cw mw  hk9 hR
              refine gw_callL (As := []) (st := []) (wr := mw) S hK hA hX hC (fun rm mc ms g1 g2 g3 => cw_Law_28 S.2.2.2.2 g1 g2 g3) hrx rfl rfl rfl rfl (Nat.le_of_ble_eq_true rfl) dc_Law_law_192 (Nat.le_of_ble_eq_true rfl) (Nat.le_of_ble_eq_true rfl) (by show 100 + 16 * k9 + 8 ≤ 600000; omega) (by show 3000 + 404 * k9 + 202 ≤ 7302250; omega) ?_
              intro v w hp1
              obtain ⟨u, rfl, postM, hC2, hfin⟩ := hM v w hp1
              refine gw_eq (ws' := mw ++ w) (lv' := [(3, .int (nI (5 * k9))), (2, .ref y), (1, .ref x), (0, .ref b)]) (st' := [.int u]) (pc' := 195) rfl rfl rfl rfl ?_
              refine gw_aload_n S dc_Law_law_195 rfl 1 rfl ?_
              obtain ⟨_, ⟨fsy, hry⟩⟩ := lq_recv hR
              refine gw_callL (As := []) (st := [.int u]) (wr := w) S hK hA hX hC2 (fun rm mc ms g1 g2 g3 => cw_Law_31 S.2.2.2.2 g1 g2 g3) hry rfl rfl rfl rfl (Nat.le_of_ble_eq_true rfl) dc_Law_law_196 (Nat.le_of_ble_eq_true rfl) (Nat.le_of_ble_eq_true rfl) (by show 100 + 16 * k9 + 8 + 8 ≤ 600000; omega) (by show 3000 + 404 * k9 + 202 + 202 ≤ 7302250; omega) ?_
              intro v' w' hp2
              obtain ⟨rfl, hR'⟩ := hfin v' w' hp2
              refine gw_eq (ws' := w ++ w') (lv' := [(3, .int (nI (5 * k9))), (2, .ref y), (1, .ref x), (0, .ref b)]) (st' := [.int u, .int u]) (pc' := 199) rfl rfl rfl rfl ?_
              refine gw_icmp_eq (tgt := 581) S dc_Law_law_199 (by decide) (fun _ => ?_) (fun q => absurd rfl q)
              exact hback _ w w' rfl hR'
            · -- else
              rcases Classical.em (v9 = 4) with e_4 | e_4
              · -- case 4
                refine gw_tableIn (tgt := 204) S dc_Law_law_32 (by rw [e_4]; decide) (by rw [e_4]; decide) (by rw [e_4]; rfl) (by decide) ?_
                refine gw_aload_n S dc_Law_law_204 rfl 2 rfl ?_
                refine gw_aload_n S dc_Law_law_205 rfl 3 rfl ?_
                refine gw_iload_n S dc_Law_law_206 rfl 0 rfl ?_
                refine gw_iconst (v := 1) S dc_Law_law_207 (by decide) ?_
                refine gw_iaddN (a := 5 * k9) (b := 1) S dc_Law_law_208 ?_
                refine gw_sld S hXs hbl hbA (nI_in (by omega) (by omega)) dc_Law_law_209 ?_
                refine gw_aload_n S dc_Law_law_210 rfl 3 rfl ?_
                refine gw_iload_n S dc_Law_law_211 rfl 0 rfl ?_
                refine gw_iconst (v := 2) S dc_Law_law_212 (by decide) ?_
                refine gw_iaddN (a := 5 * k9) (b := 2) S dc_Law_law_213 ?_
                refine gw_sld S hXs hbl hbA (nI_in (by omega) (by omega)) dc_Law_law_214 ?_
                refine gw_aload_n S dc_Law_law_215 rfl 3 rfl ?_
                refine gw_iload_n S dc_Law_law_216 rfl 0 rfl ?_
                refine gw_iconst (v := 3) S dc_Law_law_217 (by decide) ?_
                refine gw_iaddN (a := 5 * k9) (b := 3) S dc_Law_law_218 ?_
                refine gw_sld S hXs hbl hbA (nI_in (by omega) (by omega)) dc_Law_law_219 ?_
                obtain ⟨postC, hC, hM⟩ := pr_account l D cA ut9 ed9 k9 x y cw mw ((xs (nI (5 * k9 + 1)).toNatClampNeg)) ((xs (nI (5 * k9 + 2)).toNatClampNeg)) ((xs (nI (5 * k9 + 3)).toNatClampNeg)) hk9 hR
                refine gw_callL (As := [.int (xs (nI (5 * k9 + 1)).toNatClampNeg), .int (xs (nI (5 * k9 + 2)).toNatClampNeg), .int (xs (nI (5 * k9 + 3)).toNatClampNeg)]) (st := []) (wr := mw) S hK hA hX hC (fun rm mc ms g1 g2 g3 => cw_Law_32 S.2.2.2.2 g1 g2 g3) hrx rfl rfl rfl rfl (Nat.le_of_ble_eq_true rfl) dc_Law_law_220 (Nat.le_of_ble_eq_true rfl) (Nat.le_of_ble_eq_true rfl) (by show 100 + 16 * k9 + 8 ≤ 600000; omega) (by show 3000 + 404 * k9 + 202 ≤ 7302250; omega) ?_
                intro v w hp1
                obtain ⟨u, rfl, postM, hC2, hfin⟩ := hM v w hp1
                refine gw_eq (ws' := mw ++ w) (lv' := [(3, .int (nI (5 * k9))), (2, .ref y), (1, .ref x), (0, .ref b)]) (st' := [.int u]) (pc' := 223) rfl rfl rfl rfl ?_
                refine gw_aload_n S dc_Law_law_223 rfl 1 rfl ?_
                refine gw_aload_n S dc_Law_law_224 rfl 3 rfl ?_
                refine gw_iload_n S dc_Law_law_225 rfl 0 rfl ?_
                refine gw_iconst (v := 1) S dc_Law_law_226 (by decide) ?_
                refine gw_iaddN (a := 5 * k9) (b := 1) S dc_Law_law_227 ?_
                refine gw_sld S hXs hbl hbA (nI_in (by omega) (by omega)) dc_Law_law_228 ?_
                refine gw_aload_n S dc_Law_law_229 rfl 3 rfl ?_
                refine gw_iload_n S dc_Law_law_230 rfl 0 rfl ?_
                refine gw_iconst (v := 2) S dc_Law_law_231 (by decide) ?_
                refine gw_iaddN (a := 5 * k9) (b := 2) S dc_Law_law_232 ?_
                refine gw_sld S hXs hbl hbA (nI_in (by omega) (by omega)) dc_Law_law_233 ?_
                refine gw_aload_n S dc_Law_law_234 rfl 3 rfl ?_
                refine gw_iload_n S dc_Law_law_235 rfl 0 rfl ?_
                refine gw_iconst (v := 3) S dc_Law_law_236 (by decide) ?_
                refine gw_iaddN (a := 5 * k9) (b := 3) S dc_Law_law_237 ?_
                refine gw_sld S hXs hbl hbA (nI_in (by omega) (by omega)) dc_Law_law_238 ?_
                obtain ⟨_, ⟨fsy, hry⟩⟩ := lq_recv hR
                refine gw_callL (As := [.int (xs (nI (5 * k9 + 1)).toNatClampNeg), .int (xs (nI (5 * k9 + 2)).toNatClampNeg), .int (xs (nI (5 * k9 + 3)).toNatClampNeg)]) (st := [.int u]) (wr := w) S hK hA hX hC2 (fun rm mc ms g1 g2 g3 => cw_Law_35 S.2.2.2.2 g1 g2 g3) hry rfl rfl rfl rfl (Nat.le_of_ble_eq_true rfl) dc_Law_law_239 (Nat.le_of_ble_eq_true rfl) (Nat.le_of_ble_eq_true rfl) (by show 100 + 16 * k9 + 8 + 8 ≤ 600000; omega) (by show 3000 + 404 * k9 + 202 + 202 ≤ 7302250; omega) ?_
                intro v' w' hp2
                obtain ⟨rfl, hR'⟩ := hfin v' w' hp2
                refine gw_eq (ws' := w ++ w') (lv' := [(3, .int (nI (5 * k9))), (2, .ref y), (1, .ref x), (0, .ref b)]) (st' := [.int u, .int u]) (pc' := 242) rfl rfl rfl rfl ?_
                refine gw_icmp_eq (tgt := 581) S dc_Law_law_242 (by decide) (fun _ => ?_) (fun q => absurd rfl q)
                exact hback _ w w' rfl hR'
              · -- else
                rcases Classical.em (v9 = 5) with e_5 | e_5
                · -- case 5
                  refine gw_tableIn (tgt := 247) S dc_Law_law_32 (by rw [e_5]; decide) (by rw [e_5]; decide) (by rw [e_5]; rfl) (by decide) ?_
                  refine gw_aload_n S dc_Law_law_247 rfl 2 rfl ?_
                  refine gw_aload_n S dc_Law_law_248 rfl 3 rfl ?_
                  refine gw_iload_n S dc_Law_law_249 rfl 0 rfl ?_
                  refine gw_iconst (v := 1) S dc_Law_law_250 (by decide) ?_
                  refine gw_iaddN (a := 5 * k9) (b := 1) S dc_Law_law_251 ?_
                  refine gw_sld S hXs hbl hbA (nI_in (by omega) (by omega)) dc_Law_law_252 ?_
                  refine gw_aload_n S dc_Law_law_253 rfl 3 rfl ?_
                  refine gw_iload_n S dc_Law_law_254 rfl 0 rfl ?_
                  refine gw_iconst (v := 2) S dc_Law_law_255 (by decide) ?_
                  refine gw_iaddN (a := 5 * k9) (b := 2) S dc_Law_law_256 ?_
                  refine gw_sld S hXs hbl hbA (nI_in (by omega) (by omega)) dc_Law_law_257 ?_
                  obtain ⟨postC, hC, hM⟩ := pr_setting l D cA ut9 ed9 k9 x y cw mw ((xs (nI (5 * k9 + 1)).toNatClampNeg)) ((xs (nI (5 * k9 + 2)).toNatClampNeg)) hk9 hR
                  refine gw_callL (As := [.int (xs (nI (5 * k9 + 1)).toNatClampNeg), .int (xs (nI (5 * k9 + 2)).toNatClampNeg)]) (st := []) (wr := mw) S hK hA hX hC (fun rm mc ms g1 g2 g3 => cw_Law_36 S.2.2.2.2 g1 g2 g3) hrx rfl rfl rfl rfl (Nat.le_of_ble_eq_true rfl) dc_Law_law_258 (Nat.le_of_ble_eq_true rfl) (Nat.le_of_ble_eq_true rfl) (by show 100 + 16 * k9 + 8 ≤ 600000; omega) (by show 3000 + 404 * k9 + 202 ≤ 7302250; omega) ?_
                  intro v w hp1
                  obtain ⟨u, rfl, postM, hC2, hfin⟩ := hM v w hp1
                  refine gw_eq (ws' := mw ++ w) (lv' := [(3, .int (nI (5 * k9))), (2, .ref y), (1, .ref x), (0, .ref b)]) (st' := [.int u]) (pc' := 261) rfl rfl rfl rfl ?_
                  refine gw_aload_n S dc_Law_law_261 rfl 1 rfl ?_
                  refine gw_aload_n S dc_Law_law_262 rfl 3 rfl ?_
                  refine gw_iload_n S dc_Law_law_263 rfl 0 rfl ?_
                  refine gw_iconst (v := 1) S dc_Law_law_264 (by decide) ?_
                  refine gw_iaddN (a := 5 * k9) (b := 1) S dc_Law_law_265 ?_
                  refine gw_sld S hXs hbl hbA (nI_in (by omega) (by omega)) dc_Law_law_266 ?_
                  refine gw_aload_n S dc_Law_law_267 rfl 3 rfl ?_
                  refine gw_iload_n S dc_Law_law_268 rfl 0 rfl ?_
                  refine gw_iconst (v := 2) S dc_Law_law_269 (by decide) ?_
                  refine gw_iaddN (a := 5 * k9) (b := 2) S dc_Law_law_270 ?_
                  refine gw_sld S hXs hbl hbA (nI_in (by omega) (by omega)) dc_Law_law_271 ?_
                  obtain ⟨_, ⟨fsy, hry⟩⟩ := lq_recv hR
                  refine gw_callL (As := [.int (xs (nI (5 * k9 + 1)).toNatClampNeg), .int (xs (nI (5 * k9 + 2)).toNatClampNeg)]) (st := [.int u]) (wr := w) S hK hA hX hC2 (fun rm mc ms g1 g2 g3 => cw_Law_40 S.2.2.2.2 g1 g2 g3) hry rfl rfl rfl rfl (Nat.le_of_ble_eq_true rfl) dc_Law_law_272 (Nat.le_of_ble_eq_true rfl) (Nat.le_of_ble_eq_true rfl) (by show 100 + 16 * k9 + 8 + 8 ≤ 600000; omega) (by show 3000 + 404 * k9 + 202 + 202 ≤ 7302250; omega) ?_
                  intro v' w' hp2
                  obtain ⟨rfl, hR'⟩ := hfin v' w' hp2
                  refine gw_eq (ws' := w ++ w') (lv' := [(3, .int (nI (5 * k9))), (2, .ref y), (1, .ref x), (0, .ref b)]) (st' := [.int u, .int u]) (pc' := 275) rfl rfl rfl rfl ?_
                  refine gw_icmp_eq (tgt := 581) S dc_Law_law_275 (by decide) (fun _ => ?_) (fun q => absurd rfl q)
                  exact hback _ w w' rfl hR'
                · -- else
                  rcases Classical.em (v9 = 6) with e_6 | e_6
                  · -- case 6
                    refine gw_tableIn (tgt := 280) S dc_Law_law_32 (by rw [e_6]; decide) (by rw [e_6]; decide) (by rw [e_6]; rfl) (by decide) ?_
                    refine gw_aload_n S dc_Law_law_280 rfl 2 rfl ?_
                    refine gw_aload_n S dc_Law_law_281 rfl 3 rfl ?_
                    refine gw_iload_n S dc_Law_law_282 rfl 0 rfl ?_
                    refine gw_iconst (v := 1) S dc_Law_law_283 (by decide) ?_
                    refine gw_iaddN (a := 5 * k9) (b := 1) S dc_Law_law_284 ?_
                    refine gw_sld S hXs hbl hbA (nI_in (by omega) (by omega)) dc_Law_law_285 ?_
                    refine gw_aload_n S dc_Law_law_286 rfl 3 rfl ?_
                    refine gw_iload_n S dc_Law_law_287 rfl 0 rfl ?_
                    refine gw_iconst (v := 2) S dc_Law_law_288 (by decide) ?_
                    refine gw_iaddN (a := 5 * k9) (b := 2) S dc_Law_law_289 ?_
                    refine gw_sld S hXs hbl hbA (nI_in (by omega) (by omega)) dc_Law_law_290 ?_
                    refine gw_aload_n S dc_Law_law_291 rfl 3 rfl ?_
                    refine gw_iload_n S dc_Law_law_292 rfl 0 rfl ?_
                    refine gw_iconst (v := 3) S dc_Law_law_293 (by decide) ?_
                    refine gw_iaddN (a := 5 * k9) (b := 3) S dc_Law_law_294 ?_
                    refine gw_sld S hXs hbl hbA (nI_in (by omega) (by omega)) dc_Law_law_295 ?_
                    refine gw_aload_n S dc_Law_law_296 rfl 3 rfl ?_
                    refine gw_iload_n S dc_Law_law_297 rfl 0 rfl ?_
                    refine gw_iconst (v := 4) S dc_Law_law_298 (by decide) ?_
                    refine gw_iaddN (a := 5 * k9) (b := 4) S dc_Law_law_299 ?_
                    refine gw_sld S hXs hbl hbA (nI_in (by omega) (by omega)) dc_Law_law_300 ?_
                    obtain ⟨postC, hC, hM⟩ := pr_pay l D cA ut9 ed9 k9 x y cw mw ((xs (nI (5 * k9 + 1)).toNatClampNeg)) ((xs (nI (5 * k9 + 2)).toNatClampNeg)) ((xs (nI (5 * k9 + 3)).toNatClampNeg)) ((xs (nI (5 * k9 + 4)).toNatClampNeg)) hk9 hR
                    refine gw_callL (As := [.int (xs (nI (5 * k9 + 1)).toNatClampNeg), .int (xs (nI (5 * k9 + 2)).toNatClampNeg), .int (xs (nI (5 * k9 + 3)).toNatClampNeg), .int (xs (nI (5 * k9 + 4)).toNatClampNeg)]) (st := []) (wr := mw) S hK hA hX hC (fun rm mc ms g1 g2 g3 => cw_Law_41 S.2.2.2.2 g1 g2 g3) hrx rfl rfl rfl rfl (Nat.le_of_ble_eq_true rfl) dc_Law_law_301 (Nat.le_of_ble_eq_true rfl) (Nat.le_of_ble_eq_true rfl) (by show 100 + 16 * k9 + 8 ≤ 600000; omega) (by show 3000 + 404 * k9 + 202 ≤ 7302250; omega) ?_
                    intro v w hp1
                    obtain ⟨u, rfl, postM, hC2, hfin⟩ := hM v w hp1
                    refine gw_eq (ws' := mw ++ w) (lv' := [(3, .int (nI (5 * k9))), (2, .ref y), (1, .ref x), (0, .ref b)]) (st' := [.int u]) (pc' := 304) rfl rfl rfl rfl ?_
                    refine gw_aload_n S dc_Law_law_304 rfl 1 rfl ?_
                    refine gw_aload_n S dc_Law_law_305 rfl 3 rfl ?_
                    refine gw_iload_n S dc_Law_law_306 rfl 0 rfl ?_
                    refine gw_iconst (v := 1) S dc_Law_law_307 (by decide) ?_
                    refine gw_iaddN (a := 5 * k9) (b := 1) S dc_Law_law_308 ?_
                    refine gw_sld S hXs hbl hbA (nI_in (by omega) (by omega)) dc_Law_law_309 ?_
                    refine gw_aload_n S dc_Law_law_310 rfl 3 rfl ?_
                    refine gw_iload_n S dc_Law_law_311 rfl 0 rfl ?_
                    refine gw_iconst (v := 2) S dc_Law_law_312 (by decide) ?_
                    refine gw_iaddN (a := 5 * k9) (b := 2) S dc_Law_law_313 ?_
                    refine gw_sld S hXs hbl hbA (nI_in (by omega) (by omega)) dc_Law_law_314 ?_
                    refine gw_aload_n S dc_Law_law_315 rfl 3 rfl ?_
                    refine gw_iload_n S dc_Law_law_316 rfl 0 rfl ?_
                    refine gw_iconst (v := 3) S dc_Law_law_317 (by decide) ?_
                    refine gw_iaddN (a := 5 * k9) (b := 3) S dc_Law_law_318 ?_
                    refine gw_sld S hXs hbl hbA (nI_in (by omega) (by omega)) dc_Law_law_319 ?_
                    refine gw_aload_n S dc_Law_law_320 rfl 3 rfl ?_
                    refine gw_iload_n S dc_Law_law_321 rfl 0 rfl ?_
                    refine gw_iconst (v := 4) S dc_Law_law_322 (by decide) ?_
                    refine gw_iaddN (a := 5 * k9) (b := 4) S dc_Law_law_323 ?_
                    refine gw_sld S hXs hbl hbA (nI_in (by omega) (by omega)) dc_Law_law_324 ?_
                    obtain ⟨_, ⟨fsy, hry⟩⟩ := lq_recv hR
                    refine gw_callL (As := [.int (xs (nI (5 * k9 + 1)).toNatClampNeg), .int (xs (nI (5 * k9 + 2)).toNatClampNeg), .int (xs (nI (5 * k9 + 3)).toNatClampNeg), .int (xs (nI (5 * k9 + 4)).toNatClampNeg)]) (st := [.int u]) (wr := w) S hK hA hX hC2 (fun rm mc ms g1 g2 g3 => cw_Law_45 S.2.2.2.2 g1 g2 g3) hry rfl rfl rfl rfl (Nat.le_of_ble_eq_true rfl) dc_Law_law_325 (Nat.le_of_ble_eq_true rfl) (Nat.le_of_ble_eq_true rfl) (by show 100 + 16 * k9 + 8 + 8 ≤ 600000; omega) (by show 3000 + 404 * k9 + 202 + 202 ≤ 7302250; omega) ?_
                    intro v' w' hp2
                    obtain ⟨rfl, hR'⟩ := hfin v' w' hp2
                    refine gw_eq (ws' := w ++ w') (lv' := [(3, .int (nI (5 * k9))), (2, .ref y), (1, .ref x), (0, .ref b)]) (st' := [.int u, .int u]) (pc' := 328) rfl rfl rfl rfl ?_
                    refine gw_icmp_eq (tgt := 581) S dc_Law_law_328 (by decide) (fun _ => ?_) (fun q => absurd rfl q)
                    exact hback _ w w' rfl hR'
                  · -- else
                    rcases Classical.em (v9 = 7) with e_7 | e_7
                    · -- case 7
                      refine gw_tableIn (tgt := 333) S dc_Law_law_32 (by rw [e_7]; decide) (by rw [e_7]; decide) (by rw [e_7]; rfl) (by decide) ?_
                      refine gw_aload_n S dc_Law_law_333 rfl 2 rfl ?_
                      refine gw_aload_n S dc_Law_law_334 rfl 3 rfl ?_
                      refine gw_iload_n S dc_Law_law_335 rfl 0 rfl ?_
                      refine gw_iconst (v := 1) S dc_Law_law_336 (by decide) ?_
                      refine gw_iaddN (a := 5 * k9) (b := 1) S dc_Law_law_337 ?_
                      refine gw_sld S hXs hbl hbA (nI_in (by omega) (by omega)) dc_Law_law_338 ?_
                      obtain ⟨postC, hC, hM⟩ := pr_send l D cA ut9 ed9 k9 x y cw mw ((xs (nI (5 * k9 + 1)).toNatClampNeg)) hk9 hR
                      refine gw_callL (As := [.int (xs (nI (5 * k9 + 1)).toNatClampNeg)]) (st := []) (wr := mw) S hK hA hX hC (fun rm mc ms g1 g2 g3 => cw_Law_46 S.2.2.2.2 g1 g2 g3) hrx rfl rfl rfl rfl (Nat.le_of_ble_eq_true rfl) dc_Law_law_339 (Nat.le_of_ble_eq_true rfl) (Nat.le_of_ble_eq_true rfl) (by show 100 + 16 * k9 + 8 ≤ 600000; omega) (by show 3000 + 404 * k9 + 202 ≤ 7302250; omega) ?_
                      intro v w hp1
                      obtain ⟨u, rfl, postM, hC2, hfin⟩ := hM v w hp1
                      refine gw_eq (ws' := mw ++ w) (lv' := [(3, .int (nI (5 * k9))), (2, .ref y), (1, .ref x), (0, .ref b)]) (st' := [.int u]) (pc' := 342) rfl rfl rfl rfl ?_
                      refine gw_aload_n S dc_Law_law_342 rfl 1 rfl ?_
                      refine gw_aload_n S dc_Law_law_343 rfl 3 rfl ?_
                      refine gw_iload_n S dc_Law_law_344 rfl 0 rfl ?_
                      refine gw_iconst (v := 1) S dc_Law_law_345 (by decide) ?_
                      refine gw_iaddN (a := 5 * k9) (b := 1) S dc_Law_law_346 ?_
                      refine gw_sld S hXs hbl hbA (nI_in (by omega) (by omega)) dc_Law_law_347 ?_
                      obtain ⟨_, ⟨fsy, hry⟩⟩ := lq_recv hR
                      refine gw_callL (As := [.int (xs (nI (5 * k9 + 1)).toNatClampNeg)]) (st := [.int u]) (wr := w) S hK hA hX hC2 (fun rm mc ms g1 g2 g3 => cw_Law_49 S.2.2.2.2 g1 g2 g3) hry rfl rfl rfl rfl (Nat.le_of_ble_eq_true rfl) dc_Law_law_348 (Nat.le_of_ble_eq_true rfl) (Nat.le_of_ble_eq_true rfl) (by show 100 + 16 * k9 + 8 + 8 ≤ 600000; omega) (by show 3000 + 404 * k9 + 202 + 202 ≤ 7302250; omega) ?_
                      intro v' w' hp2
                      obtain ⟨rfl, hR'⟩ := hfin v' w' hp2
                      refine gw_eq (ws' := w ++ w') (lv' := [(3, .int (nI (5 * k9))), (2, .ref y), (1, .ref x), (0, .ref b)]) (st' := [.int u, .int u]) (pc' := 351) rfl rfl rfl rfl ?_
                      refine gw_icmp_eq (tgt := 581) S dc_Law_law_351 (by decide) (fun _ => ?_) (fun q => absurd rfl q)
                      exact hback _ w w' rfl hR'
                    · -- else
                      rcases Classical.em (v9 = 8) with e_8 | e_8
                      · -- case 8
                        refine gw_tableIn (tgt := 356) S dc_Law_law_32 (by rw [e_8]; decide) (by rw [e_8]; decide) (by rw [e_8]; rfl) (by decide) ?_
                        refine gw_aload_n S dc_Law_law_356 rfl 2 rfl ?_
                        refine gw_aload_n S dc_Law_law_357 rfl 3 rfl ?_
                        refine gw_iload_n S dc_Law_law_358 rfl 0 rfl ?_
                        refine gw_iconst (v := 1) S dc_Law_law_359 (by decide) ?_
                        refine gw_iaddN (a := 5 * k9) (b := 1) S dc_Law_law_360 ?_
                        refine gw_sld S hXs hbl hbA (nI_in (by omega) (by omega)) dc_Law_law_361 ?_
                        obtain ⟨postC, hC, hM⟩ := pr_last l D cA ut9 ed9 k9 x y cw mw ((xs (nI (5 * k9 + 1)).toNatClampNeg)) hk9 hR
                        refine gw_callL (As := [.int (xs (nI (5 * k9 + 1)).toNatClampNeg)]) (st := []) (wr := mw) S hK hA hX hC (fun rm mc ms g1 g2 g3 => cw_Law_50 S.2.2.2.2 g1 g2 g3) hrx rfl rfl rfl rfl (Nat.le_of_ble_eq_true rfl) dc_Law_law_362 (Nat.le_of_ble_eq_true rfl) (Nat.le_of_ble_eq_true rfl) (by show 100 + 16 * k9 + 8 ≤ 600000; omega) (by show 3000 + 404 * k9 + 202 ≤ 7302250; omega) ?_
                        intro v w hp1
                        obtain ⟨u, rfl, postM, hC2, hfin⟩ := hM v w hp1
                        refine gw_eq (ws' := mw ++ w) (lv' := [(3, .int (nI (5 * k9))), (2, .ref y), (1, .ref x), (0, .ref b)]) (st' := [.int u]) (pc' := 365) rfl rfl rfl rfl ?_
                        refine gw_aload_n S dc_Law_law_365 rfl 1 rfl ?_
                        refine gw_aload_n S dc_Law_law_366 rfl 3 rfl ?_
                        refine gw_iload_n S dc_Law_law_367 rfl 0 rfl ?_
                        refine gw_iconst (v := 1) S dc_Law_law_368 (by decide) ?_
                        refine gw_iaddN (a := 5 * k9) (b := 1) S dc_Law_law_369 ?_
                        refine gw_sld S hXs hbl hbA (nI_in (by omega) (by omega)) dc_Law_law_370 ?_
                        obtain ⟨_, ⟨fsy, hry⟩⟩ := lq_recv hR
                        refine gw_callL (As := [.int (xs (nI (5 * k9 + 1)).toNatClampNeg)]) (st := [.int u]) (wr := w) S hK hA hX hC2 (fun rm mc ms g1 g2 g3 => cw_Law_53 S.2.2.2.2 g1 g2 g3) hry rfl rfl rfl rfl (Nat.le_of_ble_eq_true rfl) dc_Law_law_371 (Nat.le_of_ble_eq_true rfl) (Nat.le_of_ble_eq_true rfl) (by show 100 + 16 * k9 + 8 + 8 ≤ 600000; omega) (by show 3000 + 404 * k9 + 202 + 202 ≤ 7302250; omega) ?_
                        intro v' w' hp2
                        obtain ⟨rfl, hR'⟩ := hfin v' w' hp2
                        refine gw_eq (ws' := w ++ w') (lv' := [(3, .int (nI (5 * k9))), (2, .ref y), (1, .ref x), (0, .ref b)]) (st' := [.int u, .int u]) (pc' := 374) rfl rfl rfl rfl ?_
                        refine gw_icmp_eq (tgt := 581) S dc_Law_law_374 (by decide) (fun _ => ?_) (fun q => absurd rfl q)
                        exact hback _ w w' rfl hR'
                      · -- else
                        rcases Classical.em (v9 = 9) with e_9 | e_9
                        · -- case 9
                          refine gw_tableIn (tgt := 379) S dc_Law_law_32 (by rw [e_9]; decide) (by rw [e_9]; decide) (by rw [e_9]; rfl) (by decide) ?_
                          refine gw_aload_n S dc_Law_law_379 rfl 2 rfl ?_
                          refine gw_aload_n S dc_Law_law_380 rfl 3 rfl ?_
                          refine gw_iload_n S dc_Law_law_381 rfl 0 rfl ?_
                          refine gw_iconst (v := 1) S dc_Law_law_382 (by decide) ?_
                          refine gw_iaddN (a := 5 * k9) (b := 1) S dc_Law_law_383 ?_
                          refine gw_sld S hXs hbl hbA (nI_in (by omega) (by omega)) dc_Law_law_384 ?_
                          obtain ⟨postC, hC, hM⟩ := pr_data l D cA ut9 ed9 k9 x y cw mw ((xs (nI (5 * k9 + 1)).toNatClampNeg)) hk9 hR
                          refine gw_callL (As := [.int (xs (nI (5 * k9 + 1)).toNatClampNeg)]) (st := []) (wr := mw) S hK hA hX hC (fun rm mc ms g1 g2 g3 => cw_Law_54 S.2.2.2.2 g1 g2 g3) hrx rfl rfl rfl rfl (Nat.le_of_ble_eq_true rfl) dc_Law_law_385 (Nat.le_of_ble_eq_true rfl) (Nat.le_of_ble_eq_true rfl) (by show 100 + 16 * k9 + 8 ≤ 600000; omega) (by show 3000 + 404 * k9 + 202 ≤ 7302250; omega) ?_
                          intro v w hp1
                          obtain ⟨u, rfl, postM, hC2, hfin⟩ := hM v w hp1
                          refine gw_eq (ws' := mw ++ w) (lv' := [(3, .int (nI (5 * k9))), (2, .ref y), (1, .ref x), (0, .ref b)]) (st' := [.int u]) (pc' := 388) rfl rfl rfl rfl ?_
                          refine gw_aload_n S dc_Law_law_388 rfl 1 rfl ?_
                          refine gw_aload_n S dc_Law_law_389 rfl 3 rfl ?_
                          refine gw_iload_n S dc_Law_law_390 rfl 0 rfl ?_
                          refine gw_iconst (v := 1) S dc_Law_law_391 (by decide) ?_
                          refine gw_iaddN (a := 5 * k9) (b := 1) S dc_Law_law_392 ?_
                          refine gw_sld S hXs hbl hbA (nI_in (by omega) (by omega)) dc_Law_law_393 ?_
                          obtain ⟨_, ⟨fsy, hry⟩⟩ := lq_recv hR
                          refine gw_callL (As := [.int (xs (nI (5 * k9 + 1)).toNatClampNeg)]) (st := [.int u]) (wr := w) S hK hA hX hC2 (fun rm mc ms g1 g2 g3 => cw_Law_57 S.2.2.2.2 g1 g2 g3) hry rfl rfl rfl rfl (Nat.le_of_ble_eq_true rfl) dc_Law_law_394 (Nat.le_of_ble_eq_true rfl) (Nat.le_of_ble_eq_true rfl) (by show 100 + 16 * k9 + 8 + 8 ≤ 600000; omega) (by show 3000 + 404 * k9 + 202 + 202 ≤ 7302250; omega) ?_
                          intro v' w' hp2
                          obtain ⟨rfl, hR'⟩ := hfin v' w' hp2
                          refine gw_eq (ws' := w ++ w') (lv' := [(3, .int (nI (5 * k9))), (2, .ref y), (1, .ref x), (0, .ref b)]) (st' := [.int u, .int u]) (pc' := 397) rfl rfl rfl rfl ?_
                          refine gw_icmp_eq (tgt := 581) S dc_Law_law_397 (by decide) (fun _ => ?_) (fun q => absurd rfl q)
                          exact hback _ w w' rfl hR'
                        · -- else
                          rcases Classical.em (v9 = 10) with e_10 | e_10
                          · -- case 10
                            refine gw_tableIn (tgt := 402) S dc_Law_law_32 (by rw [e_10]; decide) (by rw [e_10]; decide) (by rw [e_10]; rfl) (by decide) ?_
                            refine gw_aload_n S dc_Law_law_402 rfl 2 rfl ?_
                            refine gw_aload_n S dc_Law_law_403 rfl 3 rfl ?_
                            refine gw_iload_n S dc_Law_law_404 rfl 0 rfl ?_
                            refine gw_iconst (v := 1) S dc_Law_law_405 (by decide) ?_
                            refine gw_iaddN (a := 5 * k9) (b := 1) S dc_Law_law_406 ?_
                            refine gw_sld S hXs hbl hbA (nI_in (by omega) (by omega)) dc_Law_law_407 ?_
                            refine gw_aload_n S dc_Law_law_408 rfl 3 rfl ?_
                            refine gw_iload_n S dc_Law_law_409 rfl 0 rfl ?_
                            refine gw_iconst (v := 2) S dc_Law_law_410 (by decide) ?_
                            refine gw_iaddN (a := 5 * k9) (b := 2) S dc_Law_law_411 ?_
                            refine gw_sld S hXs hbl hbA (nI_in (by omega) (by omega)) dc_Law_law_412 ?_
                            obtain ⟨postC, hC, hM⟩ := pr_card l D cA ut9 ed9 k9 x y cw mw ((xs (nI (5 * k9 + 1)).toNatClampNeg)) ((xs (nI (5 * k9 + 2)).toNatClampNeg)) hk9 hR
                            refine gw_callL (As := [.int (xs (nI (5 * k9 + 1)).toNatClampNeg), .int (xs (nI (5 * k9 + 2)).toNatClampNeg)]) (st := []) (wr := mw) S hK hA hX hC (fun rm mc ms g1 g2 g3 => cw_Law_58 S.2.2.2.2 g1 g2 g3) hrx rfl rfl rfl rfl (Nat.le_of_ble_eq_true rfl) dc_Law_law_413 (Nat.le_of_ble_eq_true rfl) (Nat.le_of_ble_eq_true rfl) (by show 100 + 16 * k9 + 8 ≤ 600000; omega) (by show 3000 + 404 * k9 + 202 ≤ 7302250; omega) ?_
                            intro v w hp1
                            obtain ⟨u, rfl, postM, hC2, hfin⟩ := hM v w hp1
                            refine gw_eq (ws' := mw ++ w) (lv' := [(3, .int (nI (5 * k9))), (2, .ref y), (1, .ref x), (0, .ref b)]) (st' := [.int u]) (pc' := 416) rfl rfl rfl rfl ?_
                            refine gw_aload_n S dc_Law_law_416 rfl 1 rfl ?_
                            refine gw_aload_n S dc_Law_law_417 rfl 3 rfl ?_
                            refine gw_iload_n S dc_Law_law_418 rfl 0 rfl ?_
                            refine gw_iconst (v := 1) S dc_Law_law_419 (by decide) ?_
                            refine gw_iaddN (a := 5 * k9) (b := 1) S dc_Law_law_420 ?_
                            refine gw_sld S hXs hbl hbA (nI_in (by omega) (by omega)) dc_Law_law_421 ?_
                            refine gw_aload_n S dc_Law_law_422 rfl 3 rfl ?_
                            refine gw_iload_n S dc_Law_law_423 rfl 0 rfl ?_
                            refine gw_iconst (v := 2) S dc_Law_law_424 (by decide) ?_
                            refine gw_iaddN (a := 5 * k9) (b := 2) S dc_Law_law_425 ?_
                            refine gw_sld S hXs hbl hbA (nI_in (by omega) (by omega)) dc_Law_law_426 ?_
                            obtain ⟨_, ⟨fsy, hry⟩⟩ := lq_recv hR
                            refine gw_callL (As := [.int (xs (nI (5 * k9 + 1)).toNatClampNeg), .int (xs (nI (5 * k9 + 2)).toNatClampNeg)]) (st := [.int u]) (wr := w) S hK hA hX hC2 (fun rm mc ms g1 g2 g3 => cw_Law_61 S.2.2.2.2 g1 g2 g3) hry rfl rfl rfl rfl (Nat.le_of_ble_eq_true rfl) dc_Law_law_427 (Nat.le_of_ble_eq_true rfl) (Nat.le_of_ble_eq_true rfl) (by show 100 + 16 * k9 + 8 + 8 ≤ 600000; omega) (by show 3000 + 404 * k9 + 202 + 202 ≤ 7302250; omega) ?_
                            intro v' w' hp2
                            obtain ⟨rfl, hR'⟩ := hfin v' w' hp2
                            refine gw_eq (ws' := w ++ w') (lv' := [(3, .int (nI (5 * k9))), (2, .ref y), (1, .ref x), (0, .ref b)]) (st' := [.int u, .int u]) (pc' := 430) rfl rfl rfl rfl ?_
                            refine gw_icmp_eq (tgt := 581) S dc_Law_law_430 (by decide) (fun _ => ?_) (fun q => absurd rfl q)
                            exact hback _ w w' rfl hR'
                          · -- else
                            rcases Classical.em (v9 = 11) with e_11 | e_11
                            · -- case 11
                              refine gw_tableIn (tgt := 435) S dc_Law_law_32 (by rw [e_11]; decide) (by rw [e_11]; decide) (by rw [e_11]; rfl) (by decide) ?_
                              refine gw_aload_n S dc_Law_law_435 rfl 2 rfl ?_
                              refine gw_aload_n S dc_Law_law_436 rfl 3 rfl ?_
                              refine gw_iload_n S dc_Law_law_437 rfl 0 rfl ?_
                              refine gw_iconst (v := 1) S dc_Law_law_438 (by decide) ?_
                              refine gw_iaddN (a := 5 * k9) (b := 1) S dc_Law_law_439 ?_
                              refine gw_sld S hXs hbl hbA (nI_in (by omega) (by omega)) dc_Law_law_440 ?_
                              refine gw_aload_n S dc_Law_law_441 rfl 3 rfl ?_
                              refine gw_iload_n S dc_Law_law_442 rfl 0 rfl ?_
                              refine gw_iconst (v := 2) S dc_Law_law_443 (by decide) ?_
                              refine gw_iaddN (a := 5 * k9) (b := 2) S dc_Law_law_444 ?_
                              refine gw_sld S hXs hbl hbA (nI_in (by omega) (by omega)) dc_Law_law_445 ?_
                              refine gw_aload_n S dc_Law_law_446 rfl 3 rfl ?_
                              refine gw_iload_n S dc_Law_law_447 rfl 0 rfl ?_
                              refine gw_iconst (v := 3) S dc_Law_law_448 (by decide) ?_
                              refine gw_iaddN (a := 5 * k9) (b := 3) S dc_Law_law_449 ?_
                              refine gw_sld S hXs hbl hbA (nI_in (by omega) (by omega)) dc_Law_law_450 ?_
                              obtain ⟨postC, hC, hM⟩ := pr_value l D cA ut9 ed9 k9 x y cw mw ((xs (nI (5 * k9 + 1)).toNatClampNeg)) ((xs (nI (5 * k9 + 2)).toNatClampNeg)) ((xs (nI (5 * k9 + 3)).toNatClampNeg)) hk9 hR
                              refine gw_callL (As := [.int (xs (nI (5 * k9 + 1)).toNatClampNeg), .int (xs (nI (5 * k9 + 2)).toNatClampNeg), .int (xs (nI (5 * k9 + 3)).toNatClampNeg)]) (st := []) (wr := mw) S hK hA hX hC (fun rm mc ms g1 g2 g3 => cw_Law_62 S.2.2.2.2 g1 g2 g3) hrx rfl rfl rfl rfl (Nat.le_of_ble_eq_true rfl) dc_Law_law_451 (Nat.le_of_ble_eq_true rfl) (Nat.le_of_ble_eq_true rfl) (by show 100 + 16 * k9 + 8 ≤ 600000; omega) (by show 3000 + 404 * k9 + 202 ≤ 7302250; omega) ?_
                              intro v w hp1
                              obtain ⟨u, rfl, postM, hC2, hfin⟩ := hM v w hp1
                              refine gw_eq (ws' := mw ++ w) (lv' := [(3, .int (nI (5 * k9))), (2, .ref y), (1, .ref x), (0, .ref b)]) (st' := [.int u]) (pc' := 454) rfl rfl rfl rfl ?_
                              refine gw_aload_n S dc_Law_law_454 rfl 1 rfl ?_
                              refine gw_aload_n S dc_Law_law_455 rfl 3 rfl ?_
                              refine gw_iload_n S dc_Law_law_456 rfl 0 rfl ?_
                              refine gw_iconst (v := 1) S dc_Law_law_457 (by decide) ?_
                              refine gw_iaddN (a := 5 * k9) (b := 1) S dc_Law_law_458 ?_
                              refine gw_sld S hXs hbl hbA (nI_in (by omega) (by omega)) dc_Law_law_459 ?_
                              refine gw_aload_n S dc_Law_law_460 rfl 3 rfl ?_
                              refine gw_iload_n S dc_Law_law_461 rfl 0 rfl ?_
                              refine gw_iconst (v := 2) S dc_Law_law_462 (by decide) ?_
                              refine gw_iaddN (a := 5 * k9) (b := 2) S dc_Law_law_463 ?_
                              refine gw_sld S hXs hbl hbA (nI_in (by omega) (by omega)) dc_Law_law_464 ?_
                              refine gw_aload_n S dc_Law_law_465 rfl 3 rfl ?_
                              refine gw_iload_n S dc_Law_law_466 rfl 0 rfl ?_
                              refine gw_iconst (v := 3) S dc_Law_law_467 (by decide) ?_
                              refine gw_iaddN (a := 5 * k9) (b := 3) S dc_Law_law_468 ?_
                              refine gw_sld S hXs hbl hbA (nI_in (by omega) (by omega)) dc_Law_law_469 ?_
                              obtain ⟨_, ⟨fsy, hry⟩⟩ := lq_recv hR
                              refine gw_callL (As := [.int (xs (nI (5 * k9 + 1)).toNatClampNeg), .int (xs (nI (5 * k9 + 2)).toNatClampNeg), .int (xs (nI (5 * k9 + 3)).toNatClampNeg)]) (st := [.int u]) (wr := w) S hK hA hX hC2 (fun rm mc ms g1 g2 g3 => cw_Law_65 S.2.2.2.2 g1 g2 g3) hry rfl rfl rfl rfl (Nat.le_of_ble_eq_true rfl) dc_Law_law_470 (Nat.le_of_ble_eq_true rfl) (Nat.le_of_ble_eq_true rfl) (by show 100 + 16 * k9 + 8 + 8 ≤ 600000; omega) (by show 3000 + 404 * k9 + 202 + 202 ≤ 7302250; omega) ?_
                              intro v' w' hp2
                              obtain ⟨rfl, hR'⟩ := hfin v' w' hp2
                              refine gw_eq (ws' := w ++ w') (lv' := [(3, .int (nI (5 * k9))), (2, .ref y), (1, .ref x), (0, .ref b)]) (st' := [.int u, .int u]) (pc' := 473) rfl rfl rfl rfl ?_
                              refine gw_icmp_eq (tgt := 581) S dc_Law_law_473 (by decide) (fun _ => ?_) (fun q => absurd rfl q)
                              exact hback _ w w' rfl hR'
                            · -- else
                              rcases Classical.em (v9 = 12) with e_12 | e_12
                              · -- case 12
                                refine gw_tableIn (tgt := 478) S dc_Law_law_32 (by rw [e_12]; decide) (by rw [e_12]; decide) (by rw [e_12]; rfl) (by decide) ?_
                                refine gw_aload_n S dc_Law_law_478 rfl 2 rfl ?_
                                refine gw_aload_n S dc_Law_law_479 rfl 3 rfl ?_
                                refine gw_iload_n S dc_Law_law_480 rfl 0 rfl ?_
                                refine gw_iconst (v := 1) S dc_Law_law_481 (by decide) ?_
                                refine gw_iaddN (a := 5 * k9) (b := 1) S dc_Law_law_482 ?_
                                refine gw_sld S hXs hbl hbA (nI_in (by omega) (by omega)) dc_Law_law_483 ?_
                                refine gw_aload_n S dc_Law_law_484 rfl 3 rfl ?_
                                refine gw_iload_n S dc_Law_law_485 rfl 0 rfl ?_
                                refine gw_iconst (v := 2) S dc_Law_law_486 (by decide) ?_
                                refine gw_iaddN (a := 5 * k9) (b := 2) S dc_Law_law_487 ?_
                                refine gw_sld S hXs hbl hbA (nI_in (by omega) (by omega)) dc_Law_law_488 ?_
                                obtain ⟨postC, hC, hM⟩ := pr_inside l D cA ut9 ed9 k9 x y cw mw ((xs (nI (5 * k9 + 1)).toNatClampNeg)) ((xs (nI (5 * k9 + 2)).toNatClampNeg)) hk9 hR
                                refine gw_callL (As := [.int (xs (nI (5 * k9 + 1)).toNatClampNeg), .int (xs (nI (5 * k9 + 2)).toNatClampNeg)]) (st := []) (wr := mw) S hK hA hX hC (fun rm mc ms g1 g2 g3 => cw_Law_66 S.2.2.2.2 g1 g2 g3) hrx rfl rfl rfl rfl (Nat.le_of_ble_eq_true rfl) dc_Law_law_489 (Nat.le_of_ble_eq_true rfl) (Nat.le_of_ble_eq_true rfl) (by show 100 + 16 * k9 + 8 ≤ 600000; omega) (by show 3000 + 404 * k9 + 202 ≤ 7302250; omega) ?_
                                intro v w hp1
                                obtain ⟨u, rfl, postM, hC2, hfin⟩ := hM v w hp1
                                refine gw_eq (ws' := mw ++ w) (lv' := [(3, .int (nI (5 * k9))), (2, .ref y), (1, .ref x), (0, .ref b)]) (st' := [.int u]) (pc' := 492) rfl rfl rfl rfl ?_
                                refine gw_aload_n S dc_Law_law_492 rfl 1 rfl ?_
                                refine gw_aload_n S dc_Law_law_493 rfl 3 rfl ?_
                                refine gw_iload_n S dc_Law_law_494 rfl 0 rfl ?_
                                refine gw_iconst (v := 1) S dc_Law_law_495 (by decide) ?_
                                refine gw_iaddN (a := 5 * k9) (b := 1) S dc_Law_law_496 ?_
                                refine gw_sld S hXs hbl hbA (nI_in (by omega) (by omega)) dc_Law_law_497 ?_
                                refine gw_aload_n S dc_Law_law_498 rfl 3 rfl ?_
                                refine gw_iload_n S dc_Law_law_499 rfl 0 rfl ?_
                                refine gw_iconst (v := 2) S dc_Law_law_500 (by decide) ?_
                                refine gw_iaddN (a := 5 * k9) (b := 2) S dc_Law_law_501 ?_
                                refine gw_sld S hXs hbl hbA (nI_in (by omega) (by omega)) dc_Law_law_502 ?_
                                obtain ⟨_, ⟨fsy, hry⟩⟩ := lq_recv hR
                                refine gw_callL (As := [.int (xs (nI (5 * k9 + 1)).toNatClampNeg), .int (xs (nI (5 * k9 + 2)).toNatClampNeg)]) (st := [.int u]) (wr := w) S hK hA hX hC2 (fun rm mc ms g1 g2 g3 => cw_Law_69 S.2.2.2.2 g1 g2 g3) hry rfl rfl rfl rfl (Nat.le_of_ble_eq_true rfl) dc_Law_law_503 (Nat.le_of_ble_eq_true rfl) (Nat.le_of_ble_eq_true rfl) (by show 100 + 16 * k9 + 8 + 8 ≤ 600000; omega) (by show 3000 + 404 * k9 + 202 + 202 ≤ 7302250; omega) ?_
                                intro v' w' hp2
                                obtain ⟨rfl, hR'⟩ := hfin v' w' hp2
                                refine gw_eq (ws' := w ++ w') (lv' := [(3, .int (nI (5 * k9))), (2, .ref y), (1, .ref x), (0, .ref b)]) (st' := [.int u, .int u]) (pc' := 506) rfl rfl rfl rfl ?_
                                refine gw_icmp_eq (tgt := 581) S dc_Law_law_506 (by decide) (fun _ => ?_) (fun q => absurd rfl q)
                                exact hback _ w w' rfl hR'
                              · -- else
                                rcases Classical.em (v9 = 13) with e_13 | e_13
                                · -- case 13
                                  refine gw_tableIn (tgt := 511) S dc_Law_law_32 (by rw [e_13]; decide) (by rw [e_13]; decide) (by rw [e_13]; rfl) (by decide) ?_
                                  refine gw_aload_n S dc_Law_law_511 rfl 2 rfl ?_
                                  refine gw_aload_n S dc_Law_law_512 rfl 3 rfl ?_
                                  refine gw_iload_n S dc_Law_law_513 rfl 0 rfl ?_
                                  refine gw_iconst (v := 1) S dc_Law_law_514 (by decide) ?_
                                  refine gw_iaddN (a := 5 * k9) (b := 1) S dc_Law_law_515 ?_
                                  refine gw_sld S hXs hbl hbA (nI_in (by omega) (by omega)) dc_Law_law_516 ?_
                                  obtain ⟨postC, hC, hM⟩ := pr_balance l D cA ut9 ed9 k9 x y cw mw ((xs (nI (5 * k9 + 1)).toNatClampNeg)) hk9 hR
                                  refine gw_callL (As := [.int (xs (nI (5 * k9 + 1)).toNatClampNeg)]) (st := []) (wr := mw) S hK hA hX hC (fun rm mc ms g1 g2 g3 => cw_Law_70 S.2.2.2.2 g1 g2 g3) hrx rfl rfl rfl rfl (Nat.le_of_ble_eq_true rfl) dc_Law_law_517 (Nat.le_of_ble_eq_true rfl) (Nat.le_of_ble_eq_true rfl) (by show 100 + 16 * k9 + 8 ≤ 600000; omega) (by show 3000 + 404 * k9 + 202 ≤ 7302250; omega) ?_
                                  intro v w hp1
                                  obtain ⟨u, rfl, postM, hC2, hfin⟩ := hM v w hp1
                                  refine gw_eq (ws' := mw ++ w) (lv' := [(3, .int (nI (5 * k9))), (2, .ref y), (1, .ref x), (0, .ref b)]) (st' := [.long u]) (pc' := 520) rfl rfl rfl rfl ?_
                                  refine gw_aload_n S dc_Law_law_520 rfl 1 rfl ?_
                                  refine gw_aload_n S dc_Law_law_521 rfl 3 rfl ?_
                                  refine gw_iload_n S dc_Law_law_522 rfl 0 rfl ?_
                                  refine gw_iconst (v := 1) S dc_Law_law_523 (by decide) ?_
                                  refine gw_iaddN (a := 5 * k9) (b := 1) S dc_Law_law_524 ?_
                                  refine gw_sld S hXs hbl hbA (nI_in (by omega) (by omega)) dc_Law_law_525 ?_
                                  obtain ⟨_, ⟨fsy, hry⟩⟩ := lq_recv hR
                                  refine gw_callL (As := [.int (xs (nI (5 * k9 + 1)).toNatClampNeg)]) (st := [.long u]) (wr := w) S hK hA hX hC2 (fun rm mc ms g1 g2 g3 => cw_Law_74 S.2.2.2.2 g1 g2 g3) hry rfl rfl rfl rfl (Nat.le_of_ble_eq_true rfl) dc_Law_law_526 (Nat.le_of_ble_eq_true rfl) (Nat.le_of_ble_eq_true rfl) (by show 100 + 16 * k9 + 8 + 8 ≤ 600000; omega) (by show 3000 + 404 * k9 + 202 + 202 ≤ 7302250; omega) ?_
                                  intro v' w' hp2
                                  obtain ⟨rfl, hR'⟩ := hfin v' w' hp2
                                  refine gw_eq (ws' := w ++ w') (lv' := [(3, .int (nI (5 * k9))), (2, .ref y), (1, .ref x), (0, .ref b)]) (st' := [.long u, .long u]) (pc' := 529) rfl rfl rfl rfl ?_
                                  refine gw_lcmp S dc_Law_law_529 ?_
                                  refine gw_if_eq (tgt := 581) S dc_Law_law_530 (by decide) (fun _ => ?_) (fun q => absurd (lg_self u) q)
                                  exact hback _ w w' rfl hR'
                                · -- else
                                  rcases Classical.em (v9 = 14) with e_14 | e_14
                                  · -- case 14
                                    refine gw_tableIn (tgt := 535) S dc_Law_law_32 (by rw [e_14]; decide) (by rw [e_14]; decide) (by rw [e_14]; rfl) (by decide) ?_
                                    refine gw_aload_n S dc_Law_law_535 rfl 2 rfl ?_
                                    refine gw_aload_n S dc_Law_law_536 rfl 3 rfl ?_
                                    refine gw_iload_n S dc_Law_law_537 rfl 0 rfl ?_
                                    refine gw_iconst (v := 1) S dc_Law_law_538 (by decide) ?_
                                    refine gw_iaddN (a := 5 * k9) (b := 1) S dc_Law_law_539 ?_
                                    refine gw_sld S hXs hbl hbA (nI_in (by omega) (by omega)) dc_Law_law_540 ?_
                                    obtain ⟨postC, hC, hM⟩ := pr_queued l D cA ut9 ed9 k9 x y cw mw ((xs (nI (5 * k9 + 1)).toNatClampNeg)) hk9 hR
                                    refine gw_callL (As := [.int (xs (nI (5 * k9 + 1)).toNatClampNeg)]) (st := []) (wr := mw) S hK hA hX hC (fun rm mc ms g1 g2 g3 => cw_Law_75 S.2.2.2.2 g1 g2 g3) hrx rfl rfl rfl rfl (Nat.le_of_ble_eq_true rfl) dc_Law_law_541 (Nat.le_of_ble_eq_true rfl) (Nat.le_of_ble_eq_true rfl) (by show 100 + 16 * k9 + 8 ≤ 600000; omega) (by show 3000 + 404 * k9 + 202 ≤ 7302250; omega) ?_
                                    intro v w hp1
                                    obtain ⟨u, rfl, postM, hC2, hfin⟩ := hM v w hp1
                                    refine gw_eq (ws' := mw ++ w) (lv' := [(3, .int (nI (5 * k9))), (2, .ref y), (1, .ref x), (0, .ref b)]) (st' := [.int u]) (pc' := 544) rfl rfl rfl rfl ?_
                                    refine gw_aload_n S dc_Law_law_544 rfl 1 rfl ?_
                                    refine gw_aload_n S dc_Law_law_545 rfl 3 rfl ?_
                                    refine gw_iload_n S dc_Law_law_546 rfl 0 rfl ?_
                                    refine gw_iconst (v := 1) S dc_Law_law_547 (by decide) ?_
                                    refine gw_iaddN (a := 5 * k9) (b := 1) S dc_Law_law_548 ?_
                                    refine gw_sld S hXs hbl hbA (nI_in (by omega) (by omega)) dc_Law_law_549 ?_
                                    obtain ⟨_, ⟨fsy, hry⟩⟩ := lq_recv hR
                                    refine gw_callL (As := [.int (xs (nI (5 * k9 + 1)).toNatClampNeg)]) (st := [.int u]) (wr := w) S hK hA hX hC2 (fun rm mc ms g1 g2 g3 => cw_Law_78 S.2.2.2.2 g1 g2 g3) hry rfl rfl rfl rfl (Nat.le_of_ble_eq_true rfl) dc_Law_law_550 (Nat.le_of_ble_eq_true rfl) (Nat.le_of_ble_eq_true rfl) (by show 100 + 16 * k9 + 8 + 8 ≤ 600000; omega) (by show 3000 + 404 * k9 + 202 + 202 ≤ 7302250; omega) ?_
                                    intro v' w' hp2
                                    obtain ⟨rfl, hR'⟩ := hfin v' w' hp2
                                    refine gw_eq (ws' := w ++ w') (lv' := [(3, .int (nI (5 * k9))), (2, .ref y), (1, .ref x), (0, .ref b)]) (st' := [.int u, .int u]) (pc' := 553) rfl rfl rfl rfl ?_
                                    refine gw_icmp_eq (tgt := 581) S dc_Law_law_553 (by decide) (fun _ => ?_) (fun q => absurd rfl q)
                                    exact hback _ w w' rfl hR'
                                  · -- else
                                    rcases Classical.em (v9 = 15) with e_15 | e_15
                                    · -- case 15
                                      refine gw_tableIn (tgt := 558) S dc_Law_law_32 (by rw [e_15]; decide) (by rw [e_15]; decide) (by rw [e_15]; rfl) (by decide) ?_
                                      refine gw_aload_n S dc_Law_law_558 rfl 2 rfl ?_
                                      refine gw_aload_n S dc_Law_law_559 rfl 3 rfl ?_
                                      refine gw_iload_n S dc_Law_law_560 rfl 0 rfl ?_
                                      refine gw_iconst (v := 1) S dc_Law_law_561 (by decide) ?_
                                      refine gw_iaddN (a := 5 * k9) (b := 1) S dc_Law_law_562 ?_
                                      refine gw_sld S hXs hbl hbA (nI_in (by omega) (by omega)) dc_Law_law_563 ?_
                                      obtain ⟨postC, hC, hM⟩ := pr_count l D cA ut9 ed9 k9 x y cw mw ((xs (nI (5 * k9 + 1)).toNatClampNeg)) hk9 hR
                                      refine gw_callL (As := [.int (xs (nI (5 * k9 + 1)).toNatClampNeg)]) (st := []) (wr := mw) S hK hA hX hC (fun rm mc ms g1 g2 g3 => cw_Law_79 S.2.2.2.2 g1 g2 g3) hrx rfl rfl rfl rfl (Nat.le_of_ble_eq_true rfl) dc_Law_law_564 (Nat.le_of_ble_eq_true rfl) (Nat.le_of_ble_eq_true rfl) (by show 100 + 16 * k9 + 8 ≤ 600000; omega) (by show 3000 + 404 * k9 + 202 ≤ 7302250; omega) ?_
                                      intro v w hp1
                                      obtain ⟨u, rfl, postM, hC2, hfin⟩ := hM v w hp1
                                      refine gw_eq (ws' := mw ++ w) (lv' := [(3, .int (nI (5 * k9))), (2, .ref y), (1, .ref x), (0, .ref b)]) (st' := [.int u]) (pc' := 567) rfl rfl rfl rfl ?_
                                      refine gw_aload_n S dc_Law_law_567 rfl 1 rfl ?_
                                      refine gw_aload_n S dc_Law_law_568 rfl 3 rfl ?_
                                      refine gw_iload_n S dc_Law_law_569 rfl 0 rfl ?_
                                      refine gw_iconst (v := 1) S dc_Law_law_570 (by decide) ?_
                                      refine gw_iaddN (a := 5 * k9) (b := 1) S dc_Law_law_571 ?_
                                      refine gw_sld S hXs hbl hbA (nI_in (by omega) (by omega)) dc_Law_law_572 ?_
                                      obtain ⟨_, ⟨fsy, hry⟩⟩ := lq_recv hR
                                      refine gw_callL (As := [.int (xs (nI (5 * k9 + 1)).toNatClampNeg)]) (st := [.int u]) (wr := w) S hK hA hX hC2 (fun rm mc ms g1 g2 g3 => cw_Law_82 S.2.2.2.2 g1 g2 g3) hry rfl rfl rfl rfl (Nat.le_of_ble_eq_true rfl) dc_Law_law_573 (Nat.le_of_ble_eq_true rfl) (Nat.le_of_ble_eq_true rfl) (by show 100 + 16 * k9 + 8 + 8 ≤ 600000; omega) (by show 3000 + 404 * k9 + 202 + 202 ≤ 7302250; omega) ?_
                                      intro v' w' hp2
                                      obtain ⟨rfl, hR'⟩ := hfin v' w' hp2
                                      refine gw_eq (ws' := w ++ w') (lv' := [(3, .int (nI (5 * k9))), (2, .ref y), (1, .ref x), (0, .ref b)]) (st' := [.int u, .int u]) (pc' := 576) rfl rfl rfl rfl ?_
                                      refine gw_icmp_eq (tgt := 581) S dc_Law_law_576 (by decide) (fun _ => ?_) (fun q => absurd rfl q)
                                      exact hback _ w w' rfl hR'
                                    · -- else
                                      have ne_0 := lv_neT e_0 (a := 0) (by decide)
                                      have ne_1 := lv_neT e_1 (a := 1) (by decide)
                                      have ne_2 := lv_neT e_2 (a := 2) (by decide)
                                      have ne_3 := lv_neT e_3 (a := 3) (by decide)
                                      have ne_4 := lv_neT e_4 (a := 4) (by decide)
                                      have ne_5 := lv_neT e_5 (a := 5) (by decide)
                                      have ne_6 := lv_neT e_6 (a := 6) (by decide)
                                      have ne_7 := lv_neT e_7 (a := 7) (by decide)
                                      have ne_8 := lv_neT e_8 (a := 8) (by decide)
                                      have ne_9 := lv_neT e_9 (a := 9) (by decide)
                                      have ne_10 := lv_neT e_10 (a := 10) (by decide)
                                      have ne_11 := lv_neT e_11 (a := 11) (by decide)
                                      have ne_12 := lv_neT e_12 (a := 12) (by decide)
                                      have ne_13 := lv_neT e_13 (a := 13) (by decide)
                                      have ne_14 := lv_neT e_14 (a := 14) (by decide)
                                      have ne_15 := lv_neT e_15 (a := 15) (by decide)
                                      refine gw_tableOut (tgt := 581) S dc_Law_law_32 (by omega) (by decide) ?_
                                      exact gw_widen (by omega) (by omega) (hback _ cw mw rfl (lq_up hR))
