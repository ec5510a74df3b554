theorem py_on {M : Nat → Nat} {ar a9 d1 c p1 : Nat} {acc : List ob_T} {g kys trs cou run see bal k la que l1 dt1 la9 : Nat → Int32} {b b9 : Nat → Int64} {F2 a2 a4 fc tr AC MD UP oc fl s2 sc co rn sn nr ct ky : Int32} (h : a9 < 8) (hd : d1 ≤ 40) (hc : c < 2 ^ 31) (hb : ∀ j, j < 8 → b j = (bal j).toInt64) (hup : nb_v M ar (fo_s acc 40739) (-1) = -1 ∨ ¬ nb_v M ar (fo_s acc 40739) (-1) < 0) (hy : 0 ≤ a2.toInt) (e4 : l1 4 = fc) (e5 : l1 5 = -1) (e6 : l1 6 = 0) (e7 : l1 7 = 0) (etr : trs ar = tr) (ect : cou ar = ct) (eky : kys ar = ky) (eac : AC = nI a9) (emd : nb_v M ar (fo_s acc 40717) 0 = MD) (eup : nb_v M ar (fo_s acc 40739) (-1) = UP)
    (hoc : f_Pmt_askHost_outcome a2 a4 F2 fc 0 ky tr ct (run ar) AC MD UP g b k la (nI d1) dt1 = oc) (hfl : f_Pmt_askHost_flags a2 a4 F2 fc 0 ky ct AC g b k la (nI d1) dt1 = fl) (hs2 : f_Pmt_askHost_secondAnswer a2 a4 F2 fc (-1) 0 ky tr ct (run ar) AC MD UP g b k la (nI d1) dt1 = s2) (hsc : f_Pmt_askHost_secondCryptogram a2 a4 F2 fc 0 0 ky tr ct (run ar) AC MD UP g b k la (nI d1) dt1 = sc) (hco : f_Pmt_askHost_code a2 a4 fc 0 ct AC g b k la (nI d1) dt1 = co) (hrn : f_Pmt_askHost_run a2 a4 F2 fc 0 ky tr ct (run ar) AC MD UP g b k la (nI d1) dt1 = rn) (hsn : f_Pmt_askHost_seen a2 a4 fc 0 ky ct (see ar) AC g b k la (nI d1) dt1 = sn) (hb9 : f_Pmt_askHost_5 a2 a4 fc ct AC g b k la (nI d1) dt1 = b9) (hla : f_Pmt_askHost_7 a4 fc ct AC g k la (nI d1) dt1 = la9) (hnr : f_Pmt_needsReversal a4 oc 1 co g = nr) :
    f_Mod_online (nI d1) F2 M ar acc a9 g kys trs cou run bal k la l1 dt1 a2 a4 = oc ∧ f_Mod_online_flags (nI d1) F2 ar a9 g kys cou bal k la l1 dt1 a2 a4 = fl ∧ f_Mod_online_7 (nI d1) F2 M ar acc a9 g kys trs cou run bal k la l1 dt1 a2 a4 = upd run ar rn ∧ f_Mod_online_8 (nI d1) ar a9 g kys cou see bal k la l1 dt1 a2 a4 = upd see ar sn ∧ (∀ j, j < 8 → b9 j = (f_Mod_online_9 (nI d1) ar a9 g cou bal k la l1 dt1 a2 a4 j).toInt64) ∧ f_Mod_online_11 (nI d1) ar a9 g cou k la l1 dt1 a4 = la9 ∧ f_Mod_online_13 (nI d1) F2 M ar acc a9 g kys trs cou run bal k la l1 dt1 a2 a4 = upd (upd (upd l1 7 co) 5 s2) 6 sc ∧ f_Mod_online_queued (nI c) (nI d1) ar a9 g kys cou bal k la l1 dt1 a2 a4 = (if nr = 0 then nI c else nI c + 1) ∧ f_Mod_online_12 (nI p1) (nI c) (nI d1) ar a9 g kys cou bal k la que l1 dt1 a2 a4 = (if nr = 0 then que else upd que c (nI p1)) := by
  subst etr; subst ect; subst eky; subst eac; subst emd; subst eup; subst e4
  have hb' := hb a9 h
  have x1 := eq_on h hd F2 M ar acc g kys trs cou run see bal k la que l1 dt1 a2 a4 (nI p1) (nI c) b hb' hup
  have x2 := eq_on_flags h hd F2 M ar acc g kys trs cou run see bal k la que l1 dt1 a2 a4 (nI p1) (nI c) b hb' hup
  have x3 := eq_on_run h hd F2 M ar acc g kys trs cou run see bal k la que l1 dt1 a2 a4 (nI p1) (nI c) b hb' hup
  have x4 := eq_on_seen h hd F2 M ar acc g kys trs cou run see bal k la que l1 dt1 a2 a4 (nI p1) (nI c) b hb' hup
  have x5 := eq_on_lt h hd F2 M ar acc g kys trs cou run see bal k la que l1 dt1 a2 a4 (nI p1) (nI c) b hb' hup
  have x6 := eq_on_13 h hd F2 M ar acc g kys trs cou run see bal k la que l1 dt1 a2 a4 (nI p1) (nI c) b hb' hup
  have x7 := eq_on_need h hd F2 M ar acc g kys trs cou run see bal k la que l1 dt1 a2 a4 (nI p1) (nI c) b hb' hup
  have x8 := eq_on_que h hd F2 M ar acc g kys trs cou run see bal k la que l1 dt1 a2 a4 (nI p1) (nI c) b hb' hup
  rw [e7, hoc] at x1
  rw [e7, hfl] at x2
  rw [e7, hrn] at x3
  rw [e7, hsn] at x4
  rw [hla] at x5
  rw [e7, e5, e6, hco, hs2, hsc] at x6
  rw [e7, hoc, hco, hnr] at x7
  rw [e7, hoc, hco, hnr, nI_clamp hc] at x8
  refine ⟨x1, x2, x3, x4, fun j hj => ?_, x5, x6, x7, x8⟩
  rw [← hb9]
  unfold f_Pmt_askHost_5 f_Mod_online_9
  by_cases c2 : g 2 = 0
  · rw [if_pos ((ic_0 g).mpr c2), if_pos c2]; exact hb j hj
  · rw [if_neg (fun q => c2 ((ic_0 g).mp q)), if_neg c2]
    by_cases c1 : a4 = 1
    · rw [if_pos c1, if_pos c1]; exact hb j hj
    · rw [if_neg c1, if_neg c1]
      exact eq_host_5 h hd ar dt1 cou bal k la a2 (l1 4) b hb hy j hj
theorem on_bb {ar a9 d1 k9 : Nat} {g cou bal k la l1 dt1 : Nat → Int32} {a2 a4 : Int32} (h : a9 < 8) (hy : 0 ≤ a2.toInt) (hbb : ∀ j, j < 8 → 0 ≤ (bal j).toInt ∧ (bal j).toInt ≤ 9999999 + 999999 * (k9 : Int)) : ∀ j, j < 8 → 0 ≤ (f_Mod_online_9 (nI d1) ar a9 g cou bal k la l1 dt1 a2 a4 j).toInt ∧ (f_Mod_online_9 (nI d1) ar a9 g cou bal k la l1 dt1 a2 a4 j).toInt ≤ 9999999 + 999999 * ((k9 + 1 : Nat) : Int) := by
  intro j hj
  have hj' := hbb j hj
  have ha' := hbb a9 h
  unfold f_Mod_online_9 f_Mod_host_5
  split
  · omega
  · split
    · omega
    · split
      · split
        · split
          · rename_i c3
            show 0 ≤ (if j = a9 then bal a9 - a2 else bal j).toInt ∧ (if j = a9 then bal a9 - a2 else bal j).toInt ≤ _
            by_cases e : j = a9
            · rw [if_pos e]
              have c4 := Int32.le_iff_toInt_le.mp c3
              have l1 := Int32.toInt_lt (bal a9)
              have e1 : (bal a9 - a2).toInt = (bal a9).toInt - a2.toInt := by
                rw [Int32.toInt_sub]
                exact Int.bmod_eq_of_le (by omega) (by omega)
              rw [e1]
              omega
            · rw [if_neg e]; omega
          · omega
        · omega
      · omega
theorem w_am {x : Int32} (h : ¬ f_PC_isWithin x 1 999999 = 0) : 0 ≤ x.toInt ∧ x.toInt ≤ 999999 := by
  unfold f_PC_isWithin at h
  by_cases c : x < 1
  · rw [if_pos c] at h; exact absurd rfl h
  · rw [if_neg c] at h
    by_cases d : 999999 < x
    · rw [if_pos d] at h; exact absurd rfl h
    · rw [Int32.lt_iff_toInt_lt] at c d
      have e1 : Int32.toInt 1 = 1 := by decide
      have e2 : Int32.toInt 999999 = 999999 := by decide
      omega
theorem w_pin {x : Int32} (h : ¬ f_PC_isWithin x (-1) 9999 = 0) : x = -1 ∨ 0 ≤ x := by
  unfold f_PC_isWithin at h
  by_cases c : x < -1
  · rw [if_pos c] at h; exact absurd rfl h
  · rw [Int32.lt_iff_toInt_lt] at c
    have e1 : Int32.toInt (-1) = -1 := by decide
    have e0 : Int32.toInt 0 = 0 := by decide
    by_cases d : 0 ≤ x.toInt
    · refine Or.inr ?_
      rw [Int32.le_iff_toInt_le, e0]; exact d
    · refine Or.inl (Int32.toInt_inj.mp ?_)
      rw [e1]; omega
theorem qu_same {cA : Nat → ClassId} {ed9 hq c p : Nat} {Q V : va_W} {que pac pam pcd pbk : Nat → Int32} (x y w : Int32) (h : qu_I cA ed9 hq c p Q V que pac pam pcd pbk) : qu_I cA ed9 hq c (p + 1) Q V que (upd pac (p + 1) x) (upd pam (p + 1) y) (upd pcd (p + 1) w) pbk := by
  obtain ⟨L, G, h1, h2, h3, h4, h5, h6⟩ := h
  have ne : ∀ (f : Nat → Int32) (v : Int32) (j : Nat), j ≤ p → upd f (p + 1) v j = f j := fun f v j hj => by unfold upd; rw [if_neg (by omega)]
  refine ⟨L, G, h1, h2, ?_, fun i r hi => ?_, h5, h6⟩
  · rw [h3]
    congr 1
    apply List.map_congr_left
    intro r hr
    obtain ⟨i, hi⟩ := List.getElem?_of_mem hr
    have := (h4 i r hi).2.2.2.2.1
    unfold rv_c du_v
    rw [ne pam y _ this, ne pcd w _ this]
  · obtain ⟨g1, g2, g3, g4, g5, g6, g7⟩ := h4 i r hi
    rw [ne pac x _ g5, ne pam y _ g5]
    exact ⟨g1, g2, g3, g4, by omega, g6, g7⟩
theorem du_new {pcd pbk : Nat → Int32} {p : Nat} {co : Int32} (h : pbk (p + 1) = 0) : du_v (upd pcd (p + 1) co) pbk (p + 1) = f_Rev_init_isDue co := by
  unfold du_v f_Rev_init_isDue
  have e : upd pcd (p + 1) co (p + 1) = co := by unfold upd; rw [if_pos rfl]
  rw [e, h]
  by_cases c : co = 1
  · rw [if_pos ⟨c, rfl⟩, if_pos c]
  · rw [if_neg (fun q => c q.1), if_neg c]
/-- one more in the queue -/
theorem qu_more {cA : Nat → ClassId} {ed9 hq hq' c p a9 qv : Nat} {Q Q' V : va_W} {que pac pam pcd pbk : Nat → Int32} {y w : Int32} {fq' : Nat → Option Nat} (h : qu_I cA ed9 hq c p Q V que pac pam pcd pbk) (hc : c < 6) (ha : a9 < 8) (hb : pbk (p + 1) = 0) (h0 : 0 ≤ y.toInt) (h9 : y.toInt ≤ 999999) (hQ' : Q' = [(hq', .inl (cA 4, 10, .inr (.inr (.inr (.inr fq')))))]) (hf : fq' c = some qv) (hfo : ∀ (L : List (Nat × Nat × Nat)) (G : va_W), L.length = c → V = L.map (rv_c pam pcd pbk) ++ G → ((hq = ed9 ∧ Q = [] ∧ c = 0) ∨ ∃ fq : Nat → Option Nat, Q = [(hq, .inl (cA 4, 10, .inr (.inr (.inr (.inr fq)))))] ∧ ∀ i r, L[i]? = some r → fq i = some r.1) → ∀ i r, L[i]? = some r → fq' i = some r.1) : ∃ V', qu_I cA ed9 hq' (c + 1) (p + 1) Q' V' (upd que c (nI (p + 1))) (upd pac (p + 1) (nI a9)) (upd pam (p + 1) y) (upd pcd (p + 1) w) pbk ∧ (V ++ ([(qv, .inr (6, [.int (nI (p + 1)), .int (nI a9), .int y, .int (f_Rev_init_isDue w)]))] : va_W)).Perm V' := by
  have hs := qu_same (nI a9) y w h
  obtain ⟨L0, G0, k1, k2, k3, k4, k5, k6⟩ := h
  obtain ⟨L, G, h1, h2, h3, h4, h5, h6⟩ := hs
  have at1 : ∀ (f : Nat → Int32) (v : Int32), upd f (p + 1) v (p + 1) = v := fun f v => by unfold upd; rw [if_pos rfl]
  have ne : ∀ (f : Nat → Int32) (v : Int32) (j : Nat), j ≤ p → upd f (p + 1) v j = f j := fun f v j hj => by unfold upd; rw [if_neg (by omega)]
  have ne2 : ∀ (f : Nat → Int32) (v : Int32) (j : Nat), ¬ j = c → upd f c v j = f j := fun f v j hj => by unfold upd; rw [if_neg hj]
  have hle : ∀ r ∈ L0, r.2.1 ≤ p := fun r hr => by
    obtain ⟨i, hi⟩ := List.getElem?_of_mem hr
    exact (k4 i r hi).2.2.2.2.1
  have hmap : L0.map (rv_c (upd pam (p + 1) y) (upd pcd (p + 1) w) pbk) = L0.map (rv_c pam pcd pbk) := by
    apply List.map_congr_left
    intro r hr
    have := hle r hr
    unfold rv_c du_v
    rw [ne pam y _ this, ne pcd w _ this]
  refine ⟨(L0 ++ [(qv, p + 1, a9)]).map (rv_c (upd pam (p + 1) y) (upd pcd (p + 1) w) pbk) ++ G0, ⟨L0 ++ [(qv, p + 1, a9)], G0, by rw [List.length_append, k1]; rfl, by omega, rfl, fun i r hi => ?_, ?_, Or.inr ⟨fq', hQ', fun i r hi => ?_⟩⟩, ?_⟩
  · rcases Nat.lt_or_ge i L0.length with q | q
    · rw [List.getElem?_append_left q] at hi
      obtain ⟨g1, g2, g3, g4, g5, g6, g7⟩ := k4 i r hi
      rw [ne2 que _ i (by omega), ne pac _ _ g5, ne pam _ _ g5]
      exact ⟨g1, g2, g3, g4, by omega, g6, g7⟩
    · rw [List.getElem?_append_right q] at hi
      have hi0 : i - L0.length = 0 := by
        rcases Nat.eq_zero_or_pos (i - L0.length) with e | e
        · exact e
        · rw [List.getElem?_eq_none (by show 1 ≤ _; omega)] at hi; cases hi
      rw [hi0] at hi
      cases hi
      have ei : i = c := by omega
      rw [ei]
      refine ⟨?_, at1 pac _, ha, Nat.succ_le_succ (Nat.zero_le p), Nat.le_refl _, ?_, ?_⟩
      · show upd que c (nI (p + 1)) c = _; unfold upd; rw [if_pos rfl]
      · rw [at1 pam]; exact h0
      · rw [at1 pam]; exact h9
  · rw [List.pairwise_append]
    refine ⟨k5, List.pairwise_singleton _ _, fun a ha b hb => ?_⟩
    rw [List.mem_singleton.mp hb]
    show a.2.1 < p + 1
    have := hle a ha
    omega
  · rcases Nat.lt_or_ge i L0.length with q | q
    · rw [List.getElem?_append_left q] at hi
      exact hfo L0 G0 k1 k3 k6 i r hi
    · rw [List.getElem?_append_right q] at hi
      have hi0 : i - L0.length = 0 := by
        rcases Nat.eq_zero_or_pos (i - L0.length) with e | e
        · exact e
        · rw [List.getElem?_eq_none (by show 1 ≤ _; omega)] at hi; cases hi
      rw [hi0] at hi
      cases hi
      have ei : i = c := by omega
      rw [ei]; exact hf
  · rw [List.map_append, hmap, k3, List.append_assoc, List.append_assoc]
    refine List.Perm.append_left _ ?_
    have e : rv_c (upd pam (p + 1) y) (upd pcd (p + 1) w) pbk (qv, p + 1, a9) = (qv, .inr (6, [.int (nI (p + 1)), .int (nI a9), .int y, .int (f_Rev_init_isDue w)])) := by
      unfold rv_c
      rw [at1 pam, du_new hb]
    show (G0 ++ [_]).Perm ([rv_c (upd pam (p + 1) y) (upd pcd (p + 1) w) pbk (qv, p + 1, a9)] ++ G0)
    rw [e]
    exact List.perm_append_comm
