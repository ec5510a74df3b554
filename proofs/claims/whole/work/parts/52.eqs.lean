theorem stir_eq : f_Mod_stir = f_Mac_grow := rfl
theorem seal_eq : f_Mod_seal = f_Mac_seal := rfl
theorem hf_0 (fl x : Int32) : (f_Pmt_hasFlagIn fl x = 0) ↔ ((fl &&& x) = 0) := by
  unfold f_Pmt_hasFlagIn
  by_cases h : (fl &&& x) = 0
  · rw [if_pos h]; exact ⟨fun _ => h, fun _ => rfl⟩
  · rw [if_neg h]; exact ⟨fun q => absurd q (by decide), fun q => absurd q h⟩
theorem ic_0 (g : Nat → Int32) : (f_Term_isConnected g = 0) ↔ g 2 = 0 := by
  unfold f_Term_isConnected
  by_cases h : g 2 = 0
  · rw [if_pos h]; exact ⟨fun _ => h, fun _ => rfl⟩
  · rw [if_neg h]; exact ⟨fun q => absurd q (by decide), fun q => absurd q h⟩
theorem ib_0 (t : Int32) : (f_Card_isBlocked t = 0) ↔ ¬ t = 0 := by
  unfold f_Card_isBlocked
  by_cases h : t = 0
  · rw [if_pos h]; exact ⟨fun q => absurd q (by decide), fun q => absurd h q⟩
  · rw [if_neg h]; exact ⟨fun _ => h, fun _ => rfl⟩
theorem ar_0 (k x y s : Int32) : (f_Card_acceptsReply k x y s = 0) ↔ ¬ s = f_Mac_seal k x y := by
  unfold f_Card_acceptsReply
  by_cases h : f_Mac_seal k x y = s
  · rw [if_pos h]; exact ⟨fun q => absurd q (by decide), fun q => absurd h.symm q⟩
  · rw [if_neg h]; exact ⟨fun _ q => h q.symm, fun _ => rfl⟩
theorem sh_clamp : Int32.toNatClampNeg 4 = 4 ∧ Int32.toNatClampNeg 5 = 5 ∧ Int32.toNatClampNeg 6 = 6 := ⟨rfl, rfl, rfl⟩
/-- a cryptogram over the first dn bytes of the data -/
def cg_v (dn : Int32) (df : Nat → Int32) (k an ct : Int32) : Int32 := mc_f df (f_Mac_grow (f_Mac_grow (f_Mac_grow k an) (ct / 256 - ct / 256 / 256 * 256)) (ct - ct / 256 * 256)) (Int32.toNatClampNeg dn)
theorem cg_sim {d : Nat} (hd : d ≤ 40) (dt : Nat → Int32) (k an ct m : Int32) : ∀ (q i : Nat), i + q = d → Mod_cryptogram_f (nI d) dt k an ct (q + 1) (i, mc_f dt m i) = mc_f dt m d
  | 0, i, h => by
    have e : i = d := by omega
    subst e
    exact Mod_cryptogram_d (by show (if nI i ≤ nI i then _ else _) = _; rw [if_pos (nI_le (Nat.le_refl _) (by omega))])
  | q + 1, i, h => by
    rw [Mod_cryptogram_n (yy_ := (i + 1, mc_f dt m (i + 1))) (by show (if nI d ≤ nI i then _ else _) = _; rw [if_neg (nI_ge (by omega) (by omega))]; rfl)]
    exact cg_sim hd dt k an ct m q (i + 1) (by omega)
theorem eq_cg {d : Nat} (hd : d ≤ 40) (dt : Nat → Int32) (k an ct : Int32) : Mod_cryptogram_r (nI d) dt k an ct = cg_v (nI d) dt k an ct := by
  unfold Mod_cryptogram_r cg_v
  rw [nI_clamp (by omega)]
  exact cg_sim hd dt k an ct _ d 0 (Nat.zero_add _)
theorem eq_wish (fl : Int32) (M : Nat → Nat) (ar : Nat) (acc : List ob_T) (g : Nat → Int32) : f_Mod_wish fl M ar acc g = f_Pmt_findWish fl (nb_v M ar (fo_s acc 40717) 0) (nb_v M ar (fo_s acc 40718) 0) (nb_v M ar (fo_s acc 40719) 0) g := by
  simp only [f_Mod_wish, f_Pmt_findWish, f_Mod_mask, hf_0, ic_0, sh_clamp.1, sh_clamp.2.1, sh_clamp.2.2]
theorem eq_over (M : Nat → Nat) (ar : Nat) (acc : List ob_T) (run : Nat → Int32) (hu : nb_v M ar (fo_s acc 40739) (-1) = -1 ∨ ¬ nb_v M ar (fo_s acc 40739) (-1) < 0) : f_Mod_over M ar acc run = f_Card_isRunAtUpper (run ar) (nb_v M ar (fo_s acc 40739) (-1)) := by
  unfold f_Mod_over f_Card_isRunAtUpper
  rcases hu with h | h
  · rw [h, if_pos (by decide), if_pos rfl]
  · rw [if_neg h, if_neg (c := nb_v M ar (fo_s acc 40739) (-1) = -1) (fun q => h (by rw [q]; decide))]
theorem eq_alone (fl : Int32) (M : Nat → Nat) (ar : Nat) (acc : List ob_T) (g trs run : Nat → Int32) (hu : nb_v M ar (fo_s acc 40739) (-1) = -1 ∨ ¬ nb_v M ar (fo_s acc 40739) (-1) < 0) : f_Mod_alone fl M ar acc g trs run = f_Pmt_answerAlone fl (trs ar) (run ar) (nb_v M ar (fo_s acc 40717) 0) (nb_v M ar (fo_s acc 40739) (-1)) g := by
  simp only [f_Mod_alone, f_Pmt_answerAlone, f_Mod_mask, hf_0, ib_0, ite_not, sh_clamp.1, eq_over M ar acc run hu]
theorem eq_alone_run (fl : Int32) (M : Nat → Nat) (ar : Nat) (acc : List ob_T) (g trs run : Nat → Int32) (hu : nb_v M ar (fo_s acc 40739) (-1) = -1 ∨ ¬ nb_v M ar (fo_s acc 40739) (-1) < 0) : f_Mod_alone_5 fl M ar acc g trs run = upd run ar (f_Pmt_answerAlone_run fl (trs ar) (run ar) (nb_v M ar (fo_s acc 40717) 0) (nb_v M ar (fo_s acc 40739) (-1)) g) := by
  simp only [f_Mod_alone_5, f_Pmt_answerAlone_run, f_Mod_mask, hf_0, ib_0, ite_not, sh_clamp.1, eq_over M ar acc run hu]
  split
  · split
    · rw [upd_self]
    · split
      · rfl
      · rw [upd_self]
  · rw [upd_self]
theorem win_8 {a9 : Nat} (h : a9 < 8) : ¬ f_PC_isWithin (nI a9) 0 7 = 0 := by
  unfold f_PC_isWithin
  rw [if_neg (nI_pos (by omega)), if_neg (show ¬ (7 : Int32) < nI a9 from nI_nlt (a := 7) (b := a9) (by omega) (by decide))]
  decide
theorem se_of {a9 : Nat} (h : a9 < 8) (k : Nat → Int32) (x y : Int32) : f_Host_sealOf k (nI a9) x y = f_Mac_seal (k a9) x y := by
  unfold f_Host_sealOf
  rw [if_neg (win_8 h), nI_clamp (by omega)]
theorem eq_reply {a9 : Nat} (h : a9 < 8) (ar : Nat) (kys ak lst : Nat → Int32) : f_Mod_replied ar a9 kys ak lst = f_Pmt_answerReply (lst 4) (lst 7) (kys ar) (nI a9) ak := by
  unfold f_Mod_replied f_Pmt_answerReply
  rw [se_of h, seal_eq]
  by_cases c : f_Mac_seal (ak a9) (lst 7) (lst 4) = f_Mac_seal (kys ar) (lst 7) (lst 4)
  · rw [if_pos c, if_neg (fun q => (ar_0 _ _ _ _).mp q c)]
  · rw [if_neg c, if_pos ((ar_0 _ _ _ _).mpr c)]
theorem eq_reply_flags {a9 : Nat} (h : a9 < 8) (fl : Int32) (ar : Nat) (kys ak lst : Nat → Int32) : f_Mod_replied_flags fl ar a9 kys ak lst = f_Pmt_answerReply_flags fl (lst 4) (lst 7) (kys ar) (nI a9) ak := by
  unfold f_Mod_replied_flags f_Pmt_answerReply_flags
  rw [se_of h, seal_eq]
  by_cases c : f_Mac_seal (ak a9) (lst 7) (lst 4) = f_Mac_seal (kys ar) (lst 7) (lst 4)
  · rw [if_pos c, if_neg (fun q => (ar_0 _ _ _ _).mp q c)]
  · rw [if_neg c, if_pos ((ar_0 _ _ _ _).mpr c)]
theorem eq_reply_run {a9 : Nat} (h : a9 < 8) (ar : Nat) (kys ak lst run : Nat → Int32) : f_Mod_replied_6 ar a9 kys ak lst run = upd run ar (f_Pmt_answerReply_run (lst 4) (lst 7) (kys ar) (run ar) (nI a9) ak) := by
  unfold f_Mod_replied_6 f_Pmt_answerReply_run f_Card_acceptsReply_run
  rw [se_of h, seal_eq]
  by_cases c : f_Mac_seal (ak a9) (lst 7) (lst 4) = f_Mac_seal (kys ar) (lst 7) (lst 4)
  · rw [if_pos c, if_pos c.symm]
  · rw [if_neg c, if_neg (fun q => c q.symm), upd_self]
theorem eq_reply_seen {a9 : Nat} (h : a9 < 8) (ar : Nat) (kys ak lst see : Nat → Int32) : f_Mod_replied_7 ar a9 kys ak lst see = upd see ar (f_Pmt_answerReply_seen (lst 4) (lst 7) (kys ar) (see ar) (nI a9) ak) := by
  unfold f_Mod_replied_7 f_Pmt_answerReply_seen f_Card_acceptsReply_seen
  rw [se_of h, seal_eq]
  by_cases c : f_Mac_seal (ak a9) (lst 7) (lst 4) = f_Mac_seal (kys ar) (lst 7) (lst 4)
  · rw [if_pos c, if_pos c.symm]; rfl
  · rw [if_neg c, if_neg (fun q => c q.symm), upd_self]
theorem hr_0 (fa : Int32) (g : Nat → Int32) : (f_Pmt_hasReply fa g = 0) ↔ (g 2 = 0 ∨ fa = 1 ∨ fa = 2) := by
  unfold f_Pmt_hasReply
  by_cases h : g 2 = 0
  · rw [if_pos ((ic_0 g).mpr h)]; exact ⟨fun _ => Or.inl h, fun _ => rfl⟩
  · rw [if_neg (fun q => h ((ic_0 g).mp q))]
    by_cases h1 : fa = 1
    · rw [if_pos h1]; exact ⟨fun _ => Or.inr (Or.inl h1), fun _ => rfl⟩
    · rw [if_neg h1]
      by_cases h2 : fa = 2
      · rw [if_pos h2]; exact ⟨fun _ => Or.inr (Or.inr h2), fun _ => rfl⟩
      · rw [if_neg h2]; exact ⟨fun q => absurd q (by decide), fun q => by rcases q with q | q | q <;> contradiction⟩
theorem lc_0 (x y : Int32) : (0 ≤ lg_cmp x.toInt64 y.toInt64) ↔ y ≤ x := by
  unfold lg_cmp
  rw [Int32.le_iff_toInt_le (x := y) (y := x)]
  have ex : x.toInt64.toInt = x.toInt := Int32.toInt_toInt64 x
  have ey : y.toInt64.toInt = y.toInt := Int32.toInt_toInt64 y
  by_cases h : x.toInt64 > y.toInt64
  · rw [if_pos h]
    have h' : y.toInt64 < x.toInt64 := h
    rw [Int64.lt_iff_toInt_lt, ex, ey] at h'
    exact ⟨fun _ => by omega, fun _ => by decide⟩
  · rw [if_neg h]
    have h' : ¬ y.toInt64 < x.toInt64 := h
    rw [Int64.lt_iff_toInt_lt, ex, ey] at h'
    by_cases e : x.toInt64 = y.toInt64
    · rw [if_pos e]
      have := congrArg Int64.toInt e
      rw [ex, ey] at this
      exact ⟨fun _ => by omega, fun _ => by decide⟩
    · rw [if_neg e]
      refine ⟨fun q => absurd q (by decide), fun q => ?_⟩
      refine absurd (Int64.toInt_inj.mp ?_) e
      rw [ex, ey]; omega
theorem cg_u (dn : Int32) (df : Nat → Int32) (k an ct : Int32) : mc_f df (f_Mac_grow (f_Mac_grow (f_Mac_grow k an) (ct / 256 - ct / 256 / 256 * 256)) (ct - ct / 256 * 256)) (Int32.toNatClampNeg dn) = cg_v dn df k an ct := rfl
theorem eq_host {a9 d : Nat} (h : a9 < 8) (hd : d ≤ 40) (ar : Nat) (dt cou bal ak lt : Nat → Int32) (y w : Int32) (b : Nat → Int64) (hb : b a9 = (bal a9).toInt64) : f_Mod_host (nI d) ar a9 dt cou bal ak lt y w = f_Host_judge b ak lt (nI d) dt (nI a9) (cou ar) w y := by
  unfold f_Mod_host f_Host_judge
  rw [if_neg (win_8 h), eq_cg hd, cg_u, nI_clamp (n := a9) (by omega), hb]
  by_cases c : w = cg_v (nI d) dt (ak a9) 1 (cou ar)
  · rw [if_pos c, if_pos c.symm]
    by_cases c2 : lt a9 < cou ar
    · rw [if_pos c2, if_pos c2]
      by_cases c3 : y ≤ bal a9
      · rw [if_pos c3, if_pos ((lc_0 _ _).mpr c3)]
      · rw [if_neg c3, if_neg (fun q => c3 ((lc_0 _ _).mp q))]
    · rw [if_neg c2, if_neg c2]
  · rw [if_neg c, if_neg (fun q => c q.symm)]
theorem eq_host_7 {a9 d : Nat} (h : a9 < 8) (hd : d ≤ 40) (ar : Nat) (dt cou ak lt : Nat → Int32) (w : Int32) : f_Mod_host_7 (nI d) ar a9 dt cou ak lt w = f_Host_judge_3 ak lt (nI d) dt (nI a9) (cou ar) w := by
  unfold f_Mod_host_7 f_Host_judge_3
  rw [if_neg (win_8 h), eq_cg hd, cg_u, nI_clamp (n := a9) (by omega)]
  by_cases c : w = cg_v (nI d) dt (ak a9) 1 (cou ar)
  · rw [if_pos c, if_pos c.symm]
  · rw [if_neg c, if_neg (fun q => c q.symm)]
theorem sub_64 {x y : Int32} (h0 : 0 ≤ y.toInt) (h : y.toInt ≤ x.toInt) : x.toInt64 - y.toInt64 = (x - y).toInt64 := by
  have l1 := Int32.toInt_lt x
  have l2 := Int32.toInt_lt y
  have e : (x - y).toInt = x.toInt - y.toInt := by
    rw [Int32.toInt_sub]
    exact Int.bmod_eq_of_le (by omega) (by omega)
  refine Int64.toInt_inj.mp ?_
  rw [Int32.toInt_toInt64, e, Int64.toInt_sub, Int32.toInt_toInt64, Int32.toInt_toInt64]
  exact Int.bmod_eq_of_le (by omega) (by omega)
theorem eq_host_5 {a9 d : Nat} (h : a9 < 8) (hd : d ≤ 40) (ar : Nat) (dt cou bal ak lt : Nat → Int32) (y w : Int32) (b : Nat → Int64) (hb : ∀ j, j < 8 → b j = (bal j).toInt64) (hy : 0 ≤ y.toInt) : ∀ j, j < 8 → f_Host_judge_1 b ak lt (nI d) dt (nI a9) (cou ar) w y j = (f_Mod_host_5 (nI d) ar a9 dt cou bal ak lt y w j).toInt64 := by
  intro j hj
  unfold f_Mod_host_5 f_Host_judge_1
  rw [if_neg (win_8 h), eq_cg hd, cg_u, nI_clamp (n := a9) (by omega), hb a9 h]
  by_cases c : w = cg_v (nI d) dt (ak a9) 1 (cou ar)
  · rw [if_pos c, if_pos c.symm]
    by_cases c2 : lt a9 < cou ar
    · rw [if_pos c2, if_pos c2]
      by_cases c3 : y ≤ bal a9
      · rw [if_pos c3, if_pos ((lc_0 _ _).mpr c3)]
        show (if j = a9 then _ else _) = (if j = a9 then _ else _ : Int32).toInt64
        by_cases e : j = a9
        · rw [if_pos e, if_pos e, sub_64 hy (Int32.le_iff_toInt_le.mp c3)]
        · rw [if_neg e, if_neg e, hb j hj]
      · rw [if_neg c3, if_neg (fun q => c3 ((lc_0 _ _).mp q)), hb j hj]
    · rw [if_neg c2, if_neg c2, hb j hj]
  · rw [if_neg c, if_neg (fun q => c q.symm), hb j hj]
