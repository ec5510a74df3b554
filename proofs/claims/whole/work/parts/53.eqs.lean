theorem u7_7 (f : Nat → Int32) (v : Int32) : (upd f 7 v) 7 = v := rfl
theorem u7_4 (f : Nat → Int32) (v : Int32) : (upd f 7 v) 4 = f 4 := rfl
theorem u567 (f : Nat → Int32) (v x z : Int32) : (upd (upd (upd f 7 v) 5 x) 6 z) 7 = v := rfl
theorem us5 (f : Nat → Int32) (v : Int32) : upd (upd f 7 v) 5 (f 5) = upd f 7 v := upd_self (upd f 7 v) 5
theorem us6 (f : Nat → Int32) (v : Int32) : upd (upd f 7 v) 6 (f 6) = upd f 7 v := upd_self (upd f 7 v) 6
theorem i32_10 : ¬ (1 : Int32) = 0 := by decide
theorem i32_12 : ¬ (1 : Int32) = 2 := by decide
theorem i32_13 : ¬ (1 : Int32) = 3 := by decide
theorem i32_21 : ¬ (2 : Int32) = 1 := by decide
theorem i32_23 : ¬ (2 : Int32) = 3 := by decide
theorem i32_31 : ¬ (3 : Int32) = 1 := by decide
theorem i32_32 : ¬ (3 : Int32) = 2 := by decide
theorem eq_on {a9 d : Nat} (h : a9 < 8) (hd : d ≤ 40) (fl : Int32) (M : Nat → Nat) (ar : Nat) (acc : List ob_T) (g kys trs cou run see bal ak lt que lst dt : Nat → Int32) (y w py qd : Int32) (b : Nat → Int64) (hb : b a9 = (bal a9).toInt64) (hu : nb_v M ar (fo_s acc 40739) (-1) = -1 ∨ ¬ nb_v M ar (fo_s acc 40739) (-1) < 0) : f_Mod_online (nI d) fl M ar acc a9 g kys trs cou run bal ak lt lst dt y w = f_Pmt_askHost_outcome y w fl (lst 4) (lst 7) (kys ar) (trs ar) (cou ar) (run ar) (nI a9) (nb_v M ar (fo_s acc 40717) 0) (nb_v M ar (fo_s acc 40739) (-1)) g b ak lt (nI d) dt := by
  unfold f_Mod_online f_Pmt_askHost_outcome
  simp only [eq_alone fl M ar acc g trs run hu, eq_alone_run fl M ar acc g trs run hu, eq_reply h, eq_reply_flags h, eq_reply_run h, eq_reply_seen h, eq_host h hd ar dt cou bal ak lt y (lst 4) b hb, eq_host_7 h hd, eq_cg hd, cg_u, u7_7, u7_4, u567, ic_0, hr_0]
  by_cases c0 : g 2 = 0
  · by_cases c3 : w = 3
    · simp only [c0, c3, if_true, true_or, upd_self, us5, us6, ite_self]
    · simp only [c0, c3, if_true, if_false, true_or, upd_self, us5, us6, ite_self]
  · by_cases c1 : w = 1
    · subst c1; simp only [c0, if_true, if_false, upd_self, us5, us6, ite_self, true_or, or_true, or_false, false_or, i32_12, i32_13, i32_21, i32_23, i32_31, i32_32]
    · by_cases c2 : w = 2
      · subst c2; simp only [c0, if_true, if_false, upd_self, us5, us6, ite_self, true_or, or_true, or_false, false_or, i32_12, i32_13, i32_21, i32_23, i32_31, i32_32]
      · by_cases c3 : w = 3
        · subst c3; simp only [c0, if_true, if_false, upd_self, us5, us6, ite_self, true_or, or_true, or_false, false_or, i32_12, i32_13, i32_21, i32_23, i32_31, i32_32]
        · simp only [c0, c1, c2, c3, if_true, if_false, upd_self, us5, us6, ite_self, true_or, or_true, or_false, false_or]
theorem eq_on_flags {a9 d : Nat} (h : a9 < 8) (hd : d ≤ 40) (fl : Int32) (M : Nat → Nat) (ar : Nat) (acc : List ob_T) (g kys trs cou run see bal ak lt que lst dt : Nat → Int32) (y w py qd : Int32) (b : Nat → Int64) (hb : b a9 = (bal a9).toInt64) (hu : nb_v M ar (fo_s acc 40739) (-1) = -1 ∨ ¬ nb_v M ar (fo_s acc 40739) (-1) < 0) : f_Mod_online_flags (nI d) fl ar a9 g kys cou bal ak lt lst dt y w = f_Pmt_askHost_flags y w fl (lst 4) (lst 7) (kys ar) (cou ar) (nI a9) g b ak lt (nI d) dt := by
  unfold f_Mod_online_flags f_Pmt_askHost_flags
  simp only [eq_alone fl M ar acc g trs run hu, eq_alone_run fl M ar acc g trs run hu, eq_reply h, eq_reply_flags h, eq_reply_run h, eq_reply_seen h, eq_host h hd ar dt cou bal ak lt y (lst 4) b hb, eq_host_7 h hd, eq_cg hd, cg_u, u7_7, u7_4, u567, ic_0, hr_0]
  by_cases c0 : g 2 = 0
  · by_cases c3 : w = 3
    · simp only [c0, c3, if_true, true_or, upd_self, us5, us6, ite_self]
    · simp only [c0, c3, if_true, if_false, true_or, upd_self, us5, us6, ite_self]
  · by_cases c1 : w = 1
    · subst c1; simp only [c0, if_true, if_false, upd_self, us5, us6, ite_self, true_or, or_true, or_false, false_or, i32_12, i32_13, i32_21, i32_23, i32_31, i32_32]
    · by_cases c2 : w = 2
      · subst c2; simp only [c0, if_true, if_false, upd_self, us5, us6, ite_self, true_or, or_true, or_false, false_or, i32_12, i32_13, i32_21, i32_23, i32_31, i32_32]
      · by_cases c3 : w = 3
        · subst c3; simp only [c0, if_true, if_false, upd_self, us5, us6, ite_self, true_or, or_true, or_false, false_or, i32_12, i32_13, i32_21, i32_23, i32_31, i32_32]
        · simp only [c0, c1, c2, c3, if_true, if_false, upd_self, us5, us6, ite_self, true_or, or_true, or_false, false_or]
theorem eq_on_run {a9 d : Nat} (h : a9 < 8) (hd : d ≤ 40) (fl : Int32) (M : Nat → Nat) (ar : Nat) (acc : List ob_T) (g kys trs cou run see bal ak lt que lst dt : Nat → Int32) (y w py qd : Int32) (b : Nat → Int64) (hb : b a9 = (bal a9).toInt64) (hu : nb_v M ar (fo_s acc 40739) (-1) = -1 ∨ ¬ nb_v M ar (fo_s acc 40739) (-1) < 0) : f_Mod_online_7 (nI d) fl M ar acc a9 g kys trs cou run bal ak lt lst dt y w = upd run ar (f_Pmt_askHost_run y w fl (lst 4) (lst 7) (kys ar) (trs ar) (cou ar) (run ar) (nI a9) (nb_v M ar (fo_s acc 40717) 0) (nb_v M ar (fo_s acc 40739) (-1)) g b ak lt (nI d) dt) := by
  unfold f_Mod_online_7 f_Pmt_askHost_run
  simp only [eq_alone fl M ar acc g trs run hu, eq_alone_run fl M ar acc g trs run hu, eq_reply h, eq_reply_flags h, eq_reply_run h, eq_reply_seen h, eq_host h hd ar dt cou bal ak lt y (lst 4) b hb, eq_host_7 h hd, eq_cg hd, cg_u, u7_7, u7_4, u567, ic_0, hr_0]
  by_cases c0 : g 2 = 0
  · by_cases c3 : w = 3
    · simp only [c0, c3, if_true, true_or, upd_self, us5, us6, ite_self]
    · simp only [c0, c3, if_true, if_false, true_or, upd_self, us5, us6, ite_self]
  · by_cases c1 : w = 1
    · subst c1; simp only [c0, if_true, if_false, upd_self, us5, us6, ite_self, true_or, or_true, or_false, false_or, i32_12, i32_13, i32_21, i32_23, i32_31, i32_32]
    · by_cases c2 : w = 2
      · subst c2; simp only [c0, if_true, if_false, upd_self, us5, us6, ite_self, true_or, or_true, or_false, false_or, i32_12, i32_13, i32_21, i32_23, i32_31, i32_32]
      · by_cases c3 : w = 3
        · subst c3; simp only [c0, if_true, if_false, upd_self, us5, us6, ite_self, true_or, or_true, or_false, false_or, i32_12, i32_13, i32_21, i32_23, i32_31, i32_32]
        · simp only [c0, c1, c2, c3, if_true, if_false, upd_self, us5, us6, ite_self, true_or, or_true, or_false, false_or]
theorem eq_on_seen {a9 d : Nat} (h : a9 < 8) (hd : d ≤ 40) (fl : Int32) (M : Nat → Nat) (ar : Nat) (acc : List ob_T) (g kys trs cou run see bal ak lt que lst dt : Nat → Int32) (y w py qd : Int32) (b : Nat → Int64) (hb : b a9 = (bal a9).toInt64) (hu : nb_v M ar (fo_s acc 40739) (-1) = -1 ∨ ¬ nb_v M ar (fo_s acc 40739) (-1) < 0) : f_Mod_online_8 (nI d) ar a9 g kys cou see bal ak lt lst dt y w = upd see ar (f_Pmt_askHost_seen y w (lst 4) (lst 7) (kys ar) (cou ar) (see ar) (nI a9) g b ak lt (nI d) dt) := by
  unfold f_Mod_online_8 f_Pmt_askHost_seen
  simp only [eq_alone fl M ar acc g trs run hu, eq_alone_run fl M ar acc g trs run hu, eq_reply h, eq_reply_flags h, eq_reply_run h, eq_reply_seen h, eq_host h hd ar dt cou bal ak lt y (lst 4) b hb, eq_host_7 h hd, eq_cg hd, cg_u, u7_7, u7_4, u567, ic_0, hr_0]
  by_cases c0 : g 2 = 0
  · by_cases c3 : w = 3
    · simp only [c0, c3, if_true, true_or, upd_self, us5, us6, ite_self]
    · simp only [c0, c3, if_true, if_false, true_or, upd_self, us5, us6, ite_self]
  · by_cases c1 : w = 1
    · subst c1; simp only [c0, if_true, if_false, upd_self, us5, us6, ite_self, true_or, or_true, or_false, false_or, i32_12, i32_13, i32_21, i32_23, i32_31, i32_32]
    · by_cases c2 : w = 2
      · subst c2; simp only [c0, if_true, if_false, upd_self, us5, us6, ite_self, true_or, or_true, or_false, false_or, i32_12, i32_13, i32_21, i32_23, i32_31, i32_32]
      · by_cases c3 : w = 3
        · subst c3; simp only [c0, if_true, if_false, upd_self, us5, us6, ite_self, true_or, or_true, or_false, false_or, i32_12, i32_13, i32_21, i32_23, i32_31, i32_32]
        · simp only [c0, c1, c2, c3, if_true, if_false, upd_self, us5, us6, ite_self, true_or, or_true, or_false, false_or]
theorem eq_on_lt {a9 d : Nat} (h : a9 < 8) (hd : d ≤ 40) (fl : Int32) (M : Nat → Nat) (ar : Nat) (acc : List ob_T) (g kys trs cou run see bal ak lt que lst dt : Nat → Int32) (y w py qd : Int32) (b : Nat → Int64) (hb : b a9 = (bal a9).toInt64) (hu : nb_v M ar (fo_s acc 40739) (-1) = -1 ∨ ¬ nb_v M ar (fo_s acc 40739) (-1) < 0) : f_Mod_online_11 (nI d) ar a9 g cou ak lt lst dt w = f_Pmt_askHost_7 w (lst 4) (cou ar) (nI a9) g ak lt (nI d) dt := by
  unfold f_Mod_online_11 f_Pmt_askHost_7
  simp only [eq_alone fl M ar acc g trs run hu, eq_alone_run fl M ar acc g trs run hu, eq_reply h, eq_reply_flags h, eq_reply_run h, eq_reply_seen h, eq_host h hd ar dt cou bal ak lt y (lst 4) b hb, eq_host_7 h hd, eq_cg hd, cg_u, u7_7, u7_4, u567, ic_0, hr_0]
theorem eq_on_13 {a9 d : Nat} (h : a9 < 8) (hd : d ≤ 40) (fl : Int32) (M : Nat → Nat) (ar : Nat) (acc : List ob_T) (g kys trs cou run see bal ak lt que lst dt : Nat → Int32) (y w py qd : Int32) (b : Nat → Int64) (hb : b a9 = (bal a9).toInt64) (hu : nb_v M ar (fo_s acc 40739) (-1) = -1 ∨ ¬ nb_v M ar (fo_s acc 40739) (-1) < 0) : f_Mod_online_13 (nI d) fl M ar acc a9 g kys trs cou run bal ak lt lst dt y w = upd (upd (upd lst 7 (f_Pmt_askHost_code y w (lst 4) (lst 7) (cou ar) (nI a9) g b ak lt (nI d) dt)) 5 (f_Pmt_askHost_secondAnswer y w fl (lst 4) (lst 5) (lst 7) (kys ar) (trs ar) (cou ar) (run ar) (nI a9) (nb_v M ar (fo_s acc 40717) 0) (nb_v M ar (fo_s acc 40739) (-1)) g b ak lt (nI d) dt)) 6 (f_Pmt_askHost_secondCryptogram y w fl (lst 4) (lst 6) (lst 7) (kys ar) (trs ar) (cou ar) (run ar) (nI a9) (nb_v M ar (fo_s acc 40717) 0) (nb_v M ar (fo_s acc 40739) (-1)) g b ak lt (nI d) dt) := by
  unfold f_Mod_online_13 f_Pmt_askHost_code f_Pmt_askHost_secondAnswer f_Pmt_askHost_secondCryptogram
  simp only [eq_alone fl M ar acc g trs run hu, eq_alone_run fl M ar acc g trs run hu, eq_reply h, eq_reply_flags h, eq_reply_run h, eq_reply_seen h, eq_host h hd ar dt cou bal ak lt y (lst 4) b hb, eq_host_7 h hd, eq_cg hd, cg_u, u7_7, u7_4, u567, ic_0, hr_0]
  by_cases c0 : g 2 = 0
  · by_cases c3 : w = 3
    · simp only [c0, c3, if_true, true_or, upd_self, us5, us6, ite_self]
    · simp only [c0, c3, if_true, if_false, true_or, upd_self, us5, us6, ite_self]
  · by_cases c1 : w = 1
    · subst c1; simp only [c0, if_true, if_false, upd_self, us5, us6, ite_self, true_or, or_true, or_false, false_or, i32_12, i32_13, i32_21, i32_23, i32_31, i32_32]
    · by_cases c2 : w = 2
      · subst c2; simp only [c0, if_true, if_false, upd_self, us5, us6, ite_self, true_or, or_true, or_false, false_or, i32_12, i32_13, i32_21, i32_23, i32_31, i32_32]
      · by_cases c3 : w = 3
        · subst c3; simp only [c0, if_true, if_false, upd_self, us5, us6, ite_self, true_or, or_true, or_false, false_or, i32_12, i32_13, i32_21, i32_23, i32_31, i32_32]
        · simp only [c0, c1, c2, c3, if_true, if_false, upd_self, us5, us6, ite_self, true_or, or_true, or_false, false_or]
theorem eq_on_need {a9 d : Nat} (h : a9 < 8) (hd : d ≤ 40) (fl : Int32) (M : Nat → Nat) (ar : Nat) (acc : List ob_T) (g kys trs cou run see bal ak lt que lst dt : Nat → Int32) (y w py qd : Int32) (b : Nat → Int64) (hb : b a9 = (bal a9).toInt64) (hu : nb_v M ar (fo_s acc 40739) (-1) = -1 ∨ ¬ nb_v M ar (fo_s acc 40739) (-1) < 0) : f_Mod_online_queued qd (nI d) ar a9 g kys cou bal ak lt lst dt y w = if f_Pmt_needsReversal w (f_Pmt_askHost_outcome y w fl (lst 4) (lst 7) (kys ar) (trs ar) (cou ar) (run ar) (nI a9) (nb_v M ar (fo_s acc 40717) 0) (nb_v M ar (fo_s acc 40739) (-1)) g b ak lt (nI d) dt) 1 (f_Pmt_askHost_code y w (lst 4) (lst 7) (cou ar) (nI a9) g b ak lt (nI d) dt) g = 0 then qd else qd + 1 := by
  unfold f_Mod_online_queued f_Pmt_needsReversal f_Pmt_askHost_code f_Pmt_askHost_outcome
  simp only [eq_alone fl M ar acc g trs run hu, eq_alone_run fl M ar acc g trs run hu, eq_reply h, eq_reply_flags h, eq_reply_run h, eq_reply_seen h, eq_host h hd ar dt cou bal ak lt y (lst 4) b hb, eq_host_7 h hd, eq_cg hd, cg_u, u7_7, u7_4, u567, ic_0, hr_0]
  by_cases c0 : g 2 = 0
  · by_cases c3 : w = 3
    · simp only [c0, c3, if_true, true_or, upd_self, us5, us6, ite_self] <;> (generalize f_Pmt_answerReply (lst 4) (f_Host_judge b ak lt (nI d) dt (nI a9) (cou ar) (lst 4) y) (kys ar) (nI a9) ak = rv; generalize f_Host_judge b ak lt (nI d) dt (nI a9) (cou ar) (lst 4) y = jv; by_cases j1 : jv = 1 <;> by_cases r2 : rv = 2 <;> first | rfl | simp only [j1, r2, if_true, if_false, i32_21, i32_10] | (simp only [j1, r2, if_true, if_false, i32_21, i32_10]; rfl))
    · simp only [c0, c3, if_true, if_false, true_or, upd_self, us5, us6, ite_self] <;> (generalize f_Pmt_answerReply (lst 4) (f_Host_judge b ak lt (nI d) dt (nI a9) (cou ar) (lst 4) y) (kys ar) (nI a9) ak = rv; generalize f_Host_judge b ak lt (nI d) dt (nI a9) (cou ar) (lst 4) y = jv; by_cases j1 : jv = 1 <;> by_cases r2 : rv = 2 <;> first | rfl | simp only [j1, r2, if_true, if_false, i32_21, i32_10] | (simp only [j1, r2, if_true, if_false, i32_21, i32_10]; rfl))
  · by_cases c1 : w = 1
    · subst c1; simp only [c0, if_true, if_false, upd_self, us5, us6, ite_self, true_or, or_true, or_false, false_or, i32_12, i32_13, i32_21, i32_23, i32_31, i32_32] <;> (generalize f_Pmt_answerReply (lst 4) (f_Host_judge b ak lt (nI d) dt (nI a9) (cou ar) (lst 4) y) (kys ar) (nI a9) ak = rv; generalize f_Host_judge b ak lt (nI d) dt (nI a9) (cou ar) (lst 4) y = jv; by_cases j1 : jv = 1 <;> by_cases r2 : rv = 2 <;> first | rfl | simp only [j1, r2, if_true, if_false, i32_21, i32_10] | (simp only [j1, r2, if_true, if_false, i32_21, i32_10]; rfl))
    · by_cases c2 : w = 2
      · subst c2; simp only [c0, if_true, if_false, upd_self, us5, us6, ite_self, true_or, or_true, or_false, false_or, i32_12, i32_13, i32_21, i32_23, i32_31, i32_32] <;> (generalize f_Pmt_answerReply (lst 4) (f_Host_judge b ak lt (nI d) dt (nI a9) (cou ar) (lst 4) y) (kys ar) (nI a9) ak = rv; generalize f_Host_judge b ak lt (nI d) dt (nI a9) (cou ar) (lst 4) y = jv; by_cases j1 : jv = 1 <;> by_cases r2 : rv = 2 <;> first | rfl | simp only [j1, r2, if_true, if_false, i32_21, i32_10] | (simp only [j1, r2, if_true, if_false, i32_21, i32_10]; rfl))
      · by_cases c3 : w = 3
        · subst c3; simp only [c0, if_true, if_false, upd_self, us5, us6, ite_self, true_or, or_true, or_false, false_or, i32_12, i32_13, i32_21, i32_23, i32_31, i32_32] <;> (generalize f_Pmt_answerReply (lst 4) (f_Host_judge b ak lt (nI d) dt (nI a9) (cou ar) (lst 4) y) (kys ar) (nI a9) ak = rv; generalize f_Host_judge b ak lt (nI d) dt (nI a9) (cou ar) (lst 4) y = jv; by_cases j1 : jv = 1 <;> by_cases r2 : rv = 2 <;> first | rfl | simp only [j1, r2, if_true, if_false, i32_21, i32_10] | (simp only [j1, r2, if_true, if_false, i32_21, i32_10]; rfl))
        · simp only [c0, c1, c2, c3, if_true, if_false, upd_self, us5, us6, ite_self, true_or, or_true, or_false, false_or] <;> (generalize f_Pmt_answerReply (lst 4) (f_Host_judge b ak lt (nI d) dt (nI a9) (cou ar) (lst 4) y) (kys ar) (nI a9) ak = rv; generalize f_Host_judge b ak lt (nI d) dt (nI a9) (cou ar) (lst 4) y = jv; by_cases j1 : jv = 1 <;> by_cases r2 : rv = 2 <;> first | rfl | simp only [j1, r2, if_true, if_false, i32_21, i32_10] | (simp only [j1, r2, if_true, if_false, i32_21, i32_10]; rfl))
theorem eq_on_que {a9 d : Nat} (h : a9 < 8) (hd : d ≤ 40) (fl : Int32) (M : Nat → Nat) (ar : Nat) (acc : List ob_T) (g kys trs cou run see bal ak lt que lst dt : Nat → Int32) (y w py qd : Int32) (b : Nat → Int64) (hb : b a9 = (bal a9).toInt64) (hu : nb_v M ar (fo_s acc 40739) (-1) = -1 ∨ ¬ nb_v M ar (fo_s acc 40739) (-1) < 0) : f_Mod_online_12 py qd (nI d) ar a9 g kys cou bal ak lt que lst dt y w = if f_Pmt_needsReversal w (f_Pmt_askHost_outcome y w fl (lst 4) (lst 7) (kys ar) (trs ar) (cou ar) (run ar) (nI a9) (nb_v M ar (fo_s acc 40717) 0) (nb_v M ar (fo_s acc 40739) (-1)) g b ak lt (nI d) dt) 1 (f_Pmt_askHost_code y w (lst 4) (lst 7) (cou ar) (nI a9) g b ak lt (nI d) dt) g = 0 then que else upd que (Int32.toNatClampNeg qd) py := by
  unfold f_Mod_online_12 f_Pmt_needsReversal f_Pmt_askHost_code f_Pmt_askHost_outcome
  simp only [eq_alone fl M ar acc g trs run hu, eq_alone_run fl M ar acc g trs run hu, eq_reply h, eq_reply_flags h, eq_reply_run h, eq_reply_seen h, eq_host h hd ar dt cou bal ak lt y (lst 4) b hb, eq_host_7 h hd, eq_cg hd, cg_u, u7_7, u7_4, u567, ic_0, hr_0]
  by_cases c0 : g 2 = 0
  · by_cases c3 : w = 3
    · simp only [c0, c3, if_true, true_or, upd_self, us5, us6, ite_self] <;> (generalize f_Pmt_answerReply (lst 4) (f_Host_judge b ak lt (nI d) dt (nI a9) (cou ar) (lst 4) y) (kys ar) (nI a9) ak = rv; generalize f_Host_judge b ak lt (nI d) dt (nI a9) (cou ar) (lst 4) y = jv; by_cases j1 : jv = 1 <;> by_cases r2 : rv = 2 <;> first | rfl | simp only [j1, r2, if_true, if_false, i32_21, i32_10] | (simp only [j1, r2, if_true, if_false, i32_21, i32_10]; rfl))
    · simp only [c0, c3, if_true, if_false, true_or, upd_self, us5, us6, ite_self] <;> (generalize f_Pmt_answerReply (lst 4) (f_Host_judge b ak lt (nI d) dt (nI a9) (cou ar) (lst 4) y) (kys ar) (nI a9) ak = rv; generalize f_Host_judge b ak lt (nI d) dt (nI a9) (cou ar) (lst 4) y = jv; by_cases j1 : jv = 1 <;> by_cases r2 : rv = 2 <;> first | rfl | simp only [j1, r2, if_true, if_false, i32_21, i32_10] | (simp only [j1, r2, if_true, if_false, i32_21, i32_10]; rfl))
  · by_cases c1 : w = 1
    · subst c1; simp only [c0, if_true, if_false, upd_self, us5, us6, ite_self, true_or, or_true, or_false, false_or, i32_12, i32_13, i32_21, i32_23, i32_31, i32_32] <;> (generalize f_Pmt_answerReply (lst 4) (f_Host_judge b ak lt (nI d) dt (nI a9) (cou ar) (lst 4) y) (kys ar) (nI a9) ak = rv; generalize f_Host_judge b ak lt (nI d) dt (nI a9) (cou ar) (lst 4) y = jv; by_cases j1 : jv = 1 <;> by_cases r2 : rv = 2 <;> first | rfl | simp only [j1, r2, if_true, if_false, i32_21, i32_10] | (simp only [j1, r2, if_true, if_false, i32_21, i32_10]; rfl))
    · by_cases c2 : w = 2
      · subst c2; simp only [c0, if_true, if_false, upd_self, us5, us6, ite_self, true_or, or_true, or_false, false_or, i32_12, i32_13, i32_21, i32_23, i32_31, i32_32] <;> (generalize f_Pmt_answerReply (lst 4) (f_Host_judge b ak lt (nI d) dt (nI a9) (cou ar) (lst 4) y) (kys ar) (nI a9) ak = rv; generalize f_Host_judge b ak lt (nI d) dt (nI a9) (cou ar) (lst 4) y = jv; by_cases j1 : jv = 1 <;> by_cases r2 : rv = 2 <;> first | rfl | simp only [j1, r2, if_true, if_false, i32_21, i32_10] | (simp only [j1, r2, if_true, if_false, i32_21, i32_10]; rfl))
      · by_cases c3 : w = 3
        · subst c3; simp only [c0, if_true, if_false, upd_self, us5, us6, ite_self, true_or, or_true, or_false, false_or, i32_12, i32_13, i32_21, i32_23, i32_31, i32_32] <;> (generalize f_Pmt_answerReply (lst 4) (f_Host_judge b ak lt (nI d) dt (nI a9) (cou ar) (lst 4) y) (kys ar) (nI a9) ak = rv; generalize f_Host_judge b ak lt (nI d) dt (nI a9) (cou ar) (lst 4) y = jv; by_cases j1 : jv = 1 <;> by_cases r2 : rv = 2 <;> first | rfl | simp only [j1, r2, if_true, if_false, i32_21, i32_10] | (simp only [j1, r2, if_true, if_false, i32_21, i32_10]; rfl))
        · simp only [c0, c1, c2, c3, if_true, if_false, upd_self, us5, us6, ite_self, true_or, or_true, or_false, false_or] <;> (generalize f_Pmt_answerReply (lst 4) (f_Host_judge b ak lt (nI d) dt (nI a9) (cou ar) (lst 4) y) (kys ar) (nI a9) ak = rv; generalize f_Host_judge b ak lt (nI d) dt (nI a9) (cou ar) (lst 4) y = jv; by_cases j1 : jv = 1 <;> by_cases r2 : rv = 2 <;> first | rfl | simp only [j1, r2, if_true, if_false, i32_21, i32_10] | (simp only [j1, r2, if_true, if_false, i32_21, i32_10]; rfl))
