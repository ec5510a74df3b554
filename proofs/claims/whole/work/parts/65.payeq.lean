theorem f0_eq (g : Nat → Int32) (ed sn : Int32) : (if (g 1) ≤ ed then 0 else (1 : Int32)) + (if sn = 0 then 512 else (0)) = pa_0 0 sn ed g := by
  unfold pa_0 f_Pmt_setIf_flags
  by_cases c : g 1 ≤ ed
  · rw [if_pos c]
    by_cases d : sn = 0
    · rw [if_pos d, if_pos d]; decide
    · rw [if_neg d, if_neg d]; decide
  · rw [if_neg c]
    by_cases d : sn = 0
    · rw [if_pos d, if_pos d]; decide
    · rw [if_neg d, if_neg d]; decide
theorem or_2 (F a b : Int32) : (F ||| a) ||| b = F ||| (a ||| b) := Int32.or_assoc _ _ _
theorem ru_0 (rn lo : Int32) (h : ¬ lo = -1) : (f_Card_isRunAtLower rn lo = 0) ↔ rn < lo := by
  unfold f_Card_isRunAtLower
  rw [if_neg h]
  by_cases c : rn < lo
  · rw [if_pos c]; exact ⟨fun _ => c, fun _ => rfl⟩
  · rw [if_neg c]; exact ⟨fun q => absurd q (by decide), fun q => absurd q c⟩
theorem ru_1 (rn up : Int32) (h : ¬ up = -1) : (f_Card_isRunAtUpper rn up = 0) ↔ rn < up := by
  unfold f_Card_isRunAtUpper
  rw [if_neg h]
  by_cases c : rn < up
  · rw [if_pos c]; exact ⟨fun _ => c, fun _ => rfl⟩
  · rw [if_neg c]; exact ⟨fun q => absurd q (by decide), fun q => absurd q c⟩
theorem f2_in (E rn lo up : Int32) (hl : ¬ lo = -1) (hu : ¬ up = -1) : E ||| ((if rn < lo then 0 else (128 : Int32)) + (if rn < up then 0 else (256))) = f_Pmt_setIf_flags (f_Pmt_setIf_flags E (f_Card_isRunAtLower rn lo) 128) (f_Card_isRunAtUpper rn up) 256 := by
  unfold f_Pmt_setIf_flags
  by_cases c : rn < lo
  · rw [if_pos c, if_pos ((ru_0 rn lo hl).mpr c)]
    by_cases d : rn < up
    · rw [if_pos d, if_pos ((ru_1 rn up hu).mpr d)]
      exact Int32.or_zero
    · rw [if_neg d, if_neg (fun q => d ((ru_1 rn up hu).mp q))]
      rfl
  · rw [if_neg c, if_neg (fun q => c ((ru_0 rn lo hl).mp q))]
    by_cases d : rn < up
    · rw [if_pos d, if_pos ((ru_1 rn up hu).mpr d)]
      rfl
    · rw [if_neg d, if_neg (fun q => d ((ru_1 rn up hu).mp q)), or_2]
      rfl
theorem f2_eq (x F1 rn lo up : Int32) (g : Nat → Int32) (hl : lo = -1 ∨ ¬ lo < 0) (hu : up = -1 ∨ ¬ up < 0) : (if lo < 0 then (if x < (g 0) then F1 else (F1 ||| 64)) else (if up < 0 then (if x < (g 0) then F1 else (F1 ||| 64)) else ((if x < (g 0) then F1 else (F1 ||| 64)) ||| ((if rn < lo then 0 else (128)) + (if rn < up then 0 else (256)))))) = f_Pmt_weighRisks_flags x F1 rn lo up g := by
  have e0 : f_Pmt_setIf_flags F1 0 64 = F1 := rfl
  have e1 : f_Pmt_setIf_flags F1 1 64 = F1 ||| 64 := rfl
  unfold f_Pmt_weighRisks_flags
  rw [e0, e1]
  rcases hl with l | l
  · rw [if_pos (show lo < 0 by rw [l]; decide), if_pos l, if_pos l]
  · have nl : ¬ lo = -1 := fun q => l (by rw [q]; decide)
    rw [if_neg l, if_neg nl, if_neg nl]
    rcases hu with u | u
    · rw [if_pos (show up < 0 by rw [u]; decide), if_pos u, if_pos u]
    · have nu : ¬ up = -1 := fun q => u (by rw [q]; decide)
      rw [if_neg u, if_neg nu, if_neg nu, f2_in _ rn lo up nl nu]
      by_cases c : x < g 0
      · rw [if_pos c, if_pos c]
      · rw [if_neg c, if_neg c]
theorem fa_eq (tr rn up W ov : Int32) (ho : ov = f_Card_isRunAtUpper rn up) : (if W = 0 then 0 else (if tr = 0 then 0 else (if W = 1 then 1 else (if ov = 0 then 2 else (1 : Int32))))) = f_Card_firstAnswer tr rn up W := by
  unfold f_Card_firstAnswer
  rw [ho]
  by_cases c : W = 0
  · rw [if_pos c, if_pos c]
  · rw [if_neg c, if_neg c]
    by_cases t : tr = 0
    · rw [if_pos t, if_neg (fun q => (ib_0 tr).mp q t)]
    · rw [if_neg t, if_pos ((ib_0 tr).mpr t)]
theorem fa_012 (tr rn up W : Int32) : f_Card_firstAnswer tr rn up W = 0 ∨ f_Card_firstAnswer tr rn up W = 1 ∨ f_Card_firstAnswer tr rn up W = 2 := by
  unfold f_Card_firstAnswer
  split
  · exact Or.inl rfl
  · split
    · split
      · exact Or.inr (Or.inl rfl)
      · split
        · exact Or.inr (Or.inr rfl)
        · exact Or.inr (Or.inl rfl)
    · exact Or.inl rfl
/-- how many payments stand, by the code of the last -/
theorem sd_judge (b : Nat → Int64) (k la : Nat → Int32) (sd dn : Int32) (df : Nat → Int32) (a ct cg am : Int32) : f_Host_judge_standing b k la sd dn df a ct cg am = if f_Host_judge b k la dn df a ct cg am = 1 then sd + 1 else sd := by
  unfold f_Host_judge_standing f_Host_judge
  repeat' split
  all_goals first | rfl | contradiction | (rename_i q; exact absurd q (by decide))
theorem sd_ask (am fa fc co ct ac : Int32) (g : Nat → Int32) (b : Nat → Int64) (k la : Nat → Int32) (sd dn : Int32) (df : Nat → Int32) (hc : ¬ co = 1) : f_Pmt_askHost_standing am fa fc ct ac g b k la sd dn df = if f_Pmt_askHost_code am fa fc co ct ac g b k la dn df = 1 then sd + 1 else sd := by
  unfold f_Pmt_askHost_standing f_Pmt_askHost_code
  rw [sd_judge]
  by_cases c : f_Term_isConnected g = 0
  · rw [if_pos c, if_pos c, if_neg hc]
  · rw [if_neg c, if_neg c]
    by_cases c1 : fa = 1
    · rw [if_pos c1, if_pos c1, if_neg hc]
    · rw [if_neg c1, if_neg c1]
