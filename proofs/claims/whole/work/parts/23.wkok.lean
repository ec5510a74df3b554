/-- what the walk leaves in from and to: nothing, or a stretch within the area -/
def wk_fo (a b : Int32) (e0 : Nat) : Prop := a = -1 ∨ ∃ f t : Nat, a = nI f ∧ b = nI t ∧ f ≤ t ∧ t ≤ e0
def wk_ok (R : Int32 × Int32 × Int32 × Int32 × Int32 × Nat) (e0 : Nat) : Prop := wk_fo R.2.1 R.2.2.1 e0
theorem wk_e0 {dep p e0 e1 e2 e3 t4 : Nat} (h : wk_I dep p e0 e1 e2 e3 t4) : wk_E dep e0 e1 e2 e3 t4 ≤ e0 := by
  obtain ⟨h0, h1, h2, h3, h4, h5, h6⟩ := h
  rcases (show dep = 0 ∨ dep = 1 ∨ dep = 2 ∨ dep = 3 ∨ dep = 4 by omega) with h | h | h | h | h
  · rw [wk_E0 h]; exact Nat.le_refl _
  · rw [wk_E1 h]; omega
  · rw [wk_E2 h]; omega
  · rw [wk_E3 h]; omega
  · rw [wk_E4 h]; omega
theorem wk_q1b (M : Nat → Nat) (ar p : Nat) : p < wk_q1 M ar p ∧ wk_q1 M ar p ≤ p + 2 := by
  unfold wk_q1
  split <;> omega
theorem wk_q2b (M : Nat → Nat) (ar q : Nat) : q < wk_q2 M ar q ∧ wk_q2 M ar q ≤ q + 2 := by
  unfold wk_q2
  split <;> omega
theorem wk_lnb {M : Nat → Nat} (hB : ∀ j, M j ≤ 255) (ar q : Nat) : wk_ln M ar q ≤ 255 := by
  unfold wk_ln
  split <;> exact hB _
def wk_J (Z : Nat → Nat) (ar : Nat) (x : Nat × Nat × Nat × Nat × Nat × Nat × Nat × Nat × Int32 × Int32 × Int32 × Int32 × Int32) : Prop := match x with
  | (_, p, dep, e1, e2, e3, u4, gd, _, ft9, tw9, _, _) => wk_I dep p (Z ar) e1 e2 e3 u4 ∧ gd ≤ 400 ∧ wk_fo ft9 tw9 (Z ar)
theorem wk_fo2 {ft tw tg : Int32} {t q r e0 : Nat} (h : wk_fo ft tw e0) (hq : q ≤ r) (hr : r ≤ e0) : wk_fo (if nI t = tg then (if 0 ≤ ft then ft else (nI q)) else (ft)) (if nI t = tg then (if 0 ≤ ft then tw else (nI r)) else (tw)) e0 := by
  by_cases c1 : nI t = tg
  · rw [if_pos c1, if_pos c1]
    by_cases c2 : 0 ≤ ft
    · rw [if_pos c2, if_pos c2]; exact h
    · rw [if_neg c2, if_neg c2]; exact Or.inr ⟨q, r, rfl, rfl, hq, hr⟩
  · rw [if_neg c1, if_neg c1]; exact h
/-- an object's head is as said, within an end -/
def hv (M : Nat → Nat) (ar p en : Nat) : Prop := ((nI (bt M ar p) &&& 31) = 31 → p + 1 < en ∧ bt M ar (p + 1) ≤ 127) ∧ wk_q1 M ar p < en ∧ (bt M ar (wk_q1 M ar p) ≤ 127 ∨ (bt M ar (wk_q1 M ar p) = 129 ∧ wk_q1 M ar p + 1 < en)) ∧ wk_q2 M ar (wk_q1 M ar p) + wk_ln M ar (wk_q1 M ar p) ≤ en
/-- the walk's step, by cases in numbers -/
theorem wk_el {bd tg : Int32} {t4 ar : Nat} {M Z : Nat → Nat} (hB : ∀ j, M j ≤ 255) {n p dep e1 e2 e3 u4 gd : Nat} {fd ft9 tw9 in9 bd9 : Int32} (hI : wk_I dep p (Z ar) e1 e2 e3 u4) (hg : gd ≤ 400) (P : (Int32 × Int32 × Int32 × Int32 × Int32 × Nat) ⊕ (Nat × Nat × Nat × Nat × Nat × Nat × Nat × Nat × Int32 × Int32 × Int32 × Int32 × Int32) → Prop)
    (hA : gd = 400 → P (.inl (-1, ft9, tw9, in9, bd9, u4)))
    (hB0 : gd < 400 → p = wk_E dep (Z ar) e1 e2 e3 u4 → dep = 0 → P (.inl (nI n, ft9, tw9, in9, bd9, u4)))
    (hC : gd < 400 → p = wk_E dep (Z ar) e1 e2 e3 u4 → dep ≠ 0 → P (.inr (n, p, dep - 1, e1, e2, e3, u4, gd + 1, fd, ft9, tw9, in9, bd9)))
    (hD : gd < 400 → p < wk_E dep (Z ar) e1 e2 e3 u4 → dep = 4 → P (.inl (-1, ft9, tw9, in9, nI p, u4)))
    (hE : gd < 400 → p < wk_E dep (Z ar) e1 e2 e3 u4 → dep ≤ 3 → ¬ hv M ar p (wk_E dep (Z ar) e1 e2 e3 u4) → P (.inl (-1, ft9, tw9, in9, nI p, u4)))
    (hF : gd < 400 → p < wk_E dep (Z ar) e1 e2 e3 u4 → dep ≤ 3 → hv M ar p (wk_E dep (Z ar) e1 e2 e3 u4) → (nI (bt M ar p) &&& 32) = 0 → P (.inr (n + 1, (wk_q2 M ar (wk_q1 M ar p)) + (wk_ln M ar (wk_q1 M ar p)), dep, e1, e2, e3, u4, gd + 1, if (nI (wk_t1 M ar p)) = tg then (if 0 ≤ ft9 then fd else (nI dep)) else (fd), if (nI (wk_t1 M ar p)) = tg then (if 0 ≤ ft9 then ft9 else (nI (wk_q2 M ar (wk_q1 M ar p)))) else (ft9), if (nI (wk_t1 M ar p)) = tg then (if 0 ≤ ft9 then tw9 else (nI ((wk_q2 M ar (wk_q1 M ar p)) + (wk_ln M ar (wk_q1 M ar p))))) else (tw9), if fd < 0 then in9 else (if (nI dep) = (fd + 1) then (if (nI p) < ft9 then in9 else (if tw9 ≤ (nI p) then in9 else (in9 + 1))) else (in9)), nI p)))
    (hG : gd < 400 → p < wk_E dep (Z ar) e1 e2 e3 u4 → dep ≤ 3 → hv M ar p (wk_E dep (Z ar) e1 e2 e3 u4) → ¬ (nI (bt M ar p) &&& 32) = 0 → P (.inr (n + 1, (wk_q2 M ar (wk_q1 M ar p)), dep + 1, if (nI (dep + 1)) = 1 then ((wk_q2 M ar (wk_q1 M ar p)) + (wk_ln M ar (wk_q1 M ar p))) else (e1), if (nI (dep + 1)) = 1 then e2 else (if (nI (dep + 1)) = 2 then ((wk_q2 M ar (wk_q1 M ar p)) + (wk_ln M ar (wk_q1 M ar p))) else (e2)), if (nI (dep + 1)) = 1 then e3 else (if (nI (dep + 1)) = 2 then e3 else (if (nI (dep + 1)) = 3 then ((wk_q2 M ar (wk_q1 M ar p)) + (wk_ln M ar (wk_q1 M ar p))) else (e3))), if (nI (dep + 1)) = 1 then u4 else (if (nI (dep + 1)) = 2 then u4 else (if (nI (dep + 1)) = 3 then u4 else ((wk_q2 M ar (wk_q1 M ar p)) + (wk_ln M ar (wk_q1 M ar p))))), gd + 1, if (nI (wk_t1 M ar p)) = tg then (if 0 ≤ ft9 then fd else (nI dep)) else (fd), if (nI (wk_t1 M ar p)) = tg then (if 0 ≤ ft9 then ft9 else (nI (wk_q2 M ar (wk_q1 M ar p)))) else (ft9), if (nI (wk_t1 M ar p)) = tg then (if 0 ≤ ft9 then tw9 else (nI ((wk_q2 M ar (wk_q1 M ar p)) + (wk_ln M ar (wk_q1 M ar p))))) else (tw9), if fd < 0 then in9 else (if (nI dep) = (fd + 1) then (if (nI p) < ft9 then in9 else (if tw9 ≤ (nI p) then in9 else (in9 + 1))) else (in9)), nI p))) :
    P (Mod_walk_s bd t4 M Z ar tg (n, p, dep, e1, e2, e3, u4, gd, fd, ft9, tw9, in9, bd9)) := by
  have h60 := wk_60 hI
  have hp : p ≤ wk_E dep (Z ar) e1 e2 e3 u4 := hI.2.2.2.2.2.2
  have hd4 := hI.1
  have b1 := wk_q1b M ar p
  have b2 := wk_q2b M ar (wk_q1 M ar p)
  have b3 := wk_lnb hB ar (wk_q1 M ar p)
  have b4 : bt M ar (p + 1) ≤ 255 := hB _
  have b5 : bt M ar (wk_q1 M ar p) ≤ 255 := hB _
  unfold Mod_walk_s
  dsimp only
  by_cases c1 : 400 ≤ nI gd
  · rw [if_pos c1]
    exact hA (by have := lp_ge (k := 400) (n := 400) rfl (by decide) c1; omega)
  rw [if_neg c1]
  have g1 : gd < 400 := lp_lt (k := 400) (n := 400) rfl (by omega) c1
  by_cases c2 : nI p = nI (wk_E dep (Z ar) e1 e2 e3 u4)
  · rw [if_pos c2]
    have g2 : p = wk_E dep (Z ar) e1 e2 e3 u4 := (nI_eq (by omega) (by omega)).mp c2
    by_cases c3 : nI dep = 0
    · rw [if_pos c3]; exact hB0 g1 g2 ((nI_eq (b := 0) (by omega) (by decide)).mp c3)
    · rw [if_neg c3]; exact hC g1 g2 (fun q => c3 (by rw [q]; rfl))
  rw [if_neg c2]
  have g2 : p < wk_E dep (Z ar) e1 e2 e3 u4 := Nat.lt_of_le_of_ne hp (fun q => c2 (by rw [← q]))
  by_cases c4 : nI dep ≤ 3
  rotate_left
  · rw [if_neg c4]
    exact hD g1 g2 (by
      rcases Nat.lt_or_ge 3 dep with q | q
      · omega
      · exact absurd (nI_le (b := 3) q (by decide)) c4)
  rw [if_pos c4]
  have g4 : dep ≤ 3 := (nI_leI (b := 3) (by omega) (by decide)).mp c4
  by_cases c5 : (if ((nI (bt M ar p)) &&& 31) = 31 then (if (nI (wk_E dep (Z ar) e1 e2 e3 u4)) ≤ (nI (p + 1)) then True else (if (nI (bt M ar (p + 1))) ≤ 127 then False else (True))) else (False) : Prop)
  · rw [if_pos c5]
    refine hE g1 g2 g4 (fun v => ?_)
    by_cases d1 : ((nI (bt M ar p)) &&& 31) = 31
    · rw [if_pos d1] at c5
      obtain ⟨v1, v2⟩ := v.1 d1
      rw [if_neg (nI_ge v1 (by omega)), if_pos (show nI (bt M ar (p + 1)) ≤ 127 from nI_le (b := 127) v2 (by decide))] at c5
      exact c5
    · rw [if_neg d1] at c5; exact c5
  rw [if_neg c5]
  have g5 : (nI (bt M ar p) &&& 31) = 31 → p + 1 < wk_E dep (Z ar) e1 e2 e3 u4 ∧ bt M ar (p + 1) ≤ 127 := by
    intro d1
    rw [if_pos d1] at c5
    by_cases d2 : nI (wk_E dep (Z ar) e1 e2 e3 u4) ≤ nI (p + 1)
    · rw [if_pos d2] at c5; exact absurd trivial c5
    · rw [if_neg d2] at c5
      by_cases d3 : nI (bt M ar (p + 1)) ≤ 127
      · exact ⟨lp_lt rfl (by omega) d2, (nI_leI (b := 127) (by omega) (by decide)).mp d3⟩
      · rw [if_neg d3] at c5; exact absurd trivial c5
  by_cases c6 : nI (wk_q1 M ar p) < nI (wk_E dep (Z ar) e1 e2 e3 u4)
  rotate_left
  · rw [if_neg c6]
    exact hE g1 g2 g4 (fun v => c6 (nI_lt v.2.1 (by omega)))
  rw [if_pos c6]
  have g6 : wk_q1 M ar p < wk_E dep (Z ar) e1 e2 e3 u4 := (nI_ltI (by omega) (by omega)).mp c6
  by_cases c7 : (if (nI (bt M ar (wk_q1 M ar p))) ≤ 127 then False else (if (nI (bt M ar (wk_q1 M ar p))) = 129 then (if (nI ((wk_q1 M ar p) + 1)) < (nI (wk_E dep (Z ar) e1 e2 e3 u4)) then False else (True)) else (True)) : Prop)
  · rw [if_pos c7]
    refine hE g1 g2 g4 (fun v => ?_)
    rcases v.2.2.1 with v1 | ⟨v1, v2⟩
    · rw [if_pos (show nI (bt M ar (wk_q1 M ar p)) ≤ 127 from nI_le (b := 127) v1 (by decide))] at c7; exact c7
    · rw [if_neg (by rw [v1]; decide), if_pos (by rw [v1]; rfl), if_pos (nI_lt v2 (by omega))] at c7; exact c7
  rw [if_neg c7]
  have g7 : bt M ar (wk_q1 M ar p) ≤ 127 ∨ (bt M ar (wk_q1 M ar p) = 129 ∧ wk_q1 M ar p + 1 < wk_E dep (Z ar) e1 e2 e3 u4) := by
    by_cases d1 : nI (bt M ar (wk_q1 M ar p)) ≤ 127
    · exact Or.inl ((nI_leI (b := 127) (by omega) (by decide)).mp d1)
    · rw [if_neg d1] at c7
      by_cases d2 : nI (bt M ar (wk_q1 M ar p)) = 129
      · rw [if_pos d2] at c7
        by_cases d3 : nI (wk_q1 M ar p + 1) < nI (wk_E dep (Z ar) e1 e2 e3 u4)
        · exact Or.inr ⟨(nI_eq (b := 129) (by omega) (by decide)).mp d2, (nI_ltI (by omega) (by omega)).mp d3⟩
        · rw [if_neg d3] at c7; exact absurd trivial c7
      · rw [if_neg d2] at c7; exact absurd trivial c7
  by_cases c8 : nI ((wk_q2 M ar (wk_q1 M ar p)) + (wk_ln M ar (wk_q1 M ar p))) ≤ nI (wk_E dep (Z ar) e1 e2 e3 u4)
  rotate_left
  · rw [if_neg c8]
    exact hE g1 g2 g4 (fun v => c8 (nI_le v.2.2.2 (by omega)))
  rw [if_pos c8]
  have g8 : wk_q2 M ar (wk_q1 M ar p) + wk_ln M ar (wk_q1 M ar p) ≤ wk_E dep (Z ar) e1 e2 e3 u4 := (nI_leI (by omega) (by omega)).mp c8
  by_cases c9 : (nI (bt M ar p) &&& 32) = 0
  · rw [if_pos c9]; exact hF g1 g2 g4 ⟨g5, g6, g7, g8⟩ c9
  · rw [if_neg c9]; exact hG g1 g2 g4 ⟨g5, g6, g7, g8⟩ c9
theorem wk_sJ {bd tg : Int32} {t4 ar : Nat} {M Z : Nat → Nat} (hB : ∀ j, M j ≤ 255) {x y : Nat × Nat × Nat × Nat × Nat × Nat × Nat × Nat × Int32 × Int32 × Int32 × Int32 × Int32} (hJ : wk_J Z ar x) (h : Mod_walk_s bd t4 M Z ar tg x = .inr y) : wk_J Z ar y := by
  obtain ⟨n, p, dep, e1, e2, e3, u4, gd, fd, ft9, tw9, in9, bd9⟩ := x
  obtain ⟨hI, hg, hf⟩ := hJ
  have he0 := wk_e0 hI
  refine wk_el (bd := bd) (t4 := t4) (tg := tg) hB hI hg (fun z => z = .inr y → wk_J Z ar y) ?_ ?_ ?_ ?_ ?_ ?_ ?_ h
  · intro _ e; cases e
  · intro _ _ _ e; cases e
  · intro g1 g2 g3 e; cases e
    exact ⟨wk_pop hI g3, by omega, hf⟩
  · intro _ _ _ e; cases e
  · intro _ _ _ _ e; cases e
  · intro g1 g2 g4 v c9 e; cases e
    exact ⟨wk_adv hI v.2.2.2, by omega, wk_fo2 hf (Nat.le_add_right _ _) (Nat.le_trans v.2.2.2 he0)⟩
  · intro g1 g2 g4 v c9 e; cases e
    exact ⟨wk_push hI g4 (Nat.le_add_right _ _) v.2.2.2, by omega, wk_fo2 hf (Nat.le_add_right _ _) (Nat.le_trans v.2.2.2 he0)⟩
theorem wk_sR {bd tg : Int32} {t4 ar : Nat} {M Z : Nat → Nat} (hB : ∀ j, M j ≤ 255) {x : Nat × Nat × Nat × Nat × Nat × Nat × Nat × Nat × Int32 × Int32 × Int32 × Int32 × Int32} {r : Int32 × Int32 × Int32 × Int32 × Int32 × Nat} (hJ : wk_J Z ar x) (h : Mod_walk_s bd t4 M Z ar tg x = .inl r) : wk_ok r (Z ar) := by
  obtain ⟨n, p, dep, e1, e2, e3, u4, gd, fd, ft9, tw9, in9, bd9⟩ := x
  obtain ⟨hI, hg, hf⟩ := hJ
  refine wk_el (bd := bd) (t4 := t4) (tg := tg) hB hI hg (fun z => z = .inl r → wk_ok r (Z ar)) ?_ ?_ ?_ ?_ ?_ ?_ ?_ h
  · intro _ e; cases e; exact hf
  · intro _ _ _ e; cases e; exact hf
  · intro _ _ _ e; cases e
  · intro _ _ _ e; cases e; exact hf
  · intro _ _ _ _ e; cases e; exact hf
  · intro _ _ _ _ _ e; cases e
  · intro _ _ _ _ _ e; cases e
theorem wk_fR {bd tg : Int32} {t4 ar : Nat} {M Z : Nat → Nat} (hB : ∀ j, M j ≤ 255) : ∀ (k : Nat) (x : Nat × Nat × Nat × Nat × Nat × Nat × Nat × Nat × Int32 × Int32 × Int32 × Int32 × Int32), wk_J Z ar x → k ≠ 0 → wk_ok (Mod_walk_f bd t4 M Z ar tg k x) (Z ar) ∨ ∃ y, wk_J Z ar y ∧ Mod_walk_f bd t4 M Z ar tg k x = Mod_walk_f bd t4 M Z ar tg 0 y
  | 0, _, _, h => absurd rfl h
  | k + 1, x, hJ, _ => by
    cases hs : Mod_walk_s bd t4 M Z ar tg x with
    | inl r => rw [Mod_walk_d hs]; exact Or.inl (wk_sR hB hJ hs)
    | inr y =>
      rw [Mod_walk_n hs]
      have hy := wk_sJ hB hJ hs
      by_cases hk : k = 0
      · subst hk; exact Or.inr ⟨y, hy, rfl⟩
      · exact wk_fR hB k y hy hk
theorem wk_okr {bd tg : Int32} {t4 ar : Nat} {M Z : Nat → Nat} (hZ : Z ar ≤ 60) (hB : ∀ j, M j ≤ 255) : wk_ok (Mod_walk_r bd t4 M Z ar tg) (Z ar) := by
  have h0 : wk_J Z ar (0, 0, 0, 0, 0, 0, t4, 0, -1, -1, 0, 0, bd) := ⟨⟨by omega, hZ, fun z => by omega, fun z => by omega, fun z => by omega, fun z => by omega, Nat.zero_le _⟩, by omega, Or.inl rfl⟩
  unfold Mod_walk_r
  rcases wk_fR hB (400 - 0 + 1) _ h0 (by decide) with h | ⟨y, -, h⟩
  · exact h
  · rw [h]
    exact Or.inr ⟨0, 0, rfl, rfl, Nat.le_refl _, Nat.zero_le _⟩
