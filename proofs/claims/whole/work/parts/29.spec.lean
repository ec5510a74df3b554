/-- the reference's walk is the machine -/
theorem wk_sim {bd tg : Int32} {t4 ar : Nat} {M Z : Nat → Nat} (hB : ∀ j, M j ≤ 255) : ∀ (k n p dep e1 e2 e3 u4 gd : Nat) (fd ft tw inn bd9 : Int32) (stk : List (Nat × Option Nat)) (acc : List ob_T), sm_I Z ar tg (n, p, dep, e1, e2, e3, u4, gd, fd, ft, tw, inn, bd9) stk acc → gd + k = 401 → wk_rel tg (Mod_walk_f bd t4 M Z ar tg k (n, p, dep, e1, e2, e3, u4, gd, fd, ft, tw, inn, bd9)) (pm M ar k p stk acc) := by
  intro k
  induction k with
  | zero =>
    intro n p dep e1 e2 e3 u4 gd fd ft tw inn bd9 stk acc h hk
    obtain ⟨hI, h1, -⟩ := h
    have := wk_60 hI
    have := hI.2.2.2.2.2.2
    omega
  | succ k ih =>
    intro n p dep e1 e2 e3 u4 gd fd ft tw inn bd9 stk acc h hk
    obtain ⟨hI, h1, h2, h3, h4, h5, h6, h7⟩ := h
    have h60 := wk_60 hI
    have hp := hI.2.2.2.2.2.2
    have hd4 := hI.1
    obtain ⟨l, hl1, hl2⟩ := wk_ends_top (e0 := Z ar) (e1 := e1) (e2 := e2) (e3 := e3) (u4 := u4) hd4
    obtain ⟨⟨e, o⟩, r, rfl⟩ : ∃ y r, stk = y :: r := by
      cases stk with
      | nil => rw [hl1] at h4; cases h4
      | cons y r => exact ⟨y, r, rfl⟩
    have h4' := h4
    rw [hl1, List.map_cons] at h4'
    obtain ⟨he, hr⟩ := List.cons.inj h4'
    have he : e = wk_E dep (Z ar) e1 e2 e3 u4 := he
    subst he
    have hrl : r.length = dep := by rw [← hl2, ← hr, List.length_map]
    have b1 := wk_q1b M ar p
    have b2 := wk_q2b M ar (wk_q1 M ar p)
    have hov : ∀ k, o = some k → k < acc.length := fun k hk => by
      obtain ⟨a, g1, -⟩ := h5 0 _ k (by rw [hk]; rfl)
      exact (List.getElem?_eq_some_iff.mp g1).1
    refine wk_el (bd := bd) (t4 := t4) (tg := tg) (n := n) (fd := fd) (ft9 := ft) (tw9 := tw) (in9 := inn) (bd9 := bd9) hB hI (by omega) (fun z => Mod_walk_s bd t4 M Z ar tg (n, p, dep, e1, e2, e3, u4, gd, fd, ft, tw, inn, bd9) = z → wk_rel tg (Mod_walk_f bd t4 M Z ar tg (k + 1) (n, p, dep, e1, e2, e3, u4, gd, fd, ft, tw, inn, bd9)) (pm M ar (k + 1) p ((wk_E dep (Z ar) e1 e2 e3 u4, o) :: r) acc)) ?_ ?_ ?_ ?_ ?_ ?_ ?_ rfl
    · intro g; omega
    · intro g1 g2 g3 hs
      have hr0 : r = [] := List.length_eq_zero_iff.mp (by omega)
      subst hr0
      rw [Mod_walk_d hs, pm_end g2]
      refine ⟨by rw [h3], by omega, ?_⟩
      unfold fo_I at h7
      cases hf : fi_x tg acc with
      | none => rw [hf] at h7; exact ⟨h7.2.1, h7.2.2.1, h7.2.2.2⟩
      | some j =>
        rw [hf] at h7
        obtain ⟨a, q1, q2, q3, q4, q5, q6, q7, q8⟩ := h7
        exact ⟨a, q1, q3, q4, q5, q6⟩
    · intro g1 g2 g3 hs
      obtain ⟨y, r', rfl⟩ : ∃ y r', r = y :: r' := by
        cases r with
        | nil => exact absurd hrl.symm g3
        | cons y r' => exact ⟨y, r', rfl⟩
      rw [Mod_walk_n hs, pm_pop g2]
      exact ih _ _ _ _ _ _ _ _ _ _ _ _ _ _ _ ⟨wk_pop hI g3, by omega, by omega, h3, (wk_ends_pop hd4 g3 hl1).symm ▸ hr, ow_pop h5, h6, fo_pop h5 g2 h7⟩ (by omega)
    · intro g1 g2 g3 hs
      rw [Mod_walk_d hs, pm_deep (by omega) (by omega)]
      exact ⟨rfl, rfl⟩
    · intro g1 g2 g3 g4 hs
      rw [Mod_walk_d hs, pm_bad (by omega) (by omega) g4]
      exact ⟨rfl, rfl⟩
    · intro g1 g2 g3 g4 g5 hs
      have hql := g4.2.2.2
      rw [Mod_walk_n hs, pm_prim (by omega) (by omega) g4 g5, hrl]
      refine ih _ _ _ _ _ _ _ _ _ _ _ _ _ _ _ ⟨wk_adv hI hql, by omega, by omega, by rw [List.length_append, h3]; rfl, h4, ow_app h5 (by omega), ol_app h6 hov, ?_⟩ (by omega)
      exact fo_add h5 h6 hrl g3 g2 (by omega) (by omega) (by omega) (by omega) h7 (fun i e' j hi => ⟨i, e', hi⟩) (Or.inr (Nat.le_refl _))
    · intro g1 g2 g3 g4 g5 hs
      have hql := g4.2.2.2
      rw [Mod_walk_n hs, pm_con (by omega) (by omega) g4 g5, hrl]
      refine ih _ _ _ _ _ _ _ _ _ _ _ _ _ _ _ ⟨wk_push hI g3 (Nat.le_add_right _ _) hql, by omega, by omega, by rw [List.length_append, h3]; rfl, ?_, ow_push h5 (by omega) (by rw [List.length_cons, hrl]), ol_app h6 hov, ?_⟩ (by omega)
      · rw [wk_ends_push g3, List.map_cons, h4]
      · exact fo_add h5 h6 hrl g3 g2 (by omega) (by omega) (by omega) (by omega) h7 (fun i e' j hi => ⟨i + 1, e', by rw [List.getElem?_cons_succ]; exact hi⟩) (Or.inl ⟨0, _, rfl⟩)
/-- the objects of an area -/
noncomputable def pm_r (M Z : Nat → Nat) (ar : Nat) : Nat ⊕ List ob_T := pm M ar 401 0 [(Z ar, none)] []
theorem wk_spec {bd tg : Int32} {t4 ar : Nat} {M Z : Nat → Nat} (hZ : Z ar ≤ 60) (hB : ∀ j, M j ≤ 255) : wk_rel tg (Mod_walk_r bd t4 M Z ar tg) (pm_r M Z ar) := by
  unfold Mod_walk_r pm_r
  refine wk_sim hB (400 - 0 + 1) 0 0 0 0 0 0 t4 0 (-1) (-1) 0 0 bd [(Z ar, none)] [] ⟨⟨by omega, hZ, fun z => by omega, fun z => by omega, fun z => by omega, fun z => by omega, Nat.zero_le _⟩, by omega, by omega, rfl, rfl, ?_, ?_, ⟨rfl, rfl, rfl, rfl⟩⟩ (by omega)
  · intro i e k hi
    cases i with
    | zero => rw [List.getElem?_cons_zero] at hi; cases hi
    | succ i => rw [List.getElem?_cons_succ] at hi; cases hi
  · intro a ha; cases ha
