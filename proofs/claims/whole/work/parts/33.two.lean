/-- a contract's end may be said otherwise -/
theorem gw_cons {l : Launch} {y : MethodName} {ws : List Cond} {rm : Room} {Pc : Array Value → State → Prop} {D : va_G} {cl : List vw_C} {A : Nat → Prop} {mc ms : Nat} {free : Addr → Prop} {post post' : Option Value → va_W → Prop} (h : Met l y ws rm Pc (gw_Q D cl A post) mc ms free) (hp : ∀ v w, post v w → post' v w) : Met l y ws rm Pc (gw_Q D cl A post') mc ms free := by
  intro p e ha hc hk s m args below hf happ hP hK
  obtain ⟨n, o, h1, h2, h3, ⟨⟨v, w, q1, q2, q3, q4⟩, q5⟩, q6⟩ := h p e ha hc hk s m args below hf happ hP hK
  exact ⟨n, o, h1, h2, h3, ⟨⟨v, w, q1, hp v w q2, q3, q4⟩, q5⟩, q6⟩
theorem gw_consR {l : Launch} {y : MethodName} {ws : List Cond} {rm : Room} {Pc : Array Value → State → Prop} {mc ms : Nat} {free : Addr → Prop} {post post' : Option Value → Prop} (h : Met l y ws rm Pc (gw_QR post) mc ms free) (hp : ∀ v, post v → post' v) : Met l y ws rm Pc (gw_QR post') mc ms free := by
  intro p e ha hc hk s m args below hf happ hP hK
  obtain ⟨n, o, h1, h2, h3, ⟨v, q1, q2, q3⟩, q6⟩ := h p e ha hc hk s m args below hf happ hP hK
  exact ⟨n, o, h1, h2, h3, ⟨v, q1, hp v q2, q3⟩, q6⟩
/-- of the first object of a tag: where its value begins, how long it is, how many lie in it -/
def fo_s (acc : List ob_T) (tg : Int32) : Option (Nat × Nat × Nat) := match fi_x tg acc with
  | none => none
  | some j => match acc[j]? with
    | none => none
    | some a => some (a.2.1, a.2.2.1, in_c j acc)
def so_v (o : Option (Nat × Nat × Nat)) : Int32 := match o with
  | none => 0
  | some _ => 1
def so_f (o : Option (Nat × Nat × Nat)) : Int32 := match o with
  | none => -1
  | some x => nI x.1
def so_t (o : Option (Nat × Nat × Nat)) : Int32 := match o with
  | none => 0
  | some x => nI (x.1 + x.2.1)
def so_i (o : Option (Nat × Nat × Nat)) : Int32 := match o with
  | none => 0
  | some x => nI x.2.2
theorem b_so_v (o : Option (Nat × Nat × Nat)) : so_v o = 0 ∨ so_v o = 1 := by
  cases o with
  | none => exact Or.inl rfl
  | some _ => exact Or.inr rfl
theorem wk_two {bd tg : Int32} {t4 ar : Nat} {M Z : Nat → Nat} {acc : List ob_T} (hZ : Z ar ≤ 60) (hB : ∀ j, M j ≤ 255) (hA : pm_r M Z ar = .inr acc) : (Mod_walk_r bd t4 M Z ar tg).1 = nI acc.length ∧ acc.length ≤ 60 ∧ (Mod_walk_r bd t4 M Z ar tg).2.1 = so_f (fo_s acc tg) ∧ (Mod_walk_r bd t4 M Z ar tg).2.2.1 = so_t (fo_s acc tg) ∧ (Mod_walk_r bd t4 M Z ar tg).2.2.2.1 = so_i (fo_s acc tg) := by
  have h := wk_spec (bd := bd) (tg := tg) (t4 := t4) hZ hB
  rw [hA] at h
  obtain ⟨h1, h2, h3⟩ := h
  refine ⟨h1, h2, ?_⟩
  unfold fo_s
  cases hf : fi_x tg acc with
  | none => rw [hf] at h3; exact h3
  | some j =>
    rw [hf] at h3
    obtain ⟨a, g1, g2, g3, g4, -⟩ := h3
    dsimp only
    rw [g1]
    exact ⟨g2, g3, g4⟩
/-- the stretch of the first object lies within its area -/
theorem fo_in {M Z : Nat → Nat} {ar : Nat} {acc : List ob_T} {tg : Int32} {x : Nat × Nat × Nat} (hZ : Z ar ≤ 60) (hB : ∀ j, M j ≤ 255) (hA : pm_r M Z ar = .inr acc) (h : fo_s acc tg = some x) : x.1 + x.2.1 ≤ Z ar ∧ x.2.2 ≤ 60 := by
  obtain ⟨-, h2, h3, h4, -⟩ := wk_two (bd := 0) (tg := tg) (t4 := 0) hZ hB hA
  have h60 : x.2.2 ≤ 60 := by
    unfold fo_s at h
    cases hf : fi_x tg acc with
    | none => rw [hf] at h; cases h
    | some j =>
      rw [hf] at h
      dsimp only at h
      cases hg : acc[j]? with
      | none => rw [hg] at h; cases h
      | some a => rw [hg] at h; cases h; exact Nat.le_trans (in_le j acc) h2
  have hs := wk_spec (bd := 0) (tg := tg) (t4 := 0) hZ hB
  rw [hA] at hs
  obtain ⟨-, -, hs⟩ := hs
  have hb : x.1 + x.2.1 ≤ 60 := by
    unfold fo_s at h
    cases hf : fi_x tg acc with
    | none => rw [hf] at h; cases h
    | some j =>
      rw [hf] at h hs
      obtain ⟨a, g1, -, -, -, g5⟩ := hs
      dsimp only at h
      rw [g1] at h
      cases h
      exact g5
  rw [h] at h3 h4
  rcases wk_okr (bd := 0) (tg := tg) (t4 := 0) hZ hB with q | ⟨f, t, q1, q2, q3, q4⟩
  · rw [h3] at q
    exact absurd q (nI_m1 (by omega))
  · rw [h4] at q2
    have := (nI_eq (a := x.1 + x.2.1) (b := t) (by omega) (by omega)).mp q2
    exact ⟨by omega, h60⟩
theorem has_two {bd tg : Int32} {t4 ar : Nat} {M Z : Nat → Nat} {acc : List ob_T} (hZ : Z ar ≤ 60) (hB : ∀ j, M j ≤ 255) (hA : pm_r M Z ar = .inr acc) : f_Mod_has bd t4 M Z ar tg = so_v (fo_s acc tg) := by
  obtain ⟨h1, h2, h3, -⟩ := wk_two (bd := bd) (tg := tg) (t4 := t4) hZ hB hA
  unfold f_Mod_has
  rw [h1, h3, if_neg (nI_pos (by omega))]
  cases ho : fo_s acc tg with
  | none => rw [show so_f none = -1 from rfl, if_pos (by decide)]; rfl
  | some x =>
    have := (fo_in hZ hB hA ho).1
    rw [show so_f (some x) = nI x.1 from rfl, if_neg (nI_pos (by omega))]; rfl
/-- the number of a stretch of bytes -/
def nb_f (M : Nat → Nat) (ar : Nat) : Nat → Nat → Int32 → Int32
  | 0, _, v => v
  | k + 1, i, v => nb_f M ar k (i + 1) (256 * v + nI (bt M ar i))
def nb_v (M : Nat → Nat) (ar : Nat) (o : Option (Nat × Nat × Nat)) (no : Int32) : Int32 := match o with
  | none => no
  | some x => nb_f M ar x.2.1 x.1 0
