/-- a card's rows on both sides: the bytes, the objects -/
def cr_I (M Z : Nat → Nat) (ar : Nat) (acc : List ob_T) (z n : Int32) (f tg ss ln nn : Nat → Int32) : Prop := Z ar ≤ 60 ∧ (∀ j, M j ≤ 255) ∧ pm_r M Z ar = .inr acc ∧ ro_I M ar (Z ar) n f ∧ tt_I (tg, ss, ln, nn, z) acc
theorem ix_fi {T : tt_T} (t : Int32) : ∀ (l pre : List ob_T) (acc : List ob_T), acc = pre ++ l → (∀ i (a : ob_T), acc[i]? = some a → T.1 i = nI a.1) → ix_f T.1 t l.length pre.length = (fi_x t l).map (· + pre.length)
  | [], pre, acc, _, _ => rfl
  | a :: l, pre, acc, h, hT => by
    have ha : acc[pre.length]? = some a := by rw [h, List.getElem?_append_right (Nat.le_refl _), Nat.sub_self]; rfl
    have h1 := hT _ _ ha
    show (if T.1 pre.length = t then some pre.length else ix_f T.1 t l.length (pre.length + 1)) = (if nI a.1 = t then some 0 else (fi_x t l).map (· + 1)).map (· + pre.length)
    rw [h1]
    by_cases c : nI a.1 = t
    · rw [if_pos c, if_pos c]
      show some pre.length = some (0 + pre.length)
      rw [Nat.zero_add]
    · rw [if_neg c, if_neg c]
      have := ix_fi t l (pre ++ [a]) acc (by rw [h, List.append_assoc]; rfl) hT
      rw [List.length_append] at this
      have e : pre.length + [a].length = pre.length + 1 := rfl
      rw [e] at this
      rw [this, Option.map_map]
      congr 1
      funext x
      show x + (pre.length + 1) = x + 1 + pre.length
      omega
theorem ix_acc {z : Int32} {tg ss ln nn : Nat → Int32} {acc : List ob_T} (hT : tt_I (tg, ss, ln, nn, z) acc) (hl : acc.length ≤ 60) (t : Int32) : ix_f tg t (Int32.toNatClampNeg z) 0 = fi_x t acc := by
  have hz : z = nI acc.length := hT.1
  rw [hz, nI_clamp (by omega)]
  have := ix_fi (T := (tg, ss, ln, nn, z)) t acc [] acc rfl (fun i a h => (hT.2 i a h).1)
  have e : ([] : List ob_T).length = 0 := rfl
  rw [e] at this
  rw [this]
  cases fi_x t acc with
  | none => rfl
  | some j => rfl
theorem cr_len {M Z : Nat → Nat} {ar : Nat} {acc : List ob_T} {z n : Int32} {f tg ss ln nn : Nat → Int32} (h : cr_I M Z ar acc z n f tg ss ln nn) : acc.length ≤ 60 := (wk_two (bd := 0) (t4 := 0) (tg := 0) h.1 h.2.1 h.2.2.1).2.1
/-- the class's first object of a tag, not there -/
theorem cr_no {M Z : Nat → Nat} {ar : Nat} {acc : List ob_T} {z n : Int32} {f tg ss ln nn : Nat → Int32} (h : cr_I M Z ar acc z n f tg ss ln nn) {t : Int32} (c : fo_s acc t = none) : ix_v (ix_f tg t (Int32.toNatClampNeg z) 0) = -1 := by
  have hw := wk_spec (bd := 0) (tg := t) (t4 := 0) h.1 h.2.1
  rw [h.2.2.1] at hw
  have hw := hw.2.2
  rw [ix_acc h.2.2.2.2 (cr_len h)]
  unfold fo_s at c
  cases e : fi_x t acc with
  | none => rfl
  | some j =>
    rw [e] at c hw
    obtain ⟨a, ha, _⟩ := hw
    simp only [ha] at c
    cases c
/-- the class's first object of a tag, there -/
theorem cr_yes {M Z : Nat → Nat} {ar : Nat} {acc : List ob_T} {z n : Int32} {f tg ss ln nn : Nat → Int32} (h : cr_I M Z ar acc z n f tg ss ln nn) {t : Int32} {x : Nat × Nat × Nat} (c : fo_s acc t = some x) : ∃ j : Nat, ix_v (ix_f tg t (Int32.toNatClampNeg z) 0) = nI j ∧ j < acc.length ∧ ss j = nI x.1 ∧ ln j = nI x.2.1 ∧ nn j = nI x.2.2 ∧ x.1 + x.2.1 ≤ Z ar := by
  have hin := (fo_in h.1 h.2.1 h.2.2.1 c).1
  rw [ix_acc h.2.2.2.2 (cr_len h)]
  unfold fo_s at c
  cases e : fi_x t acc with
  | none => rw [e] at c; cases c
  | some j =>
    rw [e] at c
    cases ha : acc[j]? with
    | none => simp only [ha] at c; cases c
    | some a =>
      simp only [ha] at c
      cases c
      have hj := h.2.2.2.2.2 j a ha
      exact ⟨j, rfl, (List.getElem?_eq_some_iff.mp ha).1, hj.2.1, hj.2.2.1, hj.2.2.2, hin⟩
