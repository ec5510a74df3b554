/-- the tree holds these objects -/
def tt_I (T : tt_T) (acc : List ob_T) : Prop := T.2.2.2.2 = nI acc.length ∧ ∀ i (a : ob_T), acc[i]? = some a → T.1 i = nI a.1 ∧ T.2.1 i = nI a.2.1 ∧ T.2.2.1 i = nI a.2.2.1 ∧ T.2.2.2.1 i = nI (in_c i acc)
/-- an outer object's place, or none -/
def ou_v (o : Option Nat) : Int32 := match o with
  | none => -1
  | some k => nI k
theorem io_lt {k m : Nat} (h : k < m) (hm : m < 2 ^ 31) : ¬ f_Tree_isObject (nI m) (nI k) = 0 := by
  unfold f_Tree_isObject
  rw [if_neg (nI_pos (by omega)), if_neg (nI_ge h hm)]
  decide
theorem io_no {m : Nat} : f_Tree_isObject (nI m) (-1) = 0 := by
  unfold f_Tree_isObject
  rw [if_pos (by decide)]
theorem tt_keep {T : tt_T} {acc : List ob_T} {t s l d : Nat} {o : Option Nat} (h : tt_I T acc) (hl : acc.length < 30) (ho : ∀ k, o = some k → k < acc.length) (hol : ∀ a ∈ acc, ∀ k, a.2.2.2.2 = some k → k < acc.length) : tt_I (kp_T T (nI t) (nI s) (nI l) (ou_v o)) (acc ++ [(t, s, l, d, o)]) ∧ f_Tree_keep T.2.2.2.2 = nI acc.length := by
  obtain ⟨tg, ss, ln, nn, z⟩ := T
  obtain ⟨hz, hT⟩ := h
  have hz : z = nI acc.length := hz
  subst hz
  have c : nI acc.length < 30 := nI_lt (b := 30) hl (by decide)
  have ec : Int32.toNatClampNeg (nI acc.length) = acc.length := nI_clamp (by omega)
  have e1 : f_Tree_keep_1 (nI acc.length) tg (nI t) = upd tg acc.length (nI t) := by unfold f_Tree_keep_1; rw [if_pos c, ec]
  have e2 : f_Tree_keep_2 (nI acc.length) ss (nI s) = upd ss acc.length (nI s) := by unfold f_Tree_keep_2; rw [if_pos c, ec]
  have e3 : f_Tree_keep_3 (nI acc.length) ln (nI l) = upd ln acc.length (nI l) := by unfold f_Tree_keep_3; rw [if_pos c, ec]
  have e5 : f_Tree_keep_size (nI acc.length) = nI (acc.length + 1) := by unfold f_Tree_keep_size; rw [if_pos c, nI_1]
  have e4 : ∀ i, i ≤ acc.length → f_Tree_keep_4 (nI acc.length) nn (ou_v o) i = (if i = acc.length then 0 else nn i) + (if o = some i then 1 else 0) := by
    intro i hi
    unfold f_Tree_keep_4
    rw [if_pos c, ec]
    cases o with
    | none =>
      rw [show ou_v none = -1 from rfl, if_pos io_no, if_neg (show ¬ (none : Option Nat) = some i by intro q; cases q), Int32.add_zero]
      unfold upd
      rfl
    | some k =>
      have hk := ho k rfl
      rw [show ou_v (some k) = nI k from rfl, if_neg (io_lt hk (by omega)), nI_clamp (by omega)]
      by_cases q : i = k
      · subst q
        rw [if_pos rfl, if_neg (by omega)]
        unfold upd
        rw [if_pos rfl, if_neg (by omega)]
      · rw [if_neg (show ¬ some k = some i from fun z => q (Option.some.inj z).symm), Int32.add_zero]
        unfold upd
        rw [if_neg q]
  refine ⟨⟨?_, ?_⟩, ?_⟩
  · show f_Tree_keep_size (nI acc.length) = nI (acc ++ [_]).length
    rw [e5, List.length_append]; rfl
  · intro i a hi
    show f_Tree_keep_1 (nI acc.length) tg (nI t) i = _ ∧ f_Tree_keep_2 (nI acc.length) ss (nI s) i = _ ∧ f_Tree_keep_3 (nI acc.length) ln (nI l) i = _ ∧ f_Tree_keep_4 (nI acc.length) nn (ou_v o) i = _
    rw [e1, e2, e3, in_app]
    have hil : i < acc.length + 1 := by have := (List.getElem?_eq_some_iff.mp hi).1; rw [List.length_append] at this; exact this
    rw [e4 i (by omega)]
    unfold upd
    by_cases q : i = acc.length
    · subst q
      rw [List.getElem?_append_right (Nat.le_refl _), Nat.sub_self] at hi
      cases hi
      rw [if_pos rfl, if_pos rfl, if_pos rfl, if_pos rfl, in_none hol]
      refine ⟨rfl, rfl, rfl, ?_⟩
      rw [if_neg (fun z => Nat.lt_irrefl _ (ho _ z)), if_neg (fun z => Nat.lt_irrefl _ (ho _ z))]
      rfl
    · have hlt : i < acc.length := by omega
      rw [List.getElem?_append_left hlt] at hi
      obtain ⟨g1, g2, g3, g4⟩ := hT i a hi
      rw [if_neg q, if_neg q, if_neg q, if_neg q]
      refine ⟨g1, g2, g3, ?_⟩
      have g4 : nn i = nI (in_c i acc) := g4
      rw [g4]
      by_cases z : o = some i
      · rw [if_pos z, if_pos z, nI_1]
      · rw [if_neg z, if_neg z, Int32.add_zero, Nat.add_zero]
  · show f_Tree_keep (nI acc.length) = nI acc.length
    unfold f_Tree_keep
    rw [if_pos c, nI_1]
    exact pk_sub (a := acc.length + 1) (b := 1) (by omega)
