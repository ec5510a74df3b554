theorem ow_app {acc : List ob_T} {stk : List (Nat × Option Nat)} {p q : Nat} {x : ob_T} (h : ow_I acc stk p) (hq : p ≤ q) : ow_I (acc ++ [x]) stk q := by
  intro i e k hi
  obtain ⟨a, h1, h2, h3, h4⟩ := h i e k hi
  exact ⟨a, by rw [List.getElem?_append_left (List.getElem?_eq_some_iff.mp h1).1]; exact h1, h2, h3, by omega⟩
theorem ow_push {acc : List ob_T} {stk : List (Nat × Option Nat)} {p q r t d : Nat} {o : Option Nat} (h : ow_I acc stk p) (hq : p ≤ q) (hd : d + 1 = stk.length) : ow_I (acc ++ [(t, q, r, d, o)]) ((q + r, some acc.length) :: stk) q := by
  intro i e k hi
  cases i with
  | zero =>
    rw [List.getElem?_cons_zero] at hi
    cases hi
    refine ⟨(t, q, r, d, o), ?_, rfl, by show d + 1 + 0 + 1 = stk.length + 1; omega, Nat.le_refl _⟩
    rw [List.getElem?_append_right (Nat.le_refl _), Nat.sub_self]
    rfl
  | succ i =>
    rw [List.getElem?_cons_succ] at hi
    obtain ⟨a, h1, h2, h3, h4⟩ := ow_app (x := (t, q, r, d, o)) h hq i e k hi
    exact ⟨a, h1, h2, by rw [List.length_cons]; omega, h4⟩
theorem ow_pop {acc : List ob_T} {y : Nat × Option Nat} {stk : List (Nat × Option Nat)} {p : Nat} (h : ow_I acc (y :: stk) p) : ow_I acc stk p := by
  intro i e k hi
  obtain ⟨a, h1, h2, h3, h4⟩ := h (i + 1) e k (by rw [List.getElem?_cons_succ]; exact hi)
  rw [List.length_cons] at h3
  exact ⟨a, h1, h2, by omega, h4⟩
theorem ol_app {acc : List ob_T} {x : ob_T} (h : ∀ a ∈ acc, ∀ k, a.2.2.2.2 = some k → k < acc.length) (hx : ∀ k, x.2.2.2.2 = some k → k < acc.length) : ∀ a ∈ acc ++ [x], ∀ k, a.2.2.2.2 = some k → k < (acc ++ [x]).length := by
  intro a ha k hk
  rw [List.length_append]
  rcases List.mem_append.mp ha with q | q
  · have := h a q k hk; show k < acc.length + 1; omega
  · rw [List.mem_singleton] at q
    subst q
    have := hx k hk
    show k < acc.length + 1; omega
theorem fo_pop {acc : List ob_T} {e : Nat} {o : Option Nat} {stk : List (Nat × Option Nat)} {p : Nat} {tg fd ft tw inn : Int32} (ho : ow_I acc ((e, o) :: stk) p) (hp : p = e) (h : fo_I acc ((e, o) :: stk) p tg fd ft tw inn) : fo_I acc stk p tg fd ft tw inn := by
  unfold fo_I at h ⊢
  cases hf : fi_x tg acc with
  | none => rw [hf] at h; exact h
  | some j =>
    rw [hf] at h
    obtain ⟨a, h1, h2, h3, h4, h5, h6, h7, h8⟩ := h
    refine ⟨a, h1, h2, h3, h4, h5, h6, h7, ?_⟩
    rcases h8 with ⟨i, e', hi⟩ | h8
    · cases i with
      | zero =>
        obtain ⟨b, g1, g2, -, -⟩ := ho 0 e' j hi
        rw [List.getElem?_cons_zero] at hi
        cases hi
        cases h1.symm.trans g1
        exact Or.inr (by omega)
      | succ i =>
        rw [List.getElem?_cons_succ] at hi
        exact Or.inl ⟨i, e', hi⟩
    · exact Or.inr h8
/-- one more object: what is known of the first one of the tag -/
theorem fo_add {acc : List ob_T} {e p t q r dep p' : Nat} {o : Option Nat} {rs stk' : List (Nat × Option Nat)} {tg fd ft tw inn : Int32} (ho : ow_I acc ((e, o) :: rs) p) (hol : ∀ a ∈ acc, ∀ k, a.2.2.2.2 = some k → k < acc.length) (hl : rs.length = dep) (hd : dep ≤ 3) (hpe : p < e) (hpq : p ≤ q) (hpp : p ≤ p') (h60 : q + r ≤ 60) (hla : acc.length ≤ 60) (h : fo_I acc ((e, o) :: rs) p tg fd ft tw inn)
    (hop : ∀ i e' j : Nat, ((e, o) :: rs)[i]? = some (e', some j) → ∃ i' e'' : Nat, stk'[i']? = some (e'', some j)) (hnew : (∃ i' e'' : Nat, stk'[i']? = some (e'', some acc.length)) ∨ q + r ≤ p') :
    fo_I (acc ++ [(t, q, r, dep, o)]) stk' p' tg (if nI t = tg then (if 0 ≤ ft then fd else (nI dep)) else (fd)) (if nI t = tg then (if 0 ≤ ft then ft else (nI q)) else (ft)) (if nI t = tg then (if 0 ≤ ft then tw else (nI (q + r))) else (tw)) (if fd < 0 then inn else (if (nI dep) = (fd + 1) then (if (nI p) < ft then inn else (if tw ≤ (nI p) then inn else (inn + 1))) else (inn))) := by
  have hep : p < 2 ^ 31 := by omega
  unfold fo_I at h ⊢
  rw [fi_app]
  cases hf : fi_x tg acc with
  | none =>
    rw [hf] at h
    obtain ⟨rfl, rfl, rfl, rfl⟩ := h
    rw [if_pos (show (-1 : Int32) < 0 by decide), if_neg (show ¬ (0 : Int32) ≤ -1 by decide), if_neg (show ¬ (0 : Int32) ≤ -1 by decide), if_neg (show ¬ (0 : Int32) ≤ -1 by decide)]
    by_cases c : nI t = tg
    · dsimp only
      rw [if_pos c, if_pos c, if_pos c, if_pos c]
      refine ⟨(t, q, r, dep, o), ?_, rfl, rfl, rfl, ?_, h60, hd, hnew⟩
      · rw [List.getElem?_append_right (Nat.le_refl _), Nat.sub_self]; rfl
      · rw [in_app, in_none hol, if_neg (fun z => ?_)]
        · rfl
        · obtain ⟨a, g1, -⟩ := ho 0 e acc.length (by rw [show o = some acc.length from z]; rfl)
          exact Nat.lt_irrefl _ (List.getElem?_eq_some_iff.mp g1).1
    · dsimp only
      rw [if_neg c, if_neg c, if_neg c, if_neg c]
      exact ⟨rfl, rfl, rfl, rfl⟩
  | some j =>
    rw [hf] at h
    obtain ⟨a, h1, rfl, rfl, rfl, rfl, h6, h7, h8⟩ := h
    have hj := (List.getElem?_eq_some_iff.mp h1).1
    dsimp only
    have k0 : (0 : Int32) ≤ nI a.2.1 := nI_pos' (by omega)
    rw [if_pos k0, if_pos k0, if_pos k0, ite_self, ite_self, ite_self, if_neg (nI_pos (by omega))]
    refine ⟨a, by rw [List.getElem?_append_left hj]; exact h1, rfl, rfl, rfl, ?_, h6, h7, ?_⟩
    · rw [in_app]
      by_cases c : o = some j
      · rw [if_pos c]
        obtain ⟨b, g1, g2, g3, g4⟩ := ho 0 e j (by rw [c]; rfl)
        cases h1.symm.trans g1
        rw [List.length_cons] at g3
        have hde : dep = a.2.2.2.1 + 1 := by omega
        rw [if_pos (by rw [hde]; exact (nI_1 _).symm), if_neg (nI_nlt g4 (by omega)), if_neg (nI_ge (by omega) (by omega)), nI_1]
      · rw [if_neg c, Nat.add_zero]
        by_cases d1 : nI dep = nI a.2.2.2.1 + 1
        · rw [if_pos d1]
          rw [nI_1] at d1
          have hde : dep = a.2.2.2.1 + 1 := (nI_eq (by omega) (by omega)).mp d1
          by_cases d2 : nI p < nI a.2.1
          · rw [if_pos d2]
          · rw [if_neg d2]
            by_cases d3 : nI (a.2.1 + a.2.2.1) ≤ nI p
            · rw [if_pos d3]
            · exfalso
              have g2 : p < a.2.1 + a.2.2.1 := lp_lt rfl hep d3
              rcases h8 with ⟨i, e', hi⟩ | h8
              · obtain ⟨b, g1, -, g3, -⟩ := ho i e' j hi
                cases h1.symm.trans g1
                rw [List.length_cons] at g3
                have hi0 : i = 0 := by omega
                subst hi0
                rw [List.getElem?_cons_zero] at hi
                cases hi
                exact c rfl
              · omega
        · rw [if_neg d1]
    · rcases h8 with ⟨i, e', hi⟩ | h8
      · exact Or.inl (hop i e' j hi)
      · exact Or.inr (by omega)
