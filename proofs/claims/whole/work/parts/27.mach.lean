/-- an object: its tag, where its value begins, how long it is, its depth, which one it lies in -/
abbrev ob_T : Type := Nat × Nat × Nat × Nat × Option Nat
/-- the objects of a row of bytes, one after the other: the first BAD one's place, or all of them. The stack: the ends, and whose they are -/
noncomputable def pm (M : Nat → Nat) (ar : Nat) : Nat → Nat → List (Nat × Option Nat) → List ob_T → Nat ⊕ List ob_T
  | 0, p, _, _ => .inl p
  | _ + 1, _, [], acc => .inr acc
  | k + 1, p, (e, o) :: r, acc => if p = e then (if r.isEmpty = true then .inr acc else pm M ar k p r acc) else if 4 ≤ r.length then .inl p else if @decide (hv M ar p e) (Classical.propDecidable _) = true then (if (nI (bt M ar p) &&& 32) = 0 then pm M ar k (wk_q2 M ar (wk_q1 M ar p) + wk_ln M ar (wk_q1 M ar p)) ((e, o) :: r) (acc ++ [(wk_t1 M ar p, wk_q2 M ar (wk_q1 M ar p), wk_ln M ar (wk_q1 M ar p), r.length, o)]) else pm M ar k (wk_q2 M ar (wk_q1 M ar p)) ((wk_q2 M ar (wk_q1 M ar p) + wk_ln M ar (wk_q1 M ar p), some acc.length) :: (e, o) :: r) (acc ++ [(wk_t1 M ar p, wk_q2 M ar (wk_q1 M ar p), wk_ln M ar (wk_q1 M ar p), r.length, o)])) else .inl p
theorem pm_end {M : Nat → Nat} {ar k p e : Nat} {o : Option Nat} {acc : List ob_T} (h : p = e) : pm M ar (k + 1) p [(e, o)] acc = .inr acc := by
  rw [pm, if_pos h]
  rfl
theorem pm_pop {M : Nat → Nat} {ar k p e : Nat} {o : Option Nat} {y : Nat × Option Nat} {r : List (Nat × Option Nat)} {acc : List ob_T} (h : p = e) : pm M ar (k + 1) p ((e, o) :: y :: r) acc = pm M ar k p (y :: r) acc := by rw [pm, if_pos h, if_neg (by simp)]
theorem pm_deep {M : Nat → Nat} {ar k p e : Nat} {o : Option Nat} {r : List (Nat × Option Nat)} {acc : List ob_T} (h : ¬ p = e) (h4 : 4 ≤ r.length) : pm M ar (k + 1) p ((e, o) :: r) acc = .inl p := by rw [pm, if_neg h, if_pos h4]
theorem pm_bad {M : Nat → Nat} {ar k p e : Nat} {o : Option Nat} {r : List (Nat × Option Nat)} {acc : List ob_T} (h : ¬ p = e) (h4 : ¬ 4 ≤ r.length) (hh : ¬ hv M ar p e) : pm M ar (k + 1) p ((e, o) :: r) acc = .inl p := by
  rw [pm, if_neg h, if_neg h4, if_neg (fun q => hh (@of_decide_eq_true _ (Classical.propDecidable _) q))]
theorem pm_prim {M : Nat → Nat} {ar k p e : Nat} {o : Option Nat} {r : List (Nat × Option Nat)} {acc : List ob_T} (h : ¬ p = e) (h4 : ¬ 4 ≤ r.length) (hh : hv M ar p e) (hc : (nI (bt M ar p) &&& 32) = 0) : pm M ar (k + 1) p ((e, o) :: r) acc = pm M ar k (wk_q2 M ar (wk_q1 M ar p) + wk_ln M ar (wk_q1 M ar p)) ((e, o) :: r) (acc ++ [(wk_t1 M ar p, wk_q2 M ar (wk_q1 M ar p), wk_ln M ar (wk_q1 M ar p), r.length, o)]) := by
  rw [pm, if_neg h, if_neg h4, if_pos (@decide_eq_true _ (Classical.propDecidable _) hh), if_pos hc]
theorem pm_con {M : Nat → Nat} {ar k p e : Nat} {o : Option Nat} {r : List (Nat × Option Nat)} {acc : List ob_T} (h : ¬ p = e) (h4 : ¬ 4 ≤ r.length) (hh : hv M ar p e) (hc : ¬ (nI (bt M ar p) &&& 32) = 0) : pm M ar (k + 1) p ((e, o) :: r) acc = pm M ar k (wk_q2 M ar (wk_q1 M ar p)) ((wk_q2 M ar (wk_q1 M ar p) + wk_ln M ar (wk_q1 M ar p), some acc.length) :: (e, o) :: r) (acc ++ [(wk_t1 M ar p, wk_q2 M ar (wk_q1 M ar p), wk_ln M ar (wk_q1 M ar p), r.length, o)]) := by
  rw [pm, if_neg h, if_neg h4, if_pos (@decide_eq_true _ (Classical.propDecidable _) hh), if_neg hc]
/-- the first object of a tag -/
def fi_x (tg : Int32) : List ob_T → Option Nat
  | [] => none
  | a :: l => if nI a.1 = tg then some 0 else (fi_x tg l).map (· + 1)
/-- how many lie directly in an object -/
def in_c (j : Nat) : List ob_T → Nat
  | [] => 0
  | a :: l => (if a.2.2.2.2 = some j then 1 else 0) + in_c j l
theorem fi_app (tg : Int32) (x : ob_T) : ∀ l : List ob_T, fi_x tg (l ++ [x]) = match fi_x tg l with | some j => some j | none => if nI x.1 = tg then some l.length else none
  | [] => by
    show (if nI x.1 = tg then some 0 else Option.map (· + 1) none) = (if nI x.1 = tg then some 0 else none)
    rfl
  | a :: l => by
    show (if nI a.1 = tg then some 0 else (fi_x tg (l ++ [x])).map (· + 1)) = _
    rw [fi_app tg x l, show fi_x tg (a :: l) = (if nI a.1 = tg then some 0 else (fi_x tg l).map (· + 1)) from rfl]
    by_cases c : nI a.1 = tg
    · rw [if_pos c, if_pos c]
    · rw [if_neg c, if_neg c]
      cases fi_x tg l with
      | some j => rfl
      | none =>
        show Option.map (· + 1) (if nI x.1 = tg then some l.length else none) = (if nI x.1 = tg then some (l.length + 1) else none)
        by_cases d : nI x.1 = tg
        · rw [if_pos d, if_pos d]; rfl
        · rw [if_neg d, if_neg d]; rfl
theorem fi_some {tg : Int32} : ∀ {l : List ob_T} {j : Nat}, fi_x tg l = some j → ∃ a, l[j]? = some a ∧ nI a.1 = tg
  | [], j, h => by cases h
  | a :: l, j, h => by
    unfold fi_x at h
    by_cases c : nI a.1 = tg
    · rw [if_pos c] at h; cases h; exact ⟨a, rfl, c⟩
    · rw [if_neg c] at h
      cases hq : fi_x tg l with
      | none => rw [hq] at h; cases h
      | some i =>
        rw [hq] at h
        cases h
        obtain ⟨b, hb, hb2⟩ := fi_some hq
        exact ⟨b, by rw [List.getElem?_cons_succ]; exact hb, hb2⟩
theorem in_app (j : Nat) (x : ob_T) : ∀ l : List ob_T, in_c j (l ++ [x]) = in_c j l + (if x.2.2.2.2 = some j then 1 else 0)
  | [] => by show (if x.2.2.2.2 = some j then 1 else 0) + 0 = 0 + (if x.2.2.2.2 = some j then 1 else 0); omega
  | a :: l => by
    show (if a.2.2.2.2 = some j then 1 else 0) + in_c j (l ++ [x]) = (if a.2.2.2.2 = some j then 1 else 0) + in_c j l + _
    rw [in_app j x l]; omega
theorem in_le (j : Nat) : ∀ l : List ob_T, in_c j l ≤ l.length
  | [] => Nat.le_refl _
  | a :: l => by
    show (if a.2.2.2.2 = some j then 1 else 0) + in_c j l ≤ l.length + 1
    have := in_le j l
    split <;> omega
theorem in_none {j : Nat} : ∀ {l : List ob_T}, (∀ a ∈ l, ∀ k, a.2.2.2.2 = some k → k < j) → in_c j l = 0
  | [], _ => rfl
  | a :: l, h => by
    show (if a.2.2.2.2 = some j then 1 else 0) + in_c j l = 0
    rw [in_none (fun b hb => h b (List.mem_cons_of_mem _ hb)), if_neg (fun q => Nat.lt_irrefl j (h a List.mem_cons_self j q))]
/-- the ends by depth -/
def wk_ends (dep e0 e1 e2 e3 u4 : Nat) : List Nat := match dep with
  | 0 => [e0]
  | 1 => [e1, e0]
  | 2 => [e2, e1, e0]
  | 3 => [e3, e2, e1, e0]
  | _ => [u4, e3, e2, e1, e0]
/-- what is known of the first object of the tag so far -/
def fo_I (acc : List ob_T) (stk : List (Nat × Option Nat)) (p : Nat) (tg fd ft tw inn : Int32) : Prop := match fi_x tg acc with
  | none => fd = -1 ∧ ft = -1 ∧ tw = 0 ∧ inn = 0
  | some j => ∃ a : ob_T, acc[j]? = some a ∧ fd = nI a.2.2.2.1 ∧ ft = nI a.2.1 ∧ tw = nI (a.2.1 + a.2.2.1) ∧ inn = nI (in_c j acc) ∧ a.2.1 + a.2.2.1 ≤ 60 ∧ a.2.2.2.1 ≤ 3 ∧ ((∃ i e : Nat, stk[i]? = some (e, some j)) ∨ a.2.1 + a.2.2.1 ≤ p)
/-- whose the ends are -/
def ow_I (acc : List ob_T) (stk : List (Nat × Option Nat)) (p : Nat) : Prop := ∀ i e k : Nat, stk[i]? = some (e, some k) → ∃ a : ob_T, acc[k]? = some a ∧ a.2.1 + a.2.2.1 = e ∧ a.2.2.2.1 + 1 + i + 1 = stk.length ∧ a.2.1 ≤ p
def sm_I (Z : Nat → Nat) (ar : Nat) (tg : Int32) (x : Nat × Nat × Nat × Nat × Nat × Nat × Nat × Nat × Int32 × Int32 × Int32 × Int32 × Int32) (stk : List (Nat × Option Nat)) (acc : List ob_T) : Prop := match x with
  | (n, p, dep, e1, e2, e3, u4, gd, fd, ft, tw, inn, _) => wk_I dep p (Z ar) e1 e2 e3 u4 ∧ gd + dep ≤ p ∧ n ≤ gd ∧ n = acc.length ∧ stk.map Prod.fst = wk_ends dep (Z ar) e1 e2 e3 u4 ∧ ow_I acc stk p ∧ (∀ a ∈ acc, ∀ k, a.2.2.2.2 = some k → k < acc.length) ∧ fo_I acc stk p tg fd ft tw inn
/-- what the walk answers, by the objects -/
def wk_rel (tg : Int32) (r : Int32 × Int32 × Int32 × Int32 × Int32 × Nat) (q : Nat ⊕ List ob_T) : Prop := match q with
  | .inl b => r.1 = -1 ∧ r.2.2.2.2.1 = nI b
  | .inr acc => r.1 = nI acc.length ∧ acc.length ≤ 60 ∧ match fi_x tg acc with
    | none => r.2.1 = -1 ∧ r.2.2.1 = 0 ∧ r.2.2.2.1 = 0
    | some j => ∃ a : ob_T, acc[j]? = some a ∧ r.2.1 = nI a.2.1 ∧ r.2.2.1 = nI (a.2.1 + a.2.2.1) ∧ r.2.2.2.1 = nI (in_c j acc) ∧ a.2.1 + a.2.2.1 ≤ 60
theorem wk_ends_top {dep e0 e1 e2 e3 u4 : Nat} (h : dep ≤ 4) : ∃ l, wk_ends dep e0 e1 e2 e3 u4 = wk_E dep e0 e1 e2 e3 u4 :: l ∧ l.length = dep := by
  rcases (show dep = 0 ∨ dep = 1 ∨ dep = 2 ∨ dep = 3 ∨ dep = 4 by omega) with h | h | h | h | h <;> subst h <;> exact ⟨_, rfl, rfl⟩
theorem wk_ends_pop {dep e0 e1 e2 e3 u4 x : Nat} {l : List Nat} (h : dep ≤ 4) (hd : dep ≠ 0) (hl : wk_ends dep e0 e1 e2 e3 u4 = x :: l) : wk_ends (dep - 1) e0 e1 e2 e3 u4 = l := by
  rcases (show dep = 1 ∨ dep = 2 ∨ dep = 3 ∨ dep = 4 by omega) with h | h | h | h <;> subst h <;> (cases hl; rfl)
theorem wk_ends_push {dep e0 e1 e2 e3 t4 r : Nat} (h : dep ≤ 3) : wk_ends (dep + 1) e0 (if nI (dep + 1) = 1 then r else (e1)) (if nI (dep + 1) = 1 then e2 else (if nI (dep + 1) = 2 then r else (e2))) (if nI (dep + 1) = 1 then e3 else (if nI (dep + 1) = 2 then e3 else (if nI (dep + 1) = 3 then r else (e3)))) (if nI (dep + 1) = 1 then t4 else (if nI (dep + 1) = 2 then t4 else (if nI (dep + 1) = 3 then t4 else (r)))) = r :: wk_ends dep e0 e1 e2 e3 t4 := by
  rcases (show dep = 0 ∨ dep = 1 ∨ dep = 2 ∨ dep = 3 by omega) with h | h | h | h <;> subst h <;> rfl
