theorem th_C {α : Type} (a b : List α) : (List.range a.length).map (fun i => (a ++ b)[i]?) = a.map some := by
  apply List.ext_getElem?
  intro i
  rw [List.getElem?_map, List.getElem?_map]
  by_cases h : i < a.length
  · rw [List.getElem?_range h]
    show some ((a ++ b)[i]?) = _
    rw [List.getElem?_append_left h, List.getElem?_eq_getElem h]
    rfl
  · rw [List.getElem?_eq_none (by rw [List.length_range]; omega), List.getElem?_eq_none (by omega)]
    rfl
theorem th_R {α : Type} (a b : List α) : ((List.range b.length).map (a.length + ·)).map (fun i => (a ++ b)[i]?) = b.map some := by
  rw [List.map_map]
  have e : ((fun i => (a ++ b)[i]?) ∘ fun x => a.length + x) = fun i => b[i]? := by
    funext i
    show (a ++ b)[a.length + i]? = b[i]?
    rw [List.getElem?_append_right (by omega)]
    congr 1
    omega
  rw [e]
  have := th_C b []
  rw [List.append_nil] at this
  exact this
theorem nd_of : ∀ {l : List Nat}, l.Nodup → va_nd l = true
  | [], _ => rfl
  | a :: l, h => by
    rw [List.nodup_cons] at h
    rw [va_nd, decide_eq_true h.1, nd_of h.2]
    rfl
theorem th_nC (n : Nat) : va_nd (List.range n) = true := nd_of List.nodup_range
theorem th_nR (n k : Nat) : va_nd ((List.range n).map (k + ·)) = true := nd_of (List.Pairwise.map _ (fun a b h q => h (Nat.add_left_cancel q)) List.nodup_range)
theorem th_d (n k : Nat) : ∀ i ∈ (List.range n).map (k + ·), i ∉ List.range k := by
  intro i hi hk
  obtain ⟨j, _, rfl⟩ := List.mem_map.mp hi
  have := List.mem_range.mp hk
  omega
theorem vd_nd {A : Nat → Prop} {ws : va_W} (h : va_D A ws) : (ws.map (·.1)).Nodup := by
  rw [List.Nodup, List.pairwise_iff_getElem]
  intro i j hi hj hij e
  rw [List.length_map] at hi hj
  rw [List.getElem_map, List.getElem_map] at e
  have := h.1 i j _ _ (List.getElem?_eq_getElem hi) (List.getElem?_eq_getElem hj) e
  omega
theorem nd_vd {A : Nat → Prop} {ws : va_W} (h : (ws.map (·.1)).Nodup) (hA : ∀ q ∈ ws, A q.1) : va_D A ws := by
  rw [List.Nodup, List.pairwise_iff_getElem] at h
  refine ⟨fun i j p q hi hj e => ?_, fun k q hk => hA q (List.mem_of_getElem? hk)⟩
  obtain ⟨li, ei⟩ := List.getElem?_eq_some_iff.mp hi
  obtain ⟨lj, ej⟩ := List.getElem?_eq_some_iff.mp hj
  rcases Nat.lt_trichotomy i j with c | c | c
  · refine absurd ?_ (h i j (by rw [List.length_map]; exact li) (by rw [List.length_map]; exact lj) c)
    rw [List.getElem_map, List.getElem_map, ei, ej]; exact e
  · exact c
  · refine absurd ?_ (h j i (by rw [List.length_map]; exact lj) (by rw [List.length_map]; exact li) c)
    rw [List.getElem_map, List.getElem_map, ei, ej]; exact e.symm
theorem pm_D {A : Nat → Prop} {ws ws' : va_W} (h : ws.Perm ws') (hD : va_D A ws) : va_D A ws' := nd_vd ((h.map _).nodup_iff.mp (vd_nd hD)) (fun q hq => by
  obtain ⟨k, hk⟩ := List.getElem?_of_mem (h.mem_iff.mpr hq)
  exact hD.2 k q hk)
/-- an explicit list in another order -/
theorem pm_ix {α : Type} {X X' T : List α} (n : Nat) (hn : X.length = n) (is : List Nat) (hp : is.Perm (List.range n)) (hX : is.map (fun i => X[i]?) = X'.map some) : (X ++ T).Perm (X' ++ T) := by
  subst hn
  refine List.Perm.append_right T ?_
  have h1 : (X.map some).Perm (X'.map some) := by
    rw [← hX]
    have e := th_C X []
    rw [List.append_nil] at e
    rw [← e]
    exact (hp.map _).symm
  have h2 := h1.filterMap id
  rw [List.filterMap_map, List.filterMap_map] at h2
  have e : (id ∘ some : α → Option α) = some := rfl
  rw [e, List.filterMap_some, List.filterMap_some] at h2
  exact h2
theorem th_id {α : Type} (a : List α) : (List.range a.length).map (fun i => a[i]?) = a.map some := by
  have := th_C a []
  rwa [List.append_nil] at this
theorem pm_head {α : Type} {X A B T : List α} (n : Nat) (hn : X.length = n) (is : List Nat) (hp : is.Perm (List.range n)) (hX : is.map (fun i => X[i]?) = (A ++ B).map some) : (X ++ T).Perm (A ++ (B ++ T)) := by
  rw [← List.append_assoc]
  exact pm_ix n hn is hp hX
theorem pm_tail {α : Type} {X A B T : List α} (n : Nat) (hn : X.length = n) (is : List Nat) (hp : is.Perm (List.range n)) (hX : is.map (fun i => X[i]?) = (A ++ B).map some) : (X ++ T).Perm ((A ++ T) ++ B) := by
  refine (pm_head n hn is hp hX).trans ?_
  rw [List.append_assoc]
  exact List.Perm.append_left A List.perm_append_comm
/-- one of four lists, and the others -/
def cs_at {α : Type} (w0 w1 w2 w3 : List α) : Nat → List α
  | 0 => w0
  | 1 => w1
  | 2 => w2
  | _ => w3
def cs_all {α : Type} (w : Nat → List α) : List α := w 0 ++ (w 1 ++ (w 2 ++ w 3))
def cs_set {α : Type} (w : Nat → List α) (c : Nat) (x : List α) : Nat → List α := fun j => if j = c then x else w j
def cs_rest {α : Type} (w : Nat → List α) (c : Nat) : List α := if c = 0 then w 1 ++ (w 2 ++ w 3) else if c = 1 then w 0 ++ (w 2 ++ w 3) else if c = 2 then w 0 ++ (w 1 ++ w 3) else w 0 ++ (w 1 ++ w 2)
theorem cs_out {α : Type} (w : Nat → List α) {c : Nat} (h : c < 4) : (cs_all w).Perm (w c ++ cs_rest w c) := by
  unfold cs_all cs_rest
  rcases (show c = 0 ∨ c = 1 ∨ c = 2 ∨ c = 3 by omega) with e | e | e | e <;> subst e
  · exact List.Perm.refl _
  · rw [if_neg (by decide), if_pos rfl]
    exact List.perm_append_comm_assoc _ _ _
  · rw [if_neg (by decide), if_neg (by decide), if_pos rfl]
    refine List.Perm.trans (List.Perm.append_left _ (List.perm_append_comm_assoc _ _ _)) ?_
    exact List.perm_append_comm_assoc _ _ _
  · rw [if_neg (by decide), if_neg (by decide), if_neg (by decide)]
    rw [← List.append_assoc (w 1), ← List.append_assoc (w 0)]
    exact List.perm_append_comm
theorem cs_rest_set {α : Type} (w : Nat → List α) (c : Nat) (x : List α) (h : c < 4) : cs_rest (cs_set w c x) c = cs_rest w c := by
  unfold cs_rest cs_set
  rcases (show c = 0 ∨ c = 1 ∨ c = 2 ∨ c = 3 by omega) with e | e | e | e <;> subst e <;> rfl
theorem cs_in {α : Type} (w : Nat → List α) {c : Nat} (h : c < 4) (x : List α) : (x ++ cs_rest w c).Perm (cs_all (cs_set w c x)) := by
  have := (cs_out (cs_set w c x) h).symm
  rw [cs_rest_set w c x h] at this
  have e : cs_set w c x c = x := by unfold cs_set; rw [if_pos rfl]
  rw [e] at this
  exact this
