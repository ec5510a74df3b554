/-- all words of the tables that a call keeps; every method's words are its own code and these -/
def bw_B : List Cond := lw_tbl.filter goodWord
theorem bw_good {w : Cond} (h : w ∈ bw_B) : goodWord w = true := (List.mem_filter.mp h).2
theorem bw_t {w : Cond} (h : w ∈ tables_1) (g : goodWord w = true) : w ∈ bw_B := List.mem_filter.mpr ⟨List.mem_append_right _ h, g⟩
theorem bw_s {q : MethodName × Nat} (h : q ∈ lw_privs) (g : goodWord (Cond.selects q.1.cls q.1 q.1) = true) : Cond.selects q.1.cls q.1 q.1 ∈ bw_B := List.mem_filter.mpr ⟨List.mem_append_left _ (List.mem_map.mpr ⟨q, h, rfl⟩), g⟩
theorem bw_1 {w : Cond} (h : w ∈ tables_1_1) (g : goodWord w = true) : w ∈ bw_B := bw_t (List.mem_append_left _ h) g
theorem bw_2 {w : Cond} (h : w ∈ tables_1_2) (g : goodWord w = true) : w ∈ bw_B := bw_t (List.mem_append_right _ (List.mem_append_left _ h)) g
theorem bw_3 {w : Cond} (h : w ∈ tables_1_3) (g : goodWord w = true) : w ∈ bw_B := bw_t (List.mem_append_right _ (List.mem_append_right _ (List.mem_append_left _ h))) g
theorem bw_4 {w : Cond} (h : w ∈ tables_1_4) (g : goodWord w = true) : w ∈ bw_B := bw_t (List.mem_append_right _ (List.mem_append_right _ (List.mem_append_right _ (List.mem_append_left _ h)))) g
theorem bw_5 {w : Cond} (h : w ∈ tables_1_5) (g : goodWord w = true) : w ∈ bw_B := bw_t (List.mem_append_right _ (List.mem_append_right _ (List.mem_append_right _ (List.mem_append_right _ h)))) g
theorem bw_in {c0 cy : Cond} (h : cy ∈ bw_B) : GoodIn (c0 :: bw_B) (cy :: bw_B) := fun w hw => by
  rcases List.mem_cons.mp hw with rfl | hw
  · exact ⟨List.mem_cons_of_mem _ h, good_of_word (bw_good h)⟩
  · exact ⟨List.mem_cons_of_mem _ hw, good_of_word (bw_good hw)⟩
theorem bw_app {c0 : Cond} {a b : List Cond} (h : ∀ w ∈ a, w ∈ bw_B) (hb : GoodIn (c0 :: bw_B) b) : GoodIn (c0 :: bw_B) (a ++ b) := fun w hw => by
  rcases List.mem_append.mp hw with hw | hw
  · exact ⟨List.mem_cons_of_mem _ (h w hw), good_of_word (bw_good (h w hw))⟩
  · exact hb w hw
theorem bw_4w {a b c d : Cond} (h1 : a ∈ bw_B) (h2 : b ∈ bw_B) (h3 : c ∈ bw_B) (h4 : d ∈ bw_B) : ∀ w ∈ [a, b, c, d], w ∈ bw_B := fun w hw => by
  rcases List.mem_cons.mp hw with rfl | hw
  · exact h1
  rcases List.mem_cons.mp hw with rfl | hw
  · exact h2
  rcases List.mem_cons.mp hw with rfl | hw
  · exact h3
  rcases List.mem_cons.mp hw with rfl | hw
  · exact h4
  cases hw
theorem bw_3w {a b c : Cond} (h1 : a ∈ bw_B) (h2 : b ∈ bw_B) (h3 : c ∈ bw_B) : ∀ w ∈ [a, b, c], w ∈ bw_B := fun w hw => by
  rcases List.mem_cons.mp hw with rfl | hw
  · exact h1
  rcases List.mem_cons.mp hw with rfl | hw
  · exact h2
  rcases List.mem_cons.mp hw with rfl | hw
  · exact h3
  cases hw
theorem gw_lk {p : Program} {m : MethodId} {c : Code} {cc : ByteArray} {nL : Nat} {s : State} {args : Array Value} {c0 : Cond} {own : String} (S : CallFix p m c cc nL s args (c0 :: bw_B) own) {w : Cond} (h : w ∈ bw_B) : w.before args s = true := S.2.2.2.2 _ (List.mem_cons_of_mem _ h)
/-- the nest's words, and what is castable -/
def bw_N : List Cond := [(Cond.methodLinkNest "PayChain" (26 : Nat) ({ cls := "PayChain$Terminal", name := "<init>", desc := "()V" } : MethodName) "PayChain"), (Cond.methodLinkNest "PayChain" (33 : Nat) ({ cls := "PayChain$Host", name := "<init>", desc := "()V" } : MethodName) "PayChain"), (Cond.fieldLinkNest "PayChain" (192 : Nat) "PayChain$Host" "standing" "I" "PayChain"), (Cond.methodLinkNest "PayChain" (40 : Nat) ({ cls := "PayChain$Payment", name := "<init>", desc := "()V" } : MethodName) "PayChain"), (Cond.fieldLinkNest "PayChain" (164 : Nat) "PayChain$Payment" "data" "LPayChain$Row;" "PayChain"), (Cond.fieldLinkNest "PayChain$Reversal" (7 : Nat) "PayChain$Payment" "number" "I" "PayChain"), (Cond.fieldLinkNest "PayChain" (191 : Nat) "PayChain$Payment" "number" "I" "PayChain"), (Cond.fieldLinkNest "PayChain$Reversal" (19 : Nat) "PayChain$Payment" "amount" "I" "PayChain"), (Cond.fieldLinkNest "PayChain" (121 : Nat) "PayChain$Payment" "outcome" "I" "PayChain"), (Cond.fieldLinkNest "PayChain$Reversal" (23 : Nat) "PayChain$Payment" "code" "I" "PayChain"), (Cond.methodLinkNest "PayChain" (52 : Nat) ({ cls := "PayChain$Card", name := "<init>", desc := "()V" } : MethodName) "PayChain"), (Cond.methodLinkNest "PayChain$Card" (11 : Nat) ({ cls := "PayChain$ObjectTree", name := "<init>", desc := "()V" } : MethodName) "PayChain"), (Cond.fieldLinkNest "PayChain$Payment" (90 : Nat) "PayChain$Card" "key" "I" "PayChain"), (Cond.fieldLinkNest "PayChain$Payment" (45 : Nat) "PayChain$Card" "counter" "I" "PayChain"), (Cond.fieldLinkNest "PayChain$Payment" (106 : Nat) "PayChain$Card" "run" "I" "PayChain"), (Cond.fieldLinkNest "PayChain$Payment" (63 : Nat) "PayChain$Card" "seen" "Z" "PayChain"), (Cond.fieldLinkNest "PayChain" (133 : Nat) "PayChain$Card" "accountNumber" "I" "PayChain"), (Cond.fieldLinkNest "PayChain$Payment" (212 : Nat) "PayChain$Card" "accountNumber" "I" "PayChain"), (Cond.fieldLinkNest "PayChain$Payment" (56 : Nat) "PayChain$Card" "endDay" "I" "PayChain"), (Cond.fieldLinkNest "PayChain$Payment" (187 : Nat) "PayChain$Card" "maskDefault" "I" "PayChain"), (Cond.fieldLinkNest "PayChain$Payment" (171 : Nat) "PayChain$Card" "maskDenial" "I" "PayChain"), (Cond.fieldLinkNest "PayChain$Payment" (182 : Nat) "PayChain$Card" "maskOnline" "I" "PayChain"), (Cond.fieldLinkNest "PayChain$Payment" (159 : Nat) "PayChain$Card" "lower" "I" "PayChain"), (Cond.fieldLinkNest "PayChain$Payment" (162 : Nat) "PayChain$Card" "upper" "I" "PayChain"), (Cond.methodLinkNest "PayChain$Tag" (17 : Nat) ({ cls := "PayChain", name := "isWithin", desc := "(III)Z" } : MethodName) "PayChain"), (Cond.methodLinkNest "PayChain$Card" (91 : Nat) ({ cls := "PayChain", name := "isWithin", desc := "(III)Z" } : MethodName) "PayChain"), (Cond.methodLinkNest "PayChain$Host" (26 : Nat) ({ cls := "PayChain", name := "isWithin", desc := "(III)Z" } : MethodName) "PayChain"), (Cond.methodLinkNest "PayChain$Terminal" (15 : Nat) ({ cls := "PayChain", name := "isWithin", desc := "(III)Z" } : MethodName) "PayChain"), (Cond.fieldLinkNest "PayChain" (188 : Nat) "PayChain$Reversal" "number" "I" "PayChain"), (Cond.fieldLinkNest "PayChain$Host" (52 : Nat) "PayChain$Reversal" "account" "I" "PayChain"), (Cond.fieldLinkNest "PayChain$Host" (55 : Nat) "PayChain$Reversal" "amount" "I" "PayChain"), (Cond.fieldLinkNest "PayChain$Host" (46 : Nat) "PayChain$Reversal" "isDue" "Z" "PayChain"), (Cond.castable "PayChain$Reversal" "PayChain$Reversal"), (Cond.declares ({ cls := "java/lang/Object", name := "getClass", desc := "()Ljava/lang/Class;" } : MethodName)), (Cond.castable "PayChain" "java/lang/Object"), (Cond.castable "PayChain$Row" "java/lang/Object"), (Cond.castable "PayChain$Terminal" "java/lang/Object"), (Cond.castable "PayChain$Host" "java/lang/Object"), (Cond.castable "PayChain$Payment" "java/lang/Object"), (Cond.castable "PayChain$Card" "java/lang/Object"), (Cond.castable "PayChain$ObjectTree" "java/lang/Object"), (Cond.castable "PayChainModel" "java/lang/Object"), (Cond.castable "PayChain$Reversal" "java/lang/Object")]
theorem mn_47 : (Cond.methodLinkNest "PayChain" (26 : Nat) ({ cls := "PayChain$Terminal", name := "<init>", desc := "()V" } : MethodName) "PayChain") ∈ bw_N := List.mem_of_getElem? (i := 0) rfl
theorem mn_57 : (Cond.methodLinkNest "PayChain" (33 : Nat) ({ cls := "PayChain$Host", name := "<init>", desc := "()V" } : MethodName) "PayChain") ∈ bw_N := List.mem_of_getElem? (i := 1) rfl
theorem mn_65 : (Cond.fieldLinkNest "PayChain" (192 : Nat) "PayChain$Host" "standing" "I" "PayChain") ∈ bw_N := List.mem_of_getElem? (i := 2) rfl
theorem mn_78 : (Cond.methodLinkNest "PayChain" (40 : Nat) ({ cls := "PayChain$Payment", name := "<init>", desc := "()V" } : MethodName) "PayChain") ∈ bw_N := List.mem_of_getElem? (i := 3) rfl
theorem mn_85 : (Cond.fieldLinkNest "PayChain" (164 : Nat) "PayChain$Payment" "data" "LPayChain$Row;" "PayChain") ∈ bw_N := List.mem_of_getElem? (i := 4) rfl
theorem mn_86 : (Cond.fieldLinkNest "PayChain$Reversal" (7 : Nat) "PayChain$Payment" "number" "I" "PayChain") ∈ bw_N := List.mem_of_getElem? (i := 5) rfl
theorem mn_88 : (Cond.fieldLinkNest "PayChain" (191 : Nat) "PayChain$Payment" "number" "I" "PayChain") ∈ bw_N := List.mem_of_getElem? (i := 6) rfl
theorem mn_89 : (Cond.fieldLinkNest "PayChain$Reversal" (19 : Nat) "PayChain$Payment" "amount" "I" "PayChain") ∈ bw_N := List.mem_of_getElem? (i := 7) rfl
theorem mn_94 : (Cond.fieldLinkNest "PayChain" (121 : Nat) "PayChain$Payment" "outcome" "I" "PayChain") ∈ bw_N := List.mem_of_getElem? (i := 8) rfl
theorem mn_101 : (Cond.fieldLinkNest "PayChain$Reversal" (23 : Nat) "PayChain$Payment" "code" "I" "PayChain") ∈ bw_N := List.mem_of_getElem? (i := 9) rfl
theorem mn_157 : (Cond.methodLinkNest "PayChain" (52 : Nat) ({ cls := "PayChain$Card", name := "<init>", desc := "()V" } : MethodName) "PayChain") ∈ bw_N := List.mem_of_getElem? (i := 10) rfl
theorem mn_163 : (Cond.methodLinkNest "PayChain$Card" (11 : Nat) ({ cls := "PayChain$ObjectTree", name := "<init>", desc := "()V" } : MethodName) "PayChain") ∈ bw_N := List.mem_of_getElem? (i := 11) rfl
theorem mn_192 : (Cond.fieldLinkNest "PayChain$Payment" (90 : Nat) "PayChain$Card" "key" "I" "PayChain") ∈ bw_N := List.mem_of_getElem? (i := 12) rfl
theorem mn_196 : (Cond.fieldLinkNest "PayChain$Payment" (45 : Nat) "PayChain$Card" "counter" "I" "PayChain") ∈ bw_N := List.mem_of_getElem? (i := 13) rfl
theorem mn_198 : (Cond.fieldLinkNest "PayChain$Payment" (106 : Nat) "PayChain$Card" "run" "I" "PayChain") ∈ bw_N := List.mem_of_getElem? (i := 14) rfl
theorem mn_200 : (Cond.fieldLinkNest "PayChain$Payment" (63 : Nat) "PayChain$Card" "seen" "Z" "PayChain") ∈ bw_N := List.mem_of_getElem? (i := 15) rfl
theorem mn_202 : (Cond.fieldLinkNest "PayChain" (133 : Nat) "PayChain$Card" "accountNumber" "I" "PayChain") ∈ bw_N := List.mem_of_getElem? (i := 16) rfl
theorem mn_203 : (Cond.fieldLinkNest "PayChain$Payment" (212 : Nat) "PayChain$Card" "accountNumber" "I" "PayChain") ∈ bw_N := List.mem_of_getElem? (i := 17) rfl
theorem mn_205 : (Cond.fieldLinkNest "PayChain$Payment" (56 : Nat) "PayChain$Card" "endDay" "I" "PayChain") ∈ bw_N := List.mem_of_getElem? (i := 18) rfl
theorem mn_207 : (Cond.fieldLinkNest "PayChain$Payment" (187 : Nat) "PayChain$Card" "maskDefault" "I" "PayChain") ∈ bw_N := List.mem_of_getElem? (i := 19) rfl
theorem mn_209 : (Cond.fieldLinkNest "PayChain$Payment" (171 : Nat) "PayChain$Card" "maskDenial" "I" "PayChain") ∈ bw_N := List.mem_of_getElem? (i := 20) rfl
theorem mn_211 : (Cond.fieldLinkNest "PayChain$Payment" (182 : Nat) "PayChain$Card" "maskOnline" "I" "PayChain") ∈ bw_N := List.mem_of_getElem? (i := 21) rfl
theorem mn_213 : (Cond.fieldLinkNest "PayChain$Payment" (159 : Nat) "PayChain$Card" "lower" "I" "PayChain") ∈ bw_N := List.mem_of_getElem? (i := 22) rfl
theorem mn_215 : (Cond.fieldLinkNest "PayChain$Payment" (162 : Nat) "PayChain$Card" "upper" "I" "PayChain") ∈ bw_N := List.mem_of_getElem? (i := 23) rfl
theorem mn_326 : (Cond.methodLinkNest "PayChain$Tag" (17 : Nat) ({ cls := "PayChain", name := "isWithin", desc := "(III)Z" } : MethodName) "PayChain") ∈ bw_N := List.mem_of_getElem? (i := 24) rfl
theorem mn_386 : (Cond.methodLinkNest "PayChain$Card" (91 : Nat) ({ cls := "PayChain", name := "isWithin", desc := "(III)Z" } : MethodName) "PayChain") ∈ bw_N := List.mem_of_getElem? (i := 25) rfl
theorem mn_421 : (Cond.methodLinkNest "PayChain$Host" (26 : Nat) ({ cls := "PayChain", name := "isWithin", desc := "(III)Z" } : MethodName) "PayChain") ∈ bw_N := List.mem_of_getElem? (i := 26) rfl
theorem mn_432 : (Cond.methodLinkNest "PayChain$Terminal" (15 : Nat) ({ cls := "PayChain", name := "isWithin", desc := "(III)Z" } : MethodName) "PayChain") ∈ bw_N := List.mem_of_getElem? (i := 27) rfl
theorem mn_609 : (Cond.fieldLinkNest "PayChain" (188 : Nat) "PayChain$Reversal" "number" "I" "PayChain") ∈ bw_N := List.mem_of_getElem? (i := 28) rfl
theorem mn_611 : (Cond.fieldLinkNest "PayChain$Host" (52 : Nat) "PayChain$Reversal" "account" "I" "PayChain") ∈ bw_N := List.mem_of_getElem? (i := 29) rfl
theorem mn_613 : (Cond.fieldLinkNest "PayChain$Host" (55 : Nat) "PayChain$Reversal" "amount" "I" "PayChain") ∈ bw_N := List.mem_of_getElem? (i := 30) rfl
theorem mn_615 : (Cond.fieldLinkNest "PayChain$Host" (46 : Nat) "PayChain$Reversal" "isDue" "Z" "PayChain") ∈ bw_N := List.mem_of_getElem? (i := 31) rfl
theorem mn_1036 : (Cond.castable "PayChain$Reversal" "PayChain$Reversal") ∈ bw_N := List.mem_of_getElem? (i := 32) rfl
theorem mn_1039 : (Cond.declares ({ cls := "java/lang/Object", name := "getClass", desc := "()Ljava/lang/Class;" } : MethodName)) ∈ bw_N := List.mem_of_getElem? (i := 33) rfl
theorem mn_1040 : (Cond.castable "PayChain" "java/lang/Object") ∈ bw_N := List.mem_of_getElem? (i := 34) rfl
theorem mn_1041 : (Cond.castable "PayChain$Row" "java/lang/Object") ∈ bw_N := List.mem_of_getElem? (i := 35) rfl
theorem mn_1042 : (Cond.castable "PayChain$Terminal" "java/lang/Object") ∈ bw_N := List.mem_of_getElem? (i := 36) rfl
theorem mn_1043 : (Cond.castable "PayChain$Host" "java/lang/Object") ∈ bw_N := List.mem_of_getElem? (i := 37) rfl
theorem mn_1044 : (Cond.castable "PayChain$Payment" "java/lang/Object") ∈ bw_N := List.mem_of_getElem? (i := 38) rfl
theorem mn_1045 : (Cond.castable "PayChain$Card" "java/lang/Object") ∈ bw_N := List.mem_of_getElem? (i := 39) rfl
theorem mn_1046 : (Cond.castable "PayChain$ObjectTree" "java/lang/Object") ∈ bw_N := List.mem_of_getElem? (i := 40) rfl
theorem mn_1047 : (Cond.castable "PayChainModel" "java/lang/Object") ∈ bw_N := List.mem_of_getElem? (i := 41) rfl
theorem mn_1048 : (Cond.castable "PayChain$Reversal" "java/lang/Object") ∈ bw_N := List.mem_of_getElem? (i := 42) rfl
def rn_Row : String := "PayChain$Row"
def tb_Row : u_T := fun k => match k with
  | 0 => ("PayChain$Row", "bytes", "[I", true)
  | _ => ("PayChain$Row", "length", "I", false)
def ty_Row : Nat → FieldType := fun k => match k with
  | 0 => .array .int
  | _ => .int
theorem nm_Row : ∀ a, a < 2 → ∀ b, b < 2 → a ≠ b → (tb_Row a).2.1 ≠ (tb_Row b).2.1 := by decide +kernel
theorem to_Row : ∀ k, k < 2 → parseFieldDescriptor (tb_Row k).2.2.1 = some (ty_Row k) := by decide +kernel
def rn_Term : String := "PayChain$Terminal"
def tb_Term : u_T := fun k => match k with
  | _ => ("PayChain$Terminal", "settings", "[I", true)
def ty_Term : Nat → FieldType := fun k => match k with
  | _ => .array .int
theorem nm_Term : ∀ a, a < 1 → ∀ b, b < 1 → a ≠ b → (tb_Term a).2.1 ≠ (tb_Term b).2.1 := by decide +kernel
theorem to_Term : ∀ k, k < 1 → parseFieldDescriptor (tb_Term k).2.2.1 = some (ty_Term k) := by decide +kernel
def rn_Host : String := "PayChain$Host"
def tb_Host : u_T := fun k => match k with
  | 0 => ("PayChain$Host", "balances", "[J", true)
  | 1 => ("PayChain$Host", "keys", "[I", true)
  | 2 => ("PayChain$Host", "lasts", "[I", true)
  | _ => ("PayChain$Host", "standing", "I", false)
def ty_Host : Nat → FieldType := fun k => match k with
  | 0 => .array .long
  | 1 => .array .int
  | 2 => .array .int
  | _ => .int
theorem nm_Host : ∀ a, a < 4 → ∀ b, b < 4 → a ≠ b → (tb_Host a).2.1 ≠ (tb_Host b).2.1 := by decide +kernel
theorem to_Host : ∀ k, k < 4 → parseFieldDescriptor (tb_Host k).2.2.1 = some (ty_Host k) := by decide +kernel
def rn_Pmt : String := "PayChain$Payment"
def tb_Pmt : u_T := fun k => match k with
  | 0 => ("PayChain$Payment", "data", "LPayChain$Row;", true)
  | 1 => ("PayChain$Payment", "number", "I", false)
  | 2 => ("PayChain$Payment", "amount", "I", false)
  | 3 => ("PayChain$Payment", "typed", "I", false)
  | 4 => ("PayChain$Payment", "fate", "I", false)
  | 5 => ("PayChain$Payment", "outcome", "I", false)
  | 6 => ("PayChain$Payment", "flags", "I", false)
  | 7 => ("PayChain$Payment", "wish", "I", false)
  | 8 => ("PayChain$Payment", "firstAnswer", "I", false)
  | 9 => ("PayChain$Payment", "firstCryptogram", "I", false)
  | 10 => ("PayChain$Payment", "secondAnswer", "I", false)
  | 11 => ("PayChain$Payment", "secondCryptogram", "I", false)
  | _ => ("PayChain$Payment", "code", "I", false)
def ty_Pmt : Nat → FieldType := fun k => match k with
  | 0 => .object "PayChain$Row"
  | 1 => .int
  | 2 => .int
  | 3 => .int
  | 4 => .int
  | 5 => .int
  | 6 => .int
  | 7 => .int
  | 8 => .int
  | 9 => .int
  | 10 => .int
  | 11 => .int
  | _ => .int
theorem nm_Pmt : ∀ a, a < 13 → ∀ b, b < 13 → a ≠ b → (tb_Pmt a).2.1 ≠ (tb_Pmt b).2.1 := by decide +kernel
theorem to_Pmt : ∀ k, k < 13 → parseFieldDescriptor (tb_Pmt k).2.2.1 = some (ty_Pmt k) := by decide +kernel
def rn_Tree : String := "PayChain$ObjectTree"
def tb_Tree : u_T := fun k => match k with
  | 0 => ("PayChain$ObjectTree", "row", "LPayChain$Row;", true)
  | 1 => ("PayChain$ObjectTree", "tags", "[I", true)
  | 2 => ("PayChain$ObjectTree", "starts", "[I", true)
  | 3 => ("PayChain$ObjectTree", "lengths", "[I", true)
  | 4 => ("PayChain$ObjectTree", "inner", "[I", true)
  | _ => ("PayChain$ObjectTree", "size", "I", false)
def ty_Tree : Nat → FieldType := fun k => match k with
  | 0 => .object "PayChain$Row"
  | 1 => .array .int
  | 2 => .array .int
  | 3 => .array .int
  | 4 => .array .int
  | _ => .int
theorem nm_Tree : ∀ a, a < 6 → ∀ b, b < 6 → a ≠ b → (tb_Tree a).2.1 ≠ (tb_Tree b).2.1 := by decide +kernel
theorem to_Tree : ∀ k, k < 6 → parseFieldDescriptor (tb_Tree k).2.2.1 = some (ty_Tree k) := by decide +kernel
def rn_Card : String := "PayChain$Card"
def tb_Card : u_T := fun k => match k with
  | 0 => ("PayChain$Card", "objects", "LPayChain$ObjectTree;", true)
  | 1 => ("PayChain$Card", "key", "I", false)
  | 2 => ("PayChain$Card", "pin", "I", false)
  | 3 => ("PayChain$Card", "tries", "I", false)
  | 4 => ("PayChain$Card", "counter", "I", false)
  | 5 => ("PayChain$Card", "run", "I", false)
  | 6 => ("PayChain$Card", "seen", "Z", false)
  | 7 => ("PayChain$Card", "accountNumber", "I", false)
  | 8 => ("PayChain$Card", "endDay", "I", false)
  | 9 => ("PayChain$Card", "maskDefault", "I", false)
  | 10 => ("PayChain$Card", "maskDenial", "I", false)
  | 11 => ("PayChain$Card", "maskOnline", "I", false)
  | 12 => ("PayChain$Card", "lower", "I", false)
  | _ => ("PayChain$Card", "upper", "I", false)
def ty_Card : Nat → FieldType := fun k => match k with
  | 0 => .object "PayChain$ObjectTree"
  | 1 => .int
  | 2 => .int
  | 3 => .int
  | 4 => .int
  | 5 => .int
  | 6 => .boolean
  | 7 => .int
  | 8 => .int
  | 9 => .int
  | 10 => .int
  | 11 => .int
  | 12 => .int
  | _ => .int
theorem nm_Card : ∀ a, a < 14 → ∀ b, b < 14 → a ≠ b → (tb_Card a).2.1 ≠ (tb_Card b).2.1 := by decide +kernel
theorem to_Card : ∀ k, k < 14 → parseFieldDescriptor (tb_Card k).2.2.1 = some (ty_Card k) := by decide +kernel
def rn_Rev : String := "PayChain$Reversal"
def tb_Rev : u_T := fun k => match k with
  | 0 => ("PayChain$Reversal", "number", "I", true)
  | 1 => ("PayChain$Reversal", "account", "I", true)
  | 2 => ("PayChain$Reversal", "amount", "I", true)
  | _ => ("PayChain$Reversal", "isDue", "Z", false)
def ty_Rev : Nat → FieldType := fun k => match k with
  | 0 => .int
  | 1 => .int
  | 2 => .int
  | _ => .boolean
theorem nm_Rev : ∀ a, a < 4 → ∀ b, b < 4 → a ≠ b → (tb_Rev a).2.1 ≠ (tb_Rev b).2.1 := by decide +kernel
theorem to_Rev : ∀ k, k < 4 → parseFieldDescriptor (tb_Rev k).2.2.1 = some (ty_Rev k) := by decide +kernel
def rn_PC : String := "PayChain"
def tb_PC : u_T := fun k => match k with
  | 0 => ("PayChain", "text", "LPayChain$Row;", true)
  | 1 => ("PayChain", "cards", "[LPayChain$Card;", true)
  | 2 => ("PayChain", "terminal", "LPayChain$Terminal;", true)
  | 3 => ("PayChain", "host", "LPayChain$Host;", true)
  | 4 => ("PayChain", "payment", "LPayChain$Payment;", true)
  | 5 => ("PayChain", "queue", "Ljava/util/ArrayList;", true)
  | 6 => ("PayChain", "spare", "LPayChain$Card;", false)
  | 7 => ("PayChain", "placeOfMake", "I", false)
  | _ => ("PayChain", "approvedPayments", "I", false)
def ty_PC : Nat → FieldType := fun k => match k with
  | 0 => .object "PayChain$Row"
  | 1 => .array (.object "PayChain$Card")
  | 2 => .object "PayChain$Terminal"
  | 3 => .object "PayChain$Host"
  | 4 => .object "PayChain$Payment"
  | 5 => .object "java/util/ArrayList"
  | 6 => .object "PayChain$Card"
  | 7 => .int
  | _ => .int
theorem nm_PC : ∀ a, a < 9 → ∀ b, b < 9 → a ≠ b → (tb_PC a).2.1 ≠ (tb_PC b).2.1 := by decide +kernel
theorem to_PC : ∀ k, k < 9 → parseFieldDescriptor (tb_PC k).2.2.1 = some (ty_PC k) := by decide +kernel
def rn_AL : String := "java/util/ArrayList"
def tb_AL : u_T := fun k => match k with
  | 0 => ("java/util/ArrayList", "elementData", "[Ljava/lang/Object;", false)
  | 1 => ("java/util/ArrayList", "size", "I", false)
  | _ => ("java/util/AbstractList", "modCount", "I", false)
def ty_AL : Nat → FieldType := fun k => match k with
  | 0 => .array (.object "java/lang/Object")
  | 1 => .int
  | _ => .int
theorem nm_AL : ∀ a, a < 3 → ∀ b, b < 3 → a ≠ b → (tb_AL a).2.1 ≠ (tb_AL b).2.1 := by decide +kernel
theorem to_AL : ∀ k, k < 3 → parseFieldDescriptor (tb_AL k).2.2.1 = some (ty_AL k) := by decide +kernel
def rn_Mod : String := "PayChainModel"
def tb_Mod : u_T := fun k => match k with
  | 0 => ("PayChainModel", "mem", "[I", true)
  | 1 => ("PayChainModel", "size", "[I", true)
  | 2 => ("PayChainModel", "there", "[Z", true)
  | 3 => ("PayChainModel", "keys", "[I", true)
  | 4 => ("PayChainModel", "pins", "[I", true)
  | 5 => ("PayChainModel", "tries", "[I", true)
  | 6 => ("PayChainModel", "counter", "[I", true)
  | 7 => ("PayChainModel", "run", "[I", true)
  | 8 => ("PayChainModel", "seen", "[Z", true)
  | 9 => ("PayChainModel", "balance", "[I", true)
  | 10 => ("PayChainModel", "accountKey", "[I", true)
  | 11 => ("PayChainModel", "latest", "[I", true)
  | 12 => ("PayChainModel", "setting", "[I", true)
  | 13 => ("PayChainModel", "place", "I", false)
  | 14 => ("PayChainModel", "from", "I", false)
  | 15 => ("PayChainModel", "to", "I", false)
  | 16 => ("PayChainModel", "inner", "I", false)
  | 17 => ("PayChainModel", "badAt", "I", false)
  | 18 => ("PayChainModel", "payments", "I", false)
  | 19 => ("PayChainModel", "payAccount", "[I", true)
  | 20 => ("PayChainModel", "payAmount", "[I", true)
  | 21 => ("PayChainModel", "payCode", "[I", true)
  | 22 => ("PayChainModel", "payBack", "[Z", true)
  | 23 => ("PayChainModel", "approved", "I", false)
  | 24 => ("PayChainModel", "queue", "[I", true)
  | 25 => ("PayChainModel", "queued", "I", false)
  | 26 => ("PayChainModel", "last", "[I", true)
  | 27 => ("PayChainModel", "data", "[I", true)
  | 28 => ("PayChainModel", "dataSize", "I", false)
  | 29 => ("PayChainModel", "flags", "I", false)
  | _ => ("PayChainModel", "to4", "I", false)
def ty_Mod : Nat → FieldType := fun k => match k with
  | 0 => .array .int
  | 1 => .array .int
  | 2 => .array .boolean
  | 3 => .array .int
  | 4 => .array .int
  | 5 => .array .int
  | 6 => .array .int
  | 7 => .array .int
  | 8 => .array .boolean
  | 9 => .array .int
  | 10 => .array .int
  | 11 => .array .int
  | 12 => .array .int
  | 13 => .int
  | 14 => .int
  | 15 => .int
  | 16 => .int
  | 17 => .int
  | 18 => .int
  | 19 => .array .int
  | 20 => .array .int
  | 21 => .array .int
  | 22 => .array .boolean
  | 23 => .int
  | 24 => .array .int
  | 25 => .int
  | 26 => .array .int
  | 27 => .array .int
  | 28 => .int
  | 29 => .int
  | _ => .int
theorem nm_Mod : ∀ a, a < 31 → ∀ b, b < 31 → a ≠ b → (tb_Mod a).2.1 ≠ (tb_Mod b).2.1 := by decide +kernel
theorem to_Mod : ∀ k, k < 31 → parseFieldDescriptor (tb_Mod k).2.2.1 = some (ty_Mod k) := by decide +kernel
abbrev cs_L : List vw_C := [(rn_Row, tb_Row, 2), (rn_Term, tb_Term, 1), (rn_Host, tb_Host, 4), (rn_Pmt, tb_Pmt, 13), (rn_Tree, tb_Tree, 6), (rn_Card, tb_Card, 14), (rn_Rev, tb_Rev, 4), (rn_PC, tb_PC, 9), (rn_AL, tb_AL, 3), (rn_Mod, tb_Mod, 31)]
