/-! the tables' words that stay true behind every step, for any arguments -/
def okW : Cond → Bool
  | .fieldLinkNest .. => true
  | .methodLinkNest .. => true
  | w => goodWord w
def tbl : List Cond := lw_tbl.filter okW
def TB (U : State) : Prop := ∀ w ∈ tbl, ∀ a : Array Value, w.before a U = true
theorem okW_warm {w : Cond} (h : okW w = true) {a a' : Array Value} {s U : State} (hW : s.WarmedH U.vm) (hb : w.before a s = true) : w.before a' U = true := by
  cases w <;> first
    | exact va_Nw.use rfl (va_Nw.warmF hW (va_Nw.of rfl hb))
    | exact va_Nw.use rfl (va_Nw.warmM hW (va_Nw.of rfl hb))
    | exact word_at hW (good_of_word h) hb
theorem TB.warm {s U : State} (h : TB s) (hW : s.WarmedH U.vm) : TB U := fun w hw a => okW_warm (List.mem_filter.mp hw).2 hW (h w hw #[])
theorem TB.of {s : State} {a : Array Value} (h : ∀ w ∈ lw_tbl, w.before a s = true) : TB s := fun w hw a' => okW_warm (List.mem_filter.mp hw).2 (State.WarmedH.refl s) (h w (List.mem_filter.mp hw).1)
theorem TB.ts {s : State} (h : TB s) (a : Array Value) : ∀ w ∈ tbl, w.before a s = true := fun w hw => h w hw a
theorem in_t {w : Cond} (h : w ∈ tables_1) (ho : okW w = true) : w ∈ tbl := List.mem_filter.mpr ⟨List.mem_append_right _ h, ho⟩
theorem in1 {w : Cond} (i : Nat) (h : tables_1_1[i]? = some w) (ho : okW w = true) : w ∈ tbl := in_t (List.mem_append_left _ (List.mem_of_getElem? h)) ho
theorem in2 {w : Cond} (i : Nat) (h : tables_1_2[i]? = some w) (ho : okW w = true) : w ∈ tbl := in_t (List.mem_append_right _ (List.mem_append_left _ (List.mem_of_getElem? h))) ho
theorem in3 {w : Cond} (i : Nat) (h : tables_1_3[i]? = some w) (ho : okW w = true) : w ∈ tbl := in_t (List.mem_append_right _ (List.mem_append_right _ (List.mem_append_left _ (List.mem_of_getElem? h)))) ho
theorem in4 {w : Cond} (i : Nat) (h : tables_1_4[i]? = some w) (ho : okW w = true) : w ∈ tbl := in_t (List.mem_append_right _ (List.mem_append_right _ (List.mem_append_right _ (List.mem_append_left _ (List.mem_of_getElem? h))))) ho
theorem in5 {w : Cond} (i : Nat) (h : tables_1_5[i]? = some w) (ho : okW w = true) : w ∈ tbl := in_t (List.mem_append_right _ (List.mem_append_right _ (List.mem_append_right _ (List.mem_append_right _ (List.mem_append_left _ (List.mem_of_getElem? h)))))) ho
theorem in6 {w : Cond} (i : Nat) (h : tables_1_6[i]? = some w) (ho : okW w = true) : w ∈ tbl := in_t (List.mem_append_right _ (List.mem_append_right _ (List.mem_append_right _ (List.mem_append_right _ (List.mem_append_right _ (List.mem_append_left _ (List.mem_of_getElem? h))))))) ho
theorem in7 {w : Cond} (i : Nat) (h : tables_1_7[i]? = some w) (ho : okW w = true) : w ∈ tbl := in_t (List.mem_append_right _ (List.mem_append_right _ (List.mem_append_right _ (List.mem_append_right _ (List.mem_append_right _ (List.mem_append_right _ (List.mem_append_left _ (List.mem_of_getElem? h)))))))) ho
theorem in8 {w : Cond} (i : Nat) (h : tables_1_8[i]? = some w) (ho : okW w = true) : w ∈ tbl := in_t (List.mem_append_right _ (List.mem_append_right _ (List.mem_append_right _ (List.mem_append_right _ (List.mem_append_right _ (List.mem_append_right _ (List.mem_append_right _ (List.mem_of_getElem? h)))))))) ho
theorem inS {q : MethodName × Nat} (h : q ∈ lw_privs) : Cond.selects q.1.cls q.1 q.1 ∈ tbl := List.mem_filter.mpr ⟨List.mem_append_left _ (List.mem_map.mpr ⟨q, h, rfl⟩), rfl⟩
/-! the classes -/
abbrev classes : List vw_C := [(RX0, TX0, 2), (RX1, TX1, 16), (RX2, TX2, 8), (RX3, TX3, 3), (RX4, TX4, 16), (RX5, TX5, 19), (RX6, TX6, 10), (RX7, TX7, 3), (RX8, TX8, 6), (RX9, TX9, 5), (RX10, TX10, 7), (RX11, TX11, 9), (RX12, TX12, 116)]
def aty : Nat → FieldType
  | 0 => .byte
  | 1 => .int
  | 2 => .long
  | 3 => .boolean
  | 4 => .object "StatuteBench$Rule"
  | 5 => .object "StatuteBench$Condition"
  | 6 => .object "StatuteBench$Testimony"
  | _ => .object "StatuteBench$Fraction"
def atys (aC : Nat → ClassId) : List (ClassId × FieldType) := [(aC 0, .byte), (aC 1, .int), (aC 2, .long), (aC 3, .boolean), (aC 4, .object "StatuteBench$Rule"), (aC 5, .object "StatuteBench$Condition"), (aC 6, .object "StatuteBench$Testimony"), (aC 7, .object "StatuteBench$Fraction")]
theorem atys_at (aC : Nat → ClassId) : ∀ k, k < 8 → (atys aC)[k]? = some (aC k, aty k) := by
  intro k hk
  match k, hk with
  | 0, _ => rfl
  | 1, _ => rfl
  | 2, _ => rfl
  | 3, _ => rfl
  | 4, _ => rfl
  | 5, _ => rfl
  | 6, _ => rfl
  | 7, _ => rfl
/-- what the tables know: words, classes, arrays -/
def SK (D : va_G) (aC : Nat → ClassId) (U : State) : Prop := TB U ∧ va_K D classes (atys aC) U ∧ va_AO "StatuteBench$Rule" U ∧ va_AO "StatuteBench$Condition" U ∧ va_AO "StatuteBench$Testimony" U ∧ va_AO "StatuteBench$Fraction" U
theorem SK.warm {D : va_G} {aC : Nat → ClassId} {s U : State} (h : SK D aC s) (hW : s.WarmedH U.vm) : SK D aC U :=
  ⟨h.1.warm hW, h.2.1.moved hW.alike, h.2.2.1.moved hW.alike, h.2.2.2.1.moved hW.alike, h.2.2.2.2.1.moved hW.alike, h.2.2.2.2.2.moved hW.alike⟩
theorem TB.same {s U : State} (h : TB s) (hv : s.vm = U.vm) : TB U := h.warm (by rw [← hv]; exact State.WarmedH.refl s)
theorem SK.same {D : va_G} {aC : Nat → ClassId} {s U : State} (h : SK D aC s) (hv : s.vm = U.vm) : SK D aC U := h.warm (by rw [← hv]; exact State.WarmedH.refl s)
