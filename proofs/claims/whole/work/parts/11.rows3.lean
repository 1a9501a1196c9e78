def oL {α β : Type} (x : β) (k : β → Option α) : Option α := k x
def oB2 {α β γ : Type} (x : Option (β × γ)) (k : β → γ → Option α) : Option α := match x with
  | none => none
  | some q => k q.1 q.2
def oB3 {α β : Type} (x : Option (β × Nat × Nat)) (k : β → Nat → Nat → Option α) : Option α := match x with
  | none => none
  | some q => k q.1 q.2.1 q.2.2
def oB4 {α β γ : Type} (x : Option (β × γ × Nat × Nat)) (k : β → γ → Nat → Nat → Option α) : Option α := match x with
  | none => none
  | some q => k q.1 q.2.1 q.2.2.1 q.2.2.2
/-- so many cells and slots more -/
def oK3 {β : Type} (a b : Nat) (x : Option (β × Nat × Nat)) : Option (β × Nat × Nat) := match x with
  | none => none
  | some q => some (q.1, a + q.2.1, b + q.2.2)
def oK4 {β γ : Type} (a b : Nat) (x : Option (β × γ × Nat × Nat)) : Option (β × γ × Nat × Nat) := match x with
  | none => none
  | some q => some (q.1, q.2.1, a + q.2.2.1, b + q.2.2.2)
theorem oL_s {α β : Type} {x : β} {k : β → Option α} {r : α} (h : oL x k = some r) : ∃ a, a = x ∧ k a = some r := ⟨x, rfl, h⟩
theorem oB2_s {α β γ : Type} {x : Option (β × γ)} {k : β → γ → Option α} {r : α} (h : oB2 x k = some r) : ∃ a b, x = some (a, b) ∧ k a b = some r := by
  cases x with
  | none => cases h
  | some q => exact ⟨q.1, q.2, rfl, h⟩
theorem oB3_s {α β : Type} {x : Option (β × Nat × Nat)} {k : β → Nat → Nat → Option α} {r : α} (h : oB3 x k = some r) : ∃ a i j, x = some (a, i, j) ∧ k a i j = some r := by
  cases x with
  | none => cases h
  | some q => exact ⟨q.1, q.2.1, q.2.2, rfl, h⟩
theorem oB4_s {α β γ : Type} {x : Option (β × γ × Nat × Nat)} {k : β → γ → Nat → Nat → Option α} {r : α} (h : oB4 x k = some r) : ∃ a b i j, x = some (a, b, i, j) ∧ k a b i j = some r := by
  cases x with
  | none => cases h
  | some q => exact ⟨q.1, q.2.1, q.2.2.1, q.2.2.2, rfl, h⟩
theorem oK3_s {β : Type} {a b : Nat} {x : Option (β × Nat × Nat)} {y : β} {i j : Nat} (h : oK3 a b x = some (y, i, j)) : ∃ i' j', i = a + i' ∧ j = b + j' ∧ x = some (y, i', j') := by
  cases x with
  | none => cases h
  | some q => cases h; exact ⟨q.2.1, q.2.2, rfl, rfl, rfl⟩
theorem oK4_s {β γ : Type} {a b : Nat} {x : Option (β × γ × Nat × Nat)} {y : β} {z : γ} {i j : Nat} (h : oK4 a b x = some (y, z, i, j)) : ∃ i' j', i = a + i' ∧ j = b + j' ∧ x = some (y, z, i', j') := by
  cases x with
  | none => cases h
  | some q => cases h; exact ⟨q.2.2.1, q.2.2.2, rfl, rfl, rfl⟩
theorem cat_le (v : Value) : v.category ≤ 2 := by cases v <;> simp [Value.category]
theorem k_room : ∀ (st : List Value), st.length ≤ 4 → (st.map fun v => v.category).sum ≤ 8 := by
  have h : ∀ st : List Value, (st.map fun v => v.category).sum ≤ 2 * st.length := by
    intro st
    induction st with
    | nil => exact Nat.le_refl _
    | cons v t ih =>
      simp only [List.map_cons, List.sum_cons, List.length_cons]
      have := cat_le v
      omega
  intro st hs
  have := h st
  omega
abbrev RM (F L mc ms : Nat) : Room := { frames := F, cells := mc, slots := ms, locals := L }
/-- the recursion's and the loops' fuel -/
def FU : Nat := 100000
theorem tg_sI {h h1 : PH} {f a : Nat} {v : Int32} (e : h1 = sI h f a v) {x t : Nat} (ht : hT h x = t) : hT h1 x = t := by rw [e]; exact ht
theorem tg_sL {h h1 : PH} {f a : Nat} {v : Int64} (e : h1 = sL h f a v) {x t : Nat} (ht : hT h x = t) : hT h1 x = t := by rw [e]; exact ht
theorem tg_sR {h h1 : PH} {f a : Nat} {v : Option Nat} (e : h1 = sR h f a v) {x t : Nat} (ht : hT h x = t) : hT h1 x = t := by rw [e]; exact ht
theorem tg_sA {h h1 : PH} {a i : Nat} {v : Int32} (e : h1 = sA h a i v) {x t : Nat} (ht : hT h x = t) : hT h1 x = t := by rw [e]; exact ht
theorem tg_sB {h h1 : PH} {a i : Nat} {v : Int64} (e : h1 = sB h a i v) {x t : Nat} (ht : hT h x = t) : hT h1 x = t := by rw [e]; exact ht
theorem tg_sC {h h1 : PH} {a i : Nat} {v : Option Nat} (e : h1 = sC h a i v) {x t : Nat} (ht : hT h x = t) : hT h1 x = t := by rw [e]; exact ht
theorem tg_nO {D : va_G} {aC : Nat → ClassId} {ad : Nat → Nat} {s : State} {H : Heap} {locs : List Loc} {h h1 : PH} {t0 x t : Nat} (hE : CE (EX D aC ad h) (Rg ad) s H locs) (e : h1 = nO h t0) (ht : hT h x = t + 1) : hT h1 x = t + 1 := by
  have hx : x ≠ hZ h := fun q => by rw [q, hE.1.2.2.2 _ (Nat.le_refl _)] at ht; cases ht
  rw [e, ← ht]; exact if_neg hx
theorem tg_nA {D : va_G} {aC : Nat → ClassId} {ad : Nat → Nat} {s : State} {H : Heap} {locs : List Loc} {h h1 : PH} {t0 n x t : Nat} (hE : CE (EX D aC ad h) (Rg ad) s H locs) (e : h1 = nA h t0 n) (ht : hT h x = t + 1) : hT h1 x = t + 1 := by
  have hx : x ≠ hZ h := fun q => by rw [q, hE.1.2.2.2 _ (Nat.le_refl _)] at ht; cases ht
  rw [e, ← ht]; exact if_neg hx
theorem tg_nO0 {h h1 : PH} {t : Nat} (e : h1 = nO h t) : hT h1 (hZ h) = t := by rw [e]; exact if_pos rfl
theorem tg_nA0 {h h1 : PH} {t n : Nat} (e : h1 = nA h t n) : hT h1 (hZ h) = t := by rw [e]; exact if_pos rfl
section ROWS3
variable {p : Program} {l : Launch} {e : Env} {R : Room} {s : State} {m : MethodId} {args : Array Value} {below : List Frame} {meth : Method} {c : Code} {H : Heap} {locs : List Loc} {cells slots : Nat} {Q : State → Prop}
variable {cc : ByteArray} {pc nL : Nat} {ls : Array Slot} {rest : List Value} {D : va_G} {aC : Nat → ClassId} {ad : Nat → Nat} {own : String} {h h1 : PH}
theorem k_ent {vs : List Value} {n : Nat} (hn : (lg_sl vs).length ≤ n) (kk : ∀ ls : Array Slot, lv_has ls n (lv_args 0 vs) → W p l e R s m args below meth c H locs cells slots Q (F0 m 0 ls [])) : W p l e R s m args below meth c H locs cells slots Q (entryFrame m vs.toArray n) := by
  rw [lg_entry_eq]
  exact kk _ (lv_entry vs hn)
theorem k_nmI {x E : Int32} (ex : x = E) (kk : W p l e R s m args below meth c H locs cells slots Q (F0 m pc ls (.int x :: rest))) : W p l e R s m args below meth c H locs cells slots Q (F0 m pc ls (.int E :: rest)) := ex ▸ kk
theorem k_nmL {x E : Int64} (ex : x = E) (kk : W p l e R s m args below meth c H locs cells slots Q (F0 m pc ls (.long x :: rest))) : W p l e R s m args below meth c H locs cells slots Q (F0 m pc ls (.long E :: rest)) := ex ▸ kk
theorem k_nmO {x E : Option Nat} (ex : x = E) (kk : W p l e R s m args below meth c H locs cells slots Q (F0 m pc ls (va_rf (Option.map ad x) :: rest))) : W p l e R s m args below meth c H locs cells slots Q (F0 m pc ls (va_rf (Option.map ad E) :: rest)) := ex ▸ kk
theorem k_stk (q : List Value) {x : Option Nat} {a : Nat} (ex : x = some a) (kk : W p l e R s m args below meth c H locs cells slots Q (F0 m pc ls (q ++ .ref (ad a) :: rest))) : W p l e R s m args below meth c H locs cells slots Q (F0 m pc ls (q ++ va_rf (Option.map ad x) :: rest)) := by subst ex; exact kk
theorem k_objInit (b : Bd p s m c cc nL own D aC) {idx : Nat} (hl : Cond.methodLink own idx Lib.objectInit ∈ tbl) (hi : Cond.instanceMethod Lib.objectInit ∈ tbl) (hco : Cond.code Lib.objectInit ⟨#[0xb1]⟩ 1 none ∈ tbl) (hls : ls.size = nL) {a : Addr} (hR : 1 ≤ R.frames ∧ 20 ≤ R.locals) (hst : rest.length ≤ 4) (hd : decode cc pc = .ok (.invokespecial idx, 3))
    (kk : W p l e R s m args below meth c H locs cells slots Q (F0 m (pc + 3) ls rest)) : W p l e R s m args below meth c H locs cells slots Q (F0 m pc ls (.ref a :: rest)) := by
  obtain ⟨hx, hb, hml, hown, hSK⟩ := id b
  have hT := hSK.1
  have := k_room rest hst
  exact W.objInit hx hb hown (hT _ hl args) (hT _ hi args) (hT _ hco args) rfl (hls.trans hml.symm) rfl hd hR.1 (by show 2 * 0 + _ + 12 ≤ _; omega) kk
theorem k_max (b : Bd p s m c cc nL own D aC) {idx : Nat} (hl : Cond.methodLink own idx Lib.Math.max.name ∈ tbl) (hs : Cond.static Lib.Math.max.name ∈ tbl) (hi : Cond.initialized "java/lang/Math" ∈ tbl) (hco : Cond.code Lib.Math.max.name Lib.Math.max.code 2 (some .int) ∈ tbl) (hls : ls.size = nL) (hR : 1 ≤ R.frames ∧ 21 ≤ R.locals) (hst : rest.length ≤ 4) (hc : cells ≤ R.cells ∧ slots ≤ R.slots) {x y : Int32} (hd : decode cc pc = .ok (.invokestatic idx, 3))
    (kk : W p l e R s m args below meth c H locs cells slots Q (F0 m (pc + 3) ls (.int (if x < y then y else x) :: rest))) : W p l e R s m args below meth c H locs cells slots Q (F0 m pc ls (.int y :: .int x :: rest)) := by
  obtain ⟨hx, hb, hml, hown, hSK⟩ := id b
  have hT := hSK.1
  have := k_room rest hst
  exact va_mmax hx hb (hml.trans hls.symm) hown (hT _ hl args) (hT _ hs args) (hT _ hi args) (hT _ hco args) hR.1 (by omega) hc.1 hc.2 hd kk
theorem k_min (b : Bd p s m c cc nL own D aC) {idx : Nat} (hl : Cond.methodLink own idx Lib.Math.min.name ∈ tbl) (hs : Cond.static Lib.Math.min.name ∈ tbl) (hi : Cond.initialized "java/lang/Math" ∈ tbl) (hco : Cond.code Lib.Math.min.name Lib.Math.min.code 2 (some .int) ∈ tbl) (hls : ls.size = nL) (hR : 1 ≤ R.frames ∧ 21 ≤ R.locals) (hst : rest.length ≤ 4) (hc : cells ≤ R.cells ∧ slots ≤ R.slots) {x y : Int32} (hd : decode cc pc = .ok (.invokestatic idx, 3))
    (kk : W p l e R s m args below meth c H locs cells slots Q (F0 m (pc + 3) ls (.int (if y < x then y else x) :: rest))) : W p l e R s m args below meth c H locs cells slots Q (F0 m pc ls (.int y :: .int x :: rest)) := by
  obtain ⟨hx, hb, hml, hown, hSK⟩ := id b
  have hT := hSK.1
  have := k_room rest hst
  exact va_mmin hx hb (hml.trans hls.symm) hown (hT _ hl args) (hT _ hs args) (hT _ hi args) (hT _ hco args) hR.1 (by omega) hc.1 hc.2 hd kk
theorem k_abs (b : Bd p s m c cc nL own D aC) {idx : Nat} (hl : Cond.methodLink own idx Lib.MathLoose.abs_long.x ∈ tbl) (hs : Cond.static Lib.MathLoose.abs_long.x ∈ tbl) (hi : Cond.initialized "java/lang/Math" ∈ tbl) (hco : Cond.code Lib.MathLoose.abs_long.x Lib.MathLoose.abs_long.code 2 (some .long) ∈ tbl) (hls : ls.size = nL) (hR : 1 ≤ R.frames ∧ 21 ≤ R.locals) (hst : rest.length ≤ 4) (hc : cells ≤ R.cells ∧ slots ≤ R.slots) {x : Int64} (hd : decode cc pc = .ok (.invokestatic idx, 3))
    (kk : W p l e R s m args below meth c H locs cells slots Q (F0 m (pc + 3) ls (.long (if 0 < x then x else -x) :: rest))) : W p l e R s m args below meth c H locs cells slots Q (F0 m pc ls (.long x :: rest)) := by
  obtain ⟨hx, hb, hml, hown, hSK⟩ := id b
  have hT := hSK.1
  have := k_room rest hst
  exact va_mabs_long hx hb (hml.trans hls.symm) hown (hT _ hl args) (hT _ hs args) (hT _ hi args) (hT _ hco args) hR.1 (by omega) hc.1 hc.2 hd kk
theorem k_ldc (b : Bd p s m c cc nL own D aC) {idx : Nat} {v : Int32} (hl : Cond.constant own idx v ∈ tbl) (hd : decode cc pc = .ok (.ldc idx, 2)) (kk : W p l e R s m args below meth c H locs cells slots Q (F0 m (pc + 2) ls (.int v :: rest))) : W p l e R s m args below meth c H locs cells slots Q (F0 m pc ls rest) := lv_ldc b.1 b.2.1 b.2.2.2.1 (b.2.2.2.2.1 _ hl args) hd kk
theorem k_ldcw (b : Bd p s m c cc nL own D aC) {idx : Nat} {v : Int32} (hl : Cond.constant own idx v ∈ tbl) (hd : decode cc pc = .ok (.ldc_w idx, 3)) (kk : W p l e R s m args below meth c H locs cells slots Q (F0 m (pc + 3) ls (.int v :: rest))) : W p l e R s m args below meth c H locs cells slots Q (F0 m pc ls rest) := lv_ldcw b.1 b.2.1 b.2.2.2.1 (b.2.2.2.2.1 _ hl args) hd kk
theorem k_ldc2 (b : Bd p s m c cc nL own D aC) {idx : Nat} {v : Int64} (hl : Cond.constantLong own idx v ∈ tbl) (hd : decode cc pc = .ok (.ldc2_w idx, 3)) (kk : W p l e R s m args below meth c H locs cells slots Q (F0 m (pc + 3) ls (.long v :: rest))) : W p l e R s m args below meth c H locs cells slots Q (F0 m pc ls rest) := lv_ldc2 b.1 b.2.1 b.2.2.2.1 (b.2.2.2.2.1 _ hl args) hd kk
theorem q_iald (b : Bd p s m c cc nL own D aC) (hE : CE (EX D aC ad h) (Rg ad) s H locs) {x : Option Nat} {a : Nat} {i : Int32} (ex : x = some a) (ht : hT h a = 101) (hi : ix i (hN h a) = true) (hdg : decode cc pc = .ok (.iaload, 1))
    (kk : W p l e R s m args below meth c H locs cells slots Q (F0 m (pc + 1) ls (.int (hA h a i.toNatClampNeg) :: rest))) : W p l e R s m args below meth c H locs cells slots Q (F0 m pc ls (.int i :: va_rf (Option.map ad x) :: rest)) := by subst ex; exact x_iald b hE ht hi hdg kk
theorem q_bald (b : Bd p s m c cc nL own D aC) (hE : CE (EX D aC ad h) (Rg ad) s H locs) {x : Option Nat} {a : Nat} {i : Int32} (ex : x = some a) (ht : hT h a = 100) (hi : ix i (hN h a) = true) (hdg : decode cc pc = .ok (.baload, 1))
    (kk : W p l e R s m args below meth c H locs cells slots Q (F0 m (pc + 1) ls (.int (hA h a i.toNatClampNeg) :: rest))) : W p l e R s m args below meth c H locs cells slots Q (F0 m pc ls (.int i :: va_rf (Option.map ad x) :: rest)) := by subst ex; exact x_bald b hE ht hi hdg kk
theorem q_zald (b : Bd p s m c cc nL own D aC) (hE : CE (EX D aC ad h) (Rg ad) s H locs) {x : Option Nat} {a : Nat} {i : Int32} (ex : x = some a) (ht : hT h a = 103) (hi : ix i (hN h a) = true) (hdg : decode cc pc = .ok (.baload, 1))
    (kk : W p l e R s m args below meth c H locs cells slots Q (F0 m (pc + 1) ls (.int (hA h a i.toNatClampNeg) :: rest))) : W p l e R s m args below meth c H locs cells slots Q (F0 m pc ls (.int i :: va_rf (Option.map ad x) :: rest)) := by subst ex; exact x_zald b hE ht hi hdg kk
theorem q_lald (b : Bd p s m c cc nL own D aC) (hE : CE (EX D aC ad h) (Rg ad) s H locs) {x : Option Nat} {a : Nat} {i : Int32} (ex : x = some a) (ht : hT h a = 102) (hi : ix i (hN h a) = true) (hdg : decode cc pc = .ok (.laload, 1))
    (kk : W p l e R s m args below meth c H locs cells slots Q (F0 m (pc + 1) ls (.long (hB h a i.toNatClampNeg) :: rest))) : W p l e R s m args below meth c H locs cells slots Q (F0 m pc ls (.int i :: va_rf (Option.map ad x) :: rest)) := by subst ex; exact x_lald b hE ht hi hdg kk
theorem q_aald4 (b : Bd p s m c cc nL own D aC) (hE : CE (EX D aC ad h) (Rg ad) s H locs) {x : Option Nat} {a : Nat} {i : Int32} (ex : x = some a) (ht : hT h a = 104) (hi : ix i (hN h a) = true) (hdg : decode cc pc = .ok (.aaload, 1))
    (kk : W p l e R s m args below meth c H locs cells slots Q (F0 m (pc + 1) ls (va_rf ((hC h a i.toNatClampNeg).map ad) :: rest))) : W p l e R s m args below meth c H locs cells slots Q (F0 m pc ls (.int i :: va_rf (Option.map ad x) :: rest)) := by subst ex; exact x_aald4 b hE ht hi hdg kk
theorem q_aald5 (b : Bd p s m c cc nL own D aC) (hE : CE (EX D aC ad h) (Rg ad) s H locs) {x : Option Nat} {a : Nat} {i : Int32} (ex : x = some a) (ht : hT h a = 105) (hi : ix i (hN h a) = true) (hdg : decode cc pc = .ok (.aaload, 1))
    (kk : W p l e R s m args below meth c H locs cells slots Q (F0 m (pc + 1) ls (va_rf ((hC h a i.toNatClampNeg).map ad) :: rest))) : W p l e R s m args below meth c H locs cells slots Q (F0 m pc ls (.int i :: va_rf (Option.map ad x) :: rest)) := by subst ex; exact x_aald5 b hE ht hi hdg kk
theorem q_aald6 (b : Bd p s m c cc nL own D aC) (hE : CE (EX D aC ad h) (Rg ad) s H locs) {x : Option Nat} {a : Nat} {i : Int32} (ex : x = some a) (ht : hT h a = 106) (hi : ix i (hN h a) = true) (hdg : decode cc pc = .ok (.aaload, 1))
    (kk : W p l e R s m args below meth c H locs cells slots Q (F0 m (pc + 1) ls (va_rf ((hC h a i.toNatClampNeg).map ad) :: rest))) : W p l e R s m args below meth c H locs cells slots Q (F0 m pc ls (.int i :: va_rf (Option.map ad x) :: rest)) := by subst ex; exact x_aald6 b hE ht hi hdg kk
theorem q_aald7 (b : Bd p s m c cc nL own D aC) (hE : CE (EX D aC ad h) (Rg ad) s H locs) {x : Option Nat} {a : Nat} {i : Int32} (ex : x = some a) (ht : hT h a = 107) (hi : ix i (hN h a) = true) (hdg : decode cc pc = .ok (.aaload, 1))
    (kk : W p l e R s m args below meth c H locs cells slots Q (F0 m (pc + 1) ls (va_rf ((hC h a i.toNatClampNeg).map ad) :: rest))) : W p l e R s m args below meth c H locs cells slots Q (F0 m pc ls (.int i :: va_rf (Option.map ad x) :: rest)) := by subst ex; exact x_aald7 b hE ht hi hdg kk
theorem q_iast (b : Bd p s m c cc nL own D aC) (hE : CE (EX D aC ad h) (Rg ad) s H locs) {x : Option Nat} {a : Nat} {i : Int32} {v : Int32} (ex : x = some a) (ht : hT h a = 101) (hi : ix i (hN h a) = true) (e1 : h1 = sA h a i.toNatClampNeg (v)) (hdg : decode cc pc = .ok (.iastore, 1))
    (kk : ∀ (H1 : Heap) (locs1 : List Loc), CE (EX D aC ad h1) (Rg ad) s H1 locs1 → W p l e R s m args below meth c H1 locs1 cells slots Q (F0 m (pc + 1) ls (rest))) : W p l e R s m args below meth c H locs cells slots Q (F0 m pc ls (.int v :: .int i :: va_rf (Option.map ad x) :: rest)) := by subst ex; subst e1; exact x_iast b hE ht hi hdg kk
theorem q_bast (b : Bd p s m c cc nL own D aC) (hE : CE (EX D aC ad h) (Rg ad) s H locs) {x : Option Nat} {a : Nat} {i : Int32} {v : Int32} (ex : x = some a) (ht : hT h a = 100) (hi : ix i (hN h a) = true) (e1 : h1 = sA h a i.toNatClampNeg (v.toInt8.toInt32)) (hdg : decode cc pc = .ok (.bastore, 1))
    (kk : ∀ (H1 : Heap) (locs1 : List Loc), CE (EX D aC ad h1) (Rg ad) s H1 locs1 → W p l e R s m args below meth c H1 locs1 cells slots Q (F0 m (pc + 1) ls (rest))) : W p l e R s m args below meth c H locs cells slots Q (F0 m pc ls (.int v :: .int i :: va_rf (Option.map ad x) :: rest)) := by subst ex; subst e1; exact x_bast b hE ht hi hdg kk
theorem q_zast (b : Bd p s m c cc nL own D aC) (hE : CE (EX D aC ad h) (Rg ad) s H locs) {x : Option Nat} {a : Nat} {i : Int32} {v : Int32} (ex : x = some a) (hv : isB v = true) (ht : hT h a = 103) (hi : ix i (hN h a) = true) (e1 : h1 = sA h a i.toNatClampNeg (v)) (hdg : decode cc pc = .ok (.bastore, 1))
    (kk : ∀ (H1 : Heap) (locs1 : List Loc), CE (EX D aC ad h1) (Rg ad) s H1 locs1 → W p l e R s m args below meth c H1 locs1 cells slots Q (F0 m (pc + 1) ls (rest))) : W p l e R s m args below meth c H locs cells slots Q (F0 m pc ls (.int v :: .int i :: va_rf (Option.map ad x) :: rest)) := by subst ex; subst e1; exact x_zast b hE hv ht hi hdg kk
theorem q_last (b : Bd p s m c cc nL own D aC) (hE : CE (EX D aC ad h) (Rg ad) s H locs) {x : Option Nat} {a : Nat} {i : Int32} {v : Int64} (ex : x = some a) (ht : hT h a = 102) (hi : ix i (hN h a) = true) (e1 : h1 = sB h a i.toNatClampNeg (v)) (hdg : decode cc pc = .ok (.lastore, 1))
    (kk : ∀ (H1 : Heap) (locs1 : List Loc), CE (EX D aC ad h1) (Rg ad) s H1 locs1 → W p l e R s m args below meth c H1 locs1 cells slots Q (F0 m (pc + 1) ls (rest))) : W p l e R s m args below meth c H locs cells slots Q (F0 m pc ls (.long v :: .int i :: va_rf (Option.map ad x) :: rest)) := by subst ex; subst e1; exact x_last b hE ht hi hdg kk
theorem q_aast4 (b : Bd p s m c cc nL own D aC) (hE : CE (EX D aC ad h) (Rg ad) s H locs) {x y : Option Nat} {a v : Nat} {i : Int32} (ex : x = some a) (ey : y = some v) (hv : hT h v = 9) (ht : hT h a = 104) (hi : ix i (hN h a) = true) (e1 : h1 = sC h a i.toNatClampNeg (some v)) (hdg : decode cc pc = .ok (.aastore, 1))
    (kk : ∀ (H1 : Heap) (locs1 : List Loc), CE (EX D aC ad h1) (Rg ad) s H1 locs1 → W p l e R s m args below meth c H1 locs1 cells slots Q (F0 m (pc + 1) ls (rest))) : W p l e R s m args below meth c H locs cells slots Q (F0 m pc ls (va_rf (Option.map ad y) :: .int i :: va_rf (Option.map ad x) :: rest)) := by subst ex; subst ey; subst e1; exact x_aast4 b hE hv ht hi hdg kk
theorem q_aast5 (b : Bd p s m c cc nL own D aC) (hE : CE (EX D aC ad h) (Rg ad) s H locs) {x y : Option Nat} {a v : Nat} {i : Int32} (ex : x = some a) (ey : y = some v) (hv : hT h v = 3) (ht : hT h a = 105) (hi : ix i (hN h a) = true) (e1 : h1 = sC h a i.toNatClampNeg (some v)) (hdg : decode cc pc = .ok (.aastore, 1))
    (kk : ∀ (H1 : Heap) (locs1 : List Loc), CE (EX D aC ad h1) (Rg ad) s H1 locs1 → W p l e R s m args below meth c H1 locs1 cells slots Q (F0 m (pc + 1) ls (rest))) : W p l e R s m args below meth c H locs cells slots Q (F0 m pc ls (va_rf (Option.map ad y) :: .int i :: va_rf (Option.map ad x) :: rest)) := by subst ex; subst ey; subst e1; exact x_aast5 b hE hv ht hi hdg kk
theorem q_aast6 (b : Bd p s m c cc nL own D aC) (hE : CE (EX D aC ad h) (Rg ad) s H locs) {x y : Option Nat} {a v : Nat} {i : Int32} (ex : x = some a) (ey : y = some v) (hv : hT h v = 10) (ht : hT h a = 106) (hi : ix i (hN h a) = true) (e1 : h1 = sC h a i.toNatClampNeg (some v)) (hdg : decode cc pc = .ok (.aastore, 1))
    (kk : ∀ (H1 : Heap) (locs1 : List Loc), CE (EX D aC ad h1) (Rg ad) s H1 locs1 → W p l e R s m args below meth c H1 locs1 cells slots Q (F0 m (pc + 1) ls (rest))) : W p l e R s m args below meth c H locs cells slots Q (F0 m pc ls (va_rf (Option.map ad y) :: .int i :: va_rf (Option.map ad x) :: rest)) := by subst ex; subst ey; subst e1; exact x_aast6 b hE hv ht hi hdg kk
theorem q_aast7 (b : Bd p s m c cc nL own D aC) (hE : CE (EX D aC ad h) (Rg ad) s H locs) {x y : Option Nat} {a v : Nat} {i : Int32} (ex : x = some a) (ey : y = some v) (hv : hT h v = 4) (ht : hT h a = 107) (hi : ix i (hN h a) = true) (e1 : h1 = sC h a i.toNatClampNeg (some v)) (hdg : decode cc pc = .ok (.aastore, 1))
    (kk : ∀ (H1 : Heap) (locs1 : List Loc), CE (EX D aC ad h1) (Rg ad) s H1 locs1 → W p l e R s m args below meth c H1 locs1 cells slots Q (F0 m (pc + 1) ls (rest))) : W p l e R s m args below meth c H locs cells slots Q (F0 m pc ls (va_rf (Option.map ad y) :: .int i :: va_rf (Option.map ad x) :: rest)) := by subst ex; subst ey; subst e1; exact x_aast7 b hE hv ht hi hdg kk
theorem q_alen (b : Bd p s m c cc nL own D aC) (hE : CE (EX D aC ad h) (Rg ad) s H locs) {x : Option Nat} {a k : Nat} (ex : x = some a) (hk : k < 8) (ht : hT h a = 100 + k) (hdg : decode cc pc = .ok (.arraylength, 1))
    (kk : W p l e R s m args below meth c H locs cells slots Q (F0 m (pc + 1) ls (.int (nI (hN h a)) :: rest))) : W p l e R s m args below meth c H locs cells slots Q (F0 m pc ls (va_rf (Option.map ad x) :: rest)) := by subst ex; exact x_alen b hE hk ht hdg kk
theorem q_newa0 (b : Bd p s m c cc nL own D aC) (hE : CE (EX D aC ad h) (Rg ad) s H locs) {i : Int32} (harr : Cond.arrayClass .byte ∈ tbl) (hi : decide (0 ≤ i) = true) (hbytes : decide (i.toNatClampNeg * 8 ≤ 536870912) = true) (hcells : cells + 1 ≤ R.cells) (hslots : slots + i.toNatClampNeg ≤ R.slots) (e1 : h1 = nA h 100 i.toNatClampNeg) (hdg : decode cc pc = .ok (.newarray .byte, 2))
    (kk : ∀ H1 : Heap, CE (EX D aC ad h1) (Rg ad) s H1 locs → W p l e R s m args below meth c H1 locs (cells + 1) (slots + i.toNatClampNeg) Q (F0 m (pc + 2) ls (.ref (ad (hZ h)) :: rest))) : W p l e R s m args below meth c H locs cells slots Q (F0 m pc ls (.int i :: rest)) := by subst e1; exact x_newa0 b hE rfl harr hi hbytes hcells hslots hdg kk
theorem q_newa1 (b : Bd p s m c cc nL own D aC) (hE : CE (EX D aC ad h) (Rg ad) s H locs) {i : Int32} (harr : Cond.arrayClass .int ∈ tbl) (hi : decide (0 ≤ i) = true) (hbytes : decide (i.toNatClampNeg * 8 ≤ 536870912) = true) (hcells : cells + 1 ≤ R.cells) (hslots : slots + i.toNatClampNeg ≤ R.slots) (e1 : h1 = nA h 101 i.toNatClampNeg) (hdg : decode cc pc = .ok (.newarray .int, 2))
    (kk : ∀ H1 : Heap, CE (EX D aC ad h1) (Rg ad) s H1 locs → W p l e R s m args below meth c H1 locs (cells + 1) (slots + i.toNatClampNeg) Q (F0 m (pc + 2) ls (.ref (ad (hZ h)) :: rest))) : W p l e R s m args below meth c H locs cells slots Q (F0 m pc ls (.int i :: rest)) := by subst e1; exact x_newa1 b hE rfl harr hi hbytes hcells hslots hdg kk
theorem q_newa2 (b : Bd p s m c cc nL own D aC) (hE : CE (EX D aC ad h) (Rg ad) s H locs) {i : Int32} (harr : Cond.arrayClass .long ∈ tbl) (hi : decide (0 ≤ i) = true) (hbytes : decide (i.toNatClampNeg * 8 ≤ 536870912) = true) (hcells : cells + 1 ≤ R.cells) (hslots : slots + i.toNatClampNeg ≤ R.slots) (e1 : h1 = nA h 102 i.toNatClampNeg) (hdg : decode cc pc = .ok (.newarray .long, 2))
    (kk : ∀ H1 : Heap, CE (EX D aC ad h1) (Rg ad) s H1 locs → W p l e R s m args below meth c H1 locs (cells + 1) (slots + i.toNatClampNeg) Q (F0 m (pc + 2) ls (.ref (ad (hZ h)) :: rest))) : W p l e R s m args below meth c H locs cells slots Q (F0 m pc ls (.int i :: rest)) := by subst e1; exact x_newa2 b hE rfl harr hi hbytes hcells hslots hdg kk
theorem q_newa3 (b : Bd p s m c cc nL own D aC) (hE : CE (EX D aC ad h) (Rg ad) s H locs) {i : Int32} (harr : Cond.arrayClass .boolean ∈ tbl) (hi : decide (0 ≤ i) = true) (hbytes : decide (i.toNatClampNeg * 8 ≤ 536870912) = true) (hcells : cells + 1 ≤ R.cells) (hslots : slots + i.toNatClampNeg ≤ R.slots) (e1 : h1 = nA h 103 i.toNatClampNeg) (hdg : decode cc pc = .ok (.newarray .boolean, 2))
    (kk : ∀ H1 : Heap, CE (EX D aC ad h1) (Rg ad) s H1 locs → W p l e R s m args below meth c H1 locs (cells + 1) (slots + i.toNatClampNeg) Q (F0 m (pc + 2) ls (.ref (ad (hZ h)) :: rest))) : W p l e R s m args below meth c H locs cells slots Q (F0 m pc ls (.int i :: rest)) := by subst e1; exact x_newa3 b hE rfl harr hi hbytes hcells hslots hdg kk
theorem q_newq4 (b : Bd p s m c cc nL own D aC) (hE : CE (EX D aC ad h) (Rg ad) s H locs) {i : Int32} {index : Nat} (hcl : Cond.classLink own index "StatuteBench$Rule" ∈ tbl) (hi : decide (0 ≤ i) = true) (hbytes : decide (i.toNatClampNeg * 8 ≤ 536870912) = true) (hcells : cells + 1 ≤ R.cells) (hslots : slots + i.toNatClampNeg ≤ R.slots) (e1 : h1 = nA h 104 i.toNatClampNeg) (hdg : decode cc pc = .ok (.anewarray index, 3))
    (kk : ∀ H1 : Heap, CE (EX D aC ad h1) (Rg ad) s H1 locs → W p l e R s m args below meth c H1 locs (cells + 1) (slots + i.toNatClampNeg) Q (F0 m (pc + 3) ls (.ref (ad (hZ h)) :: rest))) : W p l e R s m args below meth c H locs cells slots Q (F0 m pc ls (.int i :: rest)) := by subst e1; exact x_newq4 b hE hcl hi hbytes hcells hslots hdg kk
theorem q_newq5 (b : Bd p s m c cc nL own D aC) (hE : CE (EX D aC ad h) (Rg ad) s H locs) {i : Int32} {index : Nat} (hcl : Cond.classLink own index "StatuteBench$Condition" ∈ tbl) (hi : decide (0 ≤ i) = true) (hbytes : decide (i.toNatClampNeg * 8 ≤ 536870912) = true) (hcells : cells + 1 ≤ R.cells) (hslots : slots + i.toNatClampNeg ≤ R.slots) (e1 : h1 = nA h 105 i.toNatClampNeg) (hdg : decode cc pc = .ok (.anewarray index, 3))
    (kk : ∀ H1 : Heap, CE (EX D aC ad h1) (Rg ad) s H1 locs → W p l e R s m args below meth c H1 locs (cells + 1) (slots + i.toNatClampNeg) Q (F0 m (pc + 3) ls (.ref (ad (hZ h)) :: rest))) : W p l e R s m args below meth c H locs cells slots Q (F0 m pc ls (.int i :: rest)) := by subst e1; exact x_newq5 b hE hcl hi hbytes hcells hslots hdg kk
theorem q_newq6 (b : Bd p s m c cc nL own D aC) (hE : CE (EX D aC ad h) (Rg ad) s H locs) {i : Int32} {index : Nat} (hcl : Cond.classLink own index "StatuteBench$Testimony" ∈ tbl) (hi : decide (0 ≤ i) = true) (hbytes : decide (i.toNatClampNeg * 8 ≤ 536870912) = true) (hcells : cells + 1 ≤ R.cells) (hslots : slots + i.toNatClampNeg ≤ R.slots) (e1 : h1 = nA h 106 i.toNatClampNeg) (hdg : decode cc pc = .ok (.anewarray index, 3))
    (kk : ∀ H1 : Heap, CE (EX D aC ad h1) (Rg ad) s H1 locs → W p l e R s m args below meth c H1 locs (cells + 1) (slots + i.toNatClampNeg) Q (F0 m (pc + 3) ls (.ref (ad (hZ h)) :: rest))) : W p l e R s m args below meth c H locs cells slots Q (F0 m pc ls (.int i :: rest)) := by subst e1; exact x_newq6 b hE hcl hi hbytes hcells hslots hdg kk
theorem q_newq7 (b : Bd p s m c cc nL own D aC) (hE : CE (EX D aC ad h) (Rg ad) s H locs) {i : Int32} {index : Nat} (hcl : Cond.classLink own index "StatuteBench$Fraction" ∈ tbl) (hi : decide (0 ≤ i) = true) (hbytes : decide (i.toNatClampNeg * 8 ≤ 536870912) = true) (hcells : cells + 1 ≤ R.cells) (hslots : slots + i.toNatClampNeg ≤ R.slots) (e1 : h1 = nA h 107 i.toNatClampNeg) (hdg : decode cc pc = .ok (.anewarray index, 3))
    (kk : ∀ H1 : Heap, CE (EX D aC ad h1) (Rg ad) s H1 locs → W p l e R s m args below meth c H1 locs (cells + 1) (slots + i.toNatClampNeg) Q (F0 m (pc + 3) ls (.ref (ad (hZ h)) :: rest))) : W p l e R s m args below meth c H locs cells slots Q (F0 m pc ls (.int i :: rest)) := by subst e1; exact x_newq7 b hE hcl hi hbytes hcells hslots hdg kk
end ROWS3
section ROWS4
variable {p : Program} {l : Launch} {e : Env} {R : Room} {s : State} {m : MethodId} {args : Array Value} {below : List Frame} {meth : Method} {c : Code} {H : Heap} {locs : List Loc} {cells slots : Nat} {Q : State → Prop}
variable {cc : ByteArray} {pc nL : Nat} {ls : Array Slot} {rest : List Value} {D : va_G} {aC : Nat → ClassId} {ad : Nat → Nat} {u u1 : MS}
theorem n_iast (b : Bd p s m c cc nL RX12 D aC) (hE : CE (EM D aC ad u) (Rg ad) s H locs) {k : Nat} {i : Int32} {x : Int32} (hk : mk k = 2) (ht : mak k = 1) (hi : ix i (mlen k) = true) (e1 : u1 = mSA u k i.toNatClampNeg (x)) (hdg : decode cc pc = .ok (.iastore, 1))
    (kk : ∀ (H1 : Heap) (locs1 : List Loc), CE (EM D aC ad u1) (Rg ad) s H1 locs1 → W p l e R s m args below meth c H1 locs1 cells slots Q (F0 m (pc + 1) ls (rest))) : W p l e R s m args below meth c H locs cells slots Q (F0 m pc ls (.int x :: .int i :: .ref (ad k) :: rest)) := by subst e1; exact m_iast b hE hk ht hi hdg kk
theorem n_bast (b : Bd p s m c cc nL RX12 D aC) (hE : CE (EM D aC ad u) (Rg ad) s H locs) {k : Nat} {i : Int32} {x : Int32} (hk : mk k = 2) (ht : mak k = 0) (hi : ix i (mlen k) = true) (e1 : u1 = mSA u k i.toNatClampNeg (x.toInt8.toInt32)) (hdg : decode cc pc = .ok (.bastore, 1))
    (kk : ∀ (H1 : Heap) (locs1 : List Loc), CE (EM D aC ad u1) (Rg ad) s H1 locs1 → W p l e R s m args below meth c H1 locs1 cells slots Q (F0 m (pc + 1) ls (rest))) : W p l e R s m args below meth c H locs cells slots Q (F0 m pc ls (.int x :: .int i :: .ref (ad k) :: rest)) := by subst e1; exact m_bast b hE hk ht hi hdg kk
theorem n_zast (b : Bd p s m c cc nL RX12 D aC) (hE : CE (EM D aC ad u) (Rg ad) s H locs) {k : Nat} {i : Int32} {x : Int32} (hx : isB x = true) (hk : mk k = 2) (ht : mak k = 3) (hi : ix i (mlen k) = true) (e1 : u1 = mSA u k i.toNatClampNeg (x)) (hdg : decode cc pc = .ok (.bastore, 1))
    (kk : ∀ (H1 : Heap) (locs1 : List Loc), CE (EM D aC ad u1) (Rg ad) s H1 locs1 → W p l e R s m args below meth c H1 locs1 cells slots Q (F0 m (pc + 1) ls (rest))) : W p l e R s m args below meth c H locs cells slots Q (F0 m pc ls (.int x :: .int i :: .ref (ad k) :: rest)) := by subst e1; exact m_zast b hE hx hk ht hi hdg kk
theorem n_last (b : Bd p s m c cc nL RX12 D aC) (hE : CE (EM D aC ad u) (Rg ad) s H locs) {k : Nat} {i : Int32} {x : Int64} (hk : mk k = 2) (ht : mak k = 2) (hi : ix i (mlen k) = true) (e1 : u1 = mSB u k i.toNatClampNeg (x)) (hdg : decode cc pc = .ok (.lastore, 1))
    (kk : ∀ (H1 : Heap) (locs1 : List Loc), CE (EM D aC ad u1) (Rg ad) s H1 locs1 → W p l e R s m args below meth c H1 locs1 cells slots Q (F0 m (pc + 1) ls (rest))) : W p l e R s m args below meth c H locs cells slots Q (F0 m pc ls (.long x :: .int i :: .ref (ad k) :: rest)) := by subst e1; exact m_last b hE hk ht hi hdg kk
end ROWS4
theorem dfI {h : PH} {ad : Nat → Nat} {t f : Nat} : Value.int 0 = fvk (nO h t) ad 0 f (hZ h) := (congrArg Value.int (if_pos rfl : (if hZ h = hZ h then (0 : Int32) else hI h f (hZ h)) = 0)).symm
theorem dfL {h : PH} {ad : Nat → Nat} {t f : Nat} : Value.long 0 = fvk (nO h t) ad 1 f (hZ h) := (congrArg Value.long (if_pos rfl : (if hZ h = hZ h then (0 : Int64) else hL h f (hZ h)) = 0)).symm
theorem dfR {h : PH} {ad : Nat → Nat} {t f : Nat} : Value.null = fvk (nO h t) ad 2 f (hZ h) := (congrArg (fun z => va_rf (Option.map ad z)) (if_pos rfl : (if hZ h = hZ h then (none : Option Nat) else hR h f (hZ h)) = none)).symm
theorem le_room {c k a i m : Nat} (h : c + k ≤ m) (e : k = a + i) : c + a ≤ m := by omega
theorem le_step {c k a i m : Nat} (h : c + k ≤ m) (e : k = a + i) : (c + a) + i ≤ m := by omega
theorem le_c {c k m : Nat} (h : c + k ≤ m) : c ≤ m := by omega
theorem le_0 {c k m : Nat} (h : c + k ≤ m) : c + 0 ≤ m := by omega
