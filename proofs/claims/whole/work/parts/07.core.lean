def oN {α : Type} (x : Option Nat) (k : Nat → Option α) : Option α := match x with
  | none => none
  | some a => k a
def oC {α : Type} (c : Bool) (k : Option α) : Option α := match c with
  | true => k
  | false => none
def oB {α β : Type} (x : Option β) (k : β → Option α) : Option α := match x with
  | none => none
  | some a => k a
theorem oN_s {α : Type} {x : Option Nat} {k : Nat → Option α} {r : α} (h : oN x k = some r) : ∃ a, x = some a ∧ k a = some r := by
  cases x with
  | none => cases h
  | some a => exact ⟨a, rfl, h⟩
theorem oC_s {α : Type} {c : Bool} {k : Option α} {r : α} (h : oC c k = some r) : c = true ∧ k = some r := by
  cases c with
  | false => cases h
  | true => exact ⟨rfl, h⟩
theorem oB_s {α β : Type} {x : Option β} {k : β → Option α} {r : α} (h : oB x k = some r) : ∃ a, x = some a ∧ k a = some r := by
  cases x with
  | none => cases h
  | some a => exact ⟨a, rfl, h⟩
theorem oI_t {α : Type} {c : Prop} {d : Decidable c} {x y : Option α} {r : α} (hc : c) (h : @ite _ c d x y = some r) : x = some r := by rw [if_pos hc] at h; exact h
theorem oI_f {α : Type} {c : Prop} {d : Decidable c} {x y : Option α} {r : α} (hc : ¬ c) (h : @ite _ c d x y = some r) : y = some r := by rw [if_neg hc] at h; exact h
/-- an index looked at -/
def ix (i : Int32) (n : Nat) : Bool := decide (0 ≤ i) && decide (i.toNatClampNeg < n)
theorem ix_in {i : Int32} {n : Nat} (h : ix i n = true) : vp_in i n := by
  simp only [ix, Bool.and_eq_true, decide_eq_true_eq] at h
  rintro (q | q)
  · exact absurd h.1 (Int32.not_le.mpr q)
  · omega
def isB (x : Int32) : Bool := decide (x = 0) || decide (x = 1)
theorem isB_or {x : Int32} (h : isB x = true) : x = 0 ∨ x = 1 := by simpa [isB] using h
theorem isB_nar {x : Int32} (h : isB x = true) : narrow .boolean (.int x) = .int x ∧ fits .boolean (.int x) = true := by
  rcases isB_or h with rfl | rfl <;> exact ⟨rfl, rfl⟩
theorem rf_cat (r : Option Nat) : (va_rf r).category = 1 := by cases r <;> rfl
theorem rf_ref (r : Option Nat) : va_rf r = .null ∨ ∃ a, va_rf r = .ref a := by
  cases r with
  | none => exact Or.inl rfl
  | some a => exact Or.inr ⟨a, rfl⟩
theorem arrV_upd {c : ClassId} {n : Nat} {V V' : Nat → Value} (h : ∀ j, V j = V' j) : arrV c n V = arrV c n V' := by rw [show V = V' from funext h]
def CE (E : Heap → Prop) (A : Nat → Prop) (s : State) (H : Heap) (locs : List Loc) : Prop := E H ∧ va_S A s.heap H locs
def PP (D : va_G) (aC : Nat → ClassId) (Z : State → Prop) (E : Heap → Prop) (av : List Value) : Array Value → State → Prop := va_Pc av (fun U => SK D aC U ∧ Z U ∧ E U.heap)
/-- what a caller knows beside, and keeps over what is written in A -/
def ZOK (Z : State → Prop) (A : Nat → Prop) : Prop := ∀ (s U : State) (H : Heap) (locs : List Loc), Z s → va_S A s.heap H locs → U.heap = H → s.WarmedH U.vm → Z U
def PQ (E : Heap → Prop) (A : Nat → Prop) (vo : Option Value) : Array Value → State → Outcome → State → Prop := fun _ st o t => o = .returned vo ∧ E t.heap ∧ va_F A st t
theorem PP.blind {D : va_G} {aC : Nat → ClassId} {Z : State → Prop} {A : Nat → Prop} (hZ : ZOK Z A) {E : Heap → Prop} {av : List Value} : FrameBlind (PP D aC Z E av) := fun _ U _ _ h => ⟨h.1, h.2.1.same rfl, hZ U _ U.heap [] h.2.2.1 va_S.rf rfl (State.WarmedH.refl U), h.2.2.2⟩
section CORE2
variable {p : Program} {l : Launch} {e : Env} {R : Room} {s : State} {m : MethodId} {args : Array Value} {below : List Frame} {meth : Method} {c : Code} {H : Heap} {locs : List Loc} {cells slots : Nat} {Q : State → Prop}
variable {cc : ByteArray} {pc nL : Nat} {ls : Array Slot} {rest : List Value} {D : va_G} {aC : Nat → ClassId} {ad : Nat → Nat} {own : String} {w : GW} {H0 : Heap}
theorem k_arr (b : Bd p s m c cc nL own D aC) {k : Nat} (hk : k < 8) (n : Nat) (V : Nat → Value) : s.isArrayOf (arrV (aC k) n V) (aty k) := (b.2.2.2.2.2.1.2 k _ (atys_at aC k hk)).1 n V
theorem k_in {i : Int32} {n : Nat} {cA : ClassId} {V : Nat → Value} (hin : vp_in i n) : ¬ (i < 0 ∨ (arrV cA n V).slots.size ≤ i.toNatClampNeg) := by rw [arrV_size]; exact hin
theorem k_rd {i : Int32} {n : Nat} {cA : ClassId} {V : Nat → Value} (hin : vp_in i n) : (arrV cA n V).slots[i.toNatClampNeg]? = some (V i.toNatClampNeg) := arrV_read _ _ (Nat.not_le.mp fun q => hin (Or.inr q))
theorem k_iald (b : Bd p s m c cc nL own D aC) (hG : GR D aC ad w H) {a n : Nat} {V : Nat → Value} (ha : w a = some (.inr (1, n, V))) {i : Int32} (hin : vp_in i n) (hdg : decode cc pc = .ok (.iaload, 1))
    (kk : W p l e R s m args below meth c H locs cells slots Q (F0 m (pc + 1) ls (V i.toNatClampNeg :: rest))) : W p l e R s m args below meth c H locs cells slots Q (F0 m pc ls (.int i :: .ref (ad a) :: rest)) :=
  W.iald b.1 b.2.1 (hG.2.1 a _ _ _ ha) (k_arr (k := 1) b (by decide) n V) (fun q => by cases q) (k_in hin) (k_rd hin) rfl rfl hdg kk
theorem k_bald (b : Bd p s m c cc nL own D aC) (hG : GR D aC ad w H) {a n : Nat} {V : Nat → Value} (ha : w a = some (.inr (0, n, V))) {i : Int32} (hin : vp_in i n) (hdg : decode cc pc = .ok (.baload, 1))
    (kk : W p l e R s m args below meth c H locs cells slots Q (F0 m (pc + 1) ls (V i.toNatClampNeg :: rest))) : W p l e R s m args below meth c H locs cells slots Q (F0 m pc ls (.int i :: .ref (ad a) :: rest)) :=
  W.bald b.1 b.2.1 (hG.2.1 a _ _ _ ha) (k_arr (k := 0) b (by decide) n V) (fun q => by cases q) (k_in hin) (k_rd hin) rfl rfl hdg kk
theorem k_zald (b : Bd p s m c cc nL own D aC) (hG : GR D aC ad w H) {a n : Nat} {V : Nat → Value} (ha : w a = some (.inr (3, n, V))) {i : Int32} (hin : vp_in i n) (hdg : decode cc pc = .ok (.baload, 1))
    (kk : W p l e R s m args below meth c H locs cells slots Q (F0 m (pc + 1) ls (V i.toNatClampNeg :: rest))) : W p l e R s m args below meth c H locs cells slots Q (F0 m pc ls (.int i :: .ref (ad a) :: rest)) :=
  W.zald b.1 b.2.1 (hG.2.1 a _ _ _ ha) (k_arr (k := 3) b (by decide) n V) (fun q => by cases q) (k_in hin) (k_rd hin) rfl rfl hdg kk
theorem k_lald (b : Bd p s m c cc nL own D aC) (hG : GR D aC ad w H) {a n : Nat} {V : Nat → Value} (ha : w a = some (.inr (2, n, V))) {i : Int32} (hin : vp_in i n) (hdg : decode cc pc = .ok (.laload, 1))
    (kk : W p l e R s m args below meth c H locs cells slots Q (F0 m (pc + 1) ls (V i.toNatClampNeg :: rest))) : W p l e R s m args below meth c H locs cells slots Q (F0 m pc ls (.int i :: .ref (ad a) :: rest)) :=
  W.lald b.1 b.2.1 (hG.2.1 a _ _ _ ha) (k_arr (k := 2) b (by decide) n V) (fun q => by cases q) (k_in hin) (k_rd hin) rfl rfl hdg kk
theorem k_aald (b : Bd p s m c cc nL own D aC) (hG : GR D aC ad w H) {k a n : Nat} {V : Nat → Value} (hk : k < 8) (hr : (aty k).isReference = true) (ha : w a = some (.inr (k, n, V))) {i : Int32} (hin : vp_in i n) (hdg : decode cc pc = .ok (.aaload, 1))
    (kk : W p l e R s m args below meth c H locs cells slots Q (F0 m (pc + 1) ls (V i.toNatClampNeg :: rest))) : W p l e R s m args below meth c H locs cells slots Q (F0 m pc ls (.int i :: .ref (ad a) :: rest)) :=
  W.aald b.1 b.2.1 (hG.2.1 a _ _ _ ha) (k_arr b hk n V) hr (fun q => by cases q) (k_in hin) (k_rd hin) rfl rfl hdg kk
theorem k_alen (b : Bd p s m c cc nL own D aC) (hG : GR D aC ad w H) {k a n : Nat} {V : Nat → Value} (hk : k < 8) (ha : w a = some (.inr (k, n, V))) (hdg : decode cc pc = .ok (.arraylength, 1))
    (kk : W p l e R s m args below meth c H locs cells slots Q (F0 m (pc + 1) ls (.int (nI n) :: rest))) : W p l e R s m args below meth c H locs cells slots Q (F0 m pc ls (.ref (ad a) :: rest)) :=
  W.alen (n := nI n) b.1 b.2.1 (hG.2.1 a _ _ _ ha) (k_arr b hk n V) (by rw [arrV_size]; rfl) rfl rfl hdg kk
theorem k_st (hG : GR D aC ad w H) (hS : va_S (Rg ad) H0 H locs) {k a n i : Nat} {V : Nat → Value} (ha : w a = some (.inr (k, n, V))) {v : Value} {w' : GW} (hw : ∀ j, j ≠ a → w' j = w j) (hwa : w' a = some (.inr (k, n, updV V i v))) {H1 : Heap}
    (e1 : H1[ad a]? = some ((arrV (aC k) n V).setSlot i v)) (z : H1.size = H.size) (oq : ∀ q, q ≠ ad a → H1[q]? = H[q]?) : GR D aC ad w' H1 ∧ va_S (Rg ad) H0 H1 (locs ++ [⟨ad a, i⟩]) := by
  refine ⟨hG.set ha (fun c2 V2 h2 => ?_) (fun k2 n2 V2 h2 => ?_) hw oq, S_put hS z oq ⟨a, rfl⟩⟩
  · rw [hwa] at h2; cases h2
  · rw [hwa] at h2; cases h2
    rw [e1, arrV_store]
theorem k_iast (b : Bd p s m c cc nL own D aC) (hG : GR D aC ad w H) (hS : va_S (Rg ad) H0 H locs) {a n : Nat} {V : Nat → Value} (ha : w a = some (.inr (1, n, V))) {i x : Int32} (hin : vp_in i n) {w' : GW} (hw : ∀ j, j ≠ a → w' j = w j) (hwa : w' a = some (.inr (1, n, updV V i.toNatClampNeg (.int x)))) (hdg : decode cc pc = .ok (.iastore, 1))
    (kk : ∀ (H1 : Heap) (locs1 : List Loc), GR D aC ad w' H1 → va_S (Rg ad) H0 H1 locs1 → H1.size = H.size → W p l e R s m args below meth c H1 locs1 cells slots Q (F0 m (pc + 1) ls rest)) : W p l e R s m args below meth c H locs cells slots Q (F0 m pc ls (.int x :: .int i :: .ref (ad a) :: rest)) := by
  refine W.iast b.1 b.2.1 (hG.2.1 a _ _ _ ha) (k_arr (k := 1) b (by decide) n V) (fun q => by cases q) (k_in hin) rfl rfl hdg fun H1 e z oq => ?_
  obtain ⟨g1, g2⟩ := k_st hG hS ha hw hwa e z oq
  exact kk H1 _ g1 g2 z
theorem k_bast (b : Bd p s m c cc nL own D aC) (hG : GR D aC ad w H) (hS : va_S (Rg ad) H0 H locs) {a n : Nat} {V : Nat → Value} (ha : w a = some (.inr (0, n, V))) {i x : Int32} (hin : vp_in i n) {w' : GW} (hw : ∀ j, j ≠ a → w' j = w j) (hwa : w' a = some (.inr (0, n, updV V i.toNatClampNeg (.int x.toInt8.toInt32)))) (hdg : decode cc pc = .ok (.bastore, 1))
    (kk : ∀ (H1 : Heap) (locs1 : List Loc), GR D aC ad w' H1 → va_S (Rg ad) H0 H1 locs1 → H1.size = H.size → W p l e R s m args below meth c H1 locs1 cells slots Q (F0 m (pc + 1) ls rest)) : W p l e R s m args below meth c H locs cells slots Q (F0 m pc ls (.int x :: .int i :: .ref (ad a) :: rest)) := by
  refine W.bast b.1 b.2.1 (hG.2.1 a _ _ _ ha) (k_arr (k := 0) b (by decide) n V) (fun q => by cases q) (k_in hin) rfl rfl hdg fun H1 e z oq => ?_
  obtain ⟨g1, g2⟩ := k_st hG hS ha hw hwa e z oq
  exact kk H1 _ g1 g2 z
theorem k_zast (b : Bd p s m c cc nL own D aC) (hG : GR D aC ad w H) (hS : va_S (Rg ad) H0 H locs) {a n : Nat} {V : Nat → Value} (ha : w a = some (.inr (3, n, V))) {i x : Int32} (hx : isB x = true) (hin : vp_in i n) {w' : GW} (hw : ∀ j, j ≠ a → w' j = w j) (hwa : w' a = some (.inr (3, n, updV V i.toNatClampNeg (.int x)))) (hdg : decode cc pc = .ok (.bastore, 1))
    (kk : ∀ (H1 : Heap) (locs1 : List Loc), GR D aC ad w' H1 → va_S (Rg ad) H0 H1 locs1 → H1.size = H.size → W p l e R s m args below meth c H1 locs1 cells slots Q (F0 m (pc + 1) ls rest)) : W p l e R s m args below meth c H locs cells slots Q (F0 m pc ls (.int x :: .int i :: .ref (ad a) :: rest)) := by
  refine W.zast b.1 b.2.1 (hG.2.1 a _ _ _ ha) (k_arr (k := 3) b (by decide) n V) (fun q => by cases q) (k_in hin) rfl rfl hdg fun H1 e z oq => ?_
  rw [(isB_nar hx).1] at e
  obtain ⟨g1, g2⟩ := k_st hG hS ha hw hwa e z oq
  exact kk H1 _ g1 g2 z
theorem k_last (b : Bd p s m c cc nL own D aC) (hG : GR D aC ad w H) (hS : va_S (Rg ad) H0 H locs) {a n : Nat} {V : Nat → Value} (ha : w a = some (.inr (2, n, V))) {i : Int32} {x : Int64} (hin : vp_in i n) {w' : GW} (hw : ∀ j, j ≠ a → w' j = w j) (hwa : w' a = some (.inr (2, n, updV V i.toNatClampNeg (.long x)))) (hdg : decode cc pc = .ok (.lastore, 1))
    (kk : ∀ (H1 : Heap) (locs1 : List Loc), GR D aC ad w' H1 → va_S (Rg ad) H0 H1 locs1 → H1.size = H.size → W p l e R s m args below meth c H1 locs1 cells slots Q (F0 m (pc + 1) ls rest)) : W p l e R s m args below meth c H locs cells slots Q (F0 m pc ls (.long x :: .int i :: .ref (ad a) :: rest)) := by
  refine W.last b.1 b.2.1 (hG.2.1 a _ _ _ ha) (k_arr (k := 2) b (by decide) n V) (fun q => by cases q) (k_in hin) rfl rfl hdg fun H1 e z oq => ?_
  obtain ⟨g1, g2⟩ := k_st hG hS ha hw hwa e z oq
  exact kk H1 _ g1 g2 z
/-- a cell of class ci into an array over that class -/
theorem k_aast (b : Bd p s m c cc nL own D aC) (hG : GR D aC ad w H) (hS : va_S (Rg ad) H0 H locs) {k ci a n v : Nat} {V V2 : Nat → Value} {C : String} {T : u_T} {N : Nat} (hk : k < 8) (hty : aty k = .object C) (hc : classes[ci]? = some (C, T, N)) (ha : w a = some (.inr (k, n, V))) (hv : w v = some (.inl (ci, V2))) {i : Int32} (hin : vp_in i n) {w' : GW} (hw : ∀ j, j ≠ a → w' j = w j) (hwa : w' a = some (.inr (k, n, updV V i.toNatClampNeg (.ref (ad v))))) (hdg : decode cc pc = .ok (.aastore, 1))
    (kk : ∀ (H1 : Heap) (locs1 : List Loc), GR D aC ad w' H1 → va_S (Rg ad) H0 H1 locs1 → H1.size = H.size → W p l e R s m args below meth c H1 locs1 cells slots Q (F0 m (pc + 1) ls rest)) : W p l e R s m args below meth c H locs cells slots Q (F0 m pc ls (.ref (ad v) :: .int i :: .ref (ad a) :: rest)) := by
  have hlt : i.toNatClampNeg < n := Nat.not_le.mp fun q => hin (Or.inr q)
  have h0 : ¬ i < 0 := fun q => hin (Or.inl q)
  obtain ⟨r', hr', cellV, g1, g2, g3, -⟩ := hG.1 v _ _ hv
  have hcls := (b.2.2.2.2.2.1.1 ci _ hc).2
  have hRA := (b.2.2.2.2.2.1.2 k _ (atys_at aC k hk)).2
  rw [hty] at hRA
  obtain ⟨kA, comp, k1, k2, k3, -⟩ := hRA
  have hcomp : comp = D.1 ci := Option.some.inj (k3.symm.trans hcls.1)
  subst hcomp
  have hcls' := hcls
  obtain ⟨kC, hkC, -⟩ := hcls.2
  refine W.aast b.1 b.2.1 (hG.2.1 a _ _ _ ha) (fun q h => by cases h) (fun h => by cases h) k1 k2 rfl hkC ⟨h0, by rw [arrV_size]; exact hlt⟩ g1 (fun q h => by rw [g3] at h; cases h) (by rw [g2]; exact hkC) (by rw [g2]; exact va_assign hcls') rfl rfl hdg fun H1 e z oq => ?_
  obtain ⟨q1, q2⟩ := k_st hG hS ha hw hwa e z oq
  exact kk H1 _ q1 q2 z
theorem S_push {A : Nat → Prop} {H1 : Heap} (h : va_S A H0 H locs) (z : H1.size = H.size + 1) (oq : ∀ q : Nat, q < H.size → H1[q]? = H[q]?) : va_S A H0 H1 locs :=
  ⟨by rw [z]; exact Nat.le_succ_of_le h.1, fun q h1 h2 => (oq q (Nat.lt_of_lt_of_le h1 h.1)).trans (h.2.1 q h1 h2), h.2.2⟩
theorem k_new (b : Bd p s m c cc nL own D aC) (hG : GR D aC ad w H) (hS : va_S (Rg ad) H0 H locs) {C : String} {T : u_T} {N ci index n : Nat} (hin : ∀ x ∈ u_ws C T N, x ∈ tbl) (hc : classes[ci]? = some (C, T, N)) (ty0 : Nat → FieldType) (hty : ∀ k, k < N → parseFieldDescriptor (T k).2.2.1 = some (ty0 k))
    (hcl : Cond.classLink own index C ∈ tbl) (hinst : Cond.instantiable C N ∈ tbl) (hini : Cond.initialized C ∈ tbl) (hn : H.size = ad n) (hcells : cells + 1 ≤ R.cells) (hslots : slots + N ≤ R.slots)
    {V : Nat → Value} (hV : ∀ k, k < N → defaultValue (ty0 k) = V k) {w' : GW} (hw : ∀ j, j ≠ n → w' j = w j) (hwa : w' n = some (.inl (ci, V))) (hdg : decode cc pc = .ok (.new index, 3))
    (kk : ∀ H1 : Heap, GR D aC ad w' H1 → va_S (Rg ad) H0 H1 locs → H1.size = H.size + 1 → W p l e R s m args below meth c H1 locs (cells + 1) (slots + N) Q (F0 m (pc + 3) ls (.ref (ad n) :: rest))) : W p l e R s m args below meth c H locs cells slots Q (F0 m pc ls rest) := by
  obtain ⟨hx, hb, -, hown, hT, hK, -⟩ := b
  have hKn := hK.1 ci _ hc
  refine W.newcK hx hb hown (hT _ hcl args) (hT _ hinst args) (hT _ hini args) rfl hdg hcells hslots hKn.2.1 hn fun H1 kC hkC e1 z1 o1 => ?_
  have o1' : ∀ q : Nat, q < H.size → H1[q]? = H[q]? := fun q hq => o1 q (by rw [← hn]; exact hq)
  refine kk H1 (hG.push hn.symm (fun c2 V2 h2 => ?_) (fun k2 n2 V2 h2 => ?_) hw o1') (S_push hS (by rw [z1, hn]) o1') (by rw [z1, hn])
  · rw [hwa] at h2; cases h2
    exact ⟨_, hc, (u_born ty0 (hT.ts args) hin hKn hkC e1 hty).to hV⟩
  · rw [hwa] at h2; cases h2
theorem k_newa (b : Bd p s m c cc nL own D aC) (hG : GR D aC ad w H) (hS : va_S (Rg ad) H0 H locs) {atype : ArrayType} {k n N' : Nat} {i : Int32} (hk : k < 4) (hty : newarray.typeOf atype = aty k) (harr : Cond.arrayClass (aty k) ∈ tbl) (hn : H.size = ad n) (hi : ¬ i < 0) (hN : i.toNatClampNeg = N') (hbytes : N' * 8 ≤ 536870912) (hcells : cells + 1 ≤ R.cells) (hslots : slots + N' ≤ R.slots)
    {w' : GW} (hw : ∀ j, j ≠ n → w' j = w j) (hwa : w' n = some (.inr (k, N', fun _ => defaultValue (aty k)))) (hdg : decode cc pc = .ok (.newarray atype, 2))
    (kk : ∀ H1 : Heap, GR D aC ad w' H1 → va_S (Rg ad) H0 H1 locs → H1.size = H.size + 1 → W p l e R s m args below meth c H1 locs (cells + 1) (slots + N') Q (F0 m (pc + 2) ls (.ref (ad n) :: rest))) : W p l e R s m args below meth c H locs cells slots Q (F0 m pc ls (.int i :: rest)) := by
  obtain ⟨hx, hb, -, hown, hT, hK, -⟩ := b
  refine va_newaK hx hb (by rw [hty]; exact hT _ harr args) rfl hdg rfl hi hN (Nat.le_trans (Nat.mul_le_mul_left N' (by cases atype <;> decide)) hbytes) hcells hslots hn fun H1 cA e1 z1 o1 hAr hNm => ?_
  have o1' : ∀ q : Nat, q < H.size → H1[q]? = H[q]? := fun q hq => o1 q (by rw [← hn]; exact hq)
  have hcA : cA = aC k := by
    have h1 := (hK.2 k _ (atys_at aC k (by omega))).2
    rw [hty] at hNm
    have h2 : s.vm.findClass ("[" ++ (aty k).toString) = some (aC k) := by
      match k, hk, h1 with
      | 0, _, h1 => exact h1
      | 1, _, h1 => exact h1
      | 2, _, h1 => exact h1
      | 3, _, h1 => exact h1
    exact Option.some.inj (hNm.symm.trans h2)
  rw [hcA, hty] at e1
  refine kk H1 (hG.push hn.symm (fun c2 V2 h2 => ?_) (fun k2 n2 V2 h2 => ?_) hw o1') (S_push hS (by rw [z1, hn]) o1') (by rw [z1, hn])
  · rw [hwa] at h2; cases h2
  · rw [hwa] at h2; cases h2
    exact e1
theorem k_newq (b : Bd p s m c cc nL own D aC) (hG : GR D aC ad w H) (hS : va_S (Rg ad) H0 H locs) {C : String} {index k n N' : Nat} {i : Int32} (hk : k < 8) (hty : aty k = .object C) (hao : va_AO C s) (hcl : Cond.classLink own index C ∈ tbl) (hn : H.size = ad n) (hi : ¬ i < 0) (hN : i.toNatClampNeg = N') (hbytes : N' * 4 ≤ 536870912) (hcells : cells + 1 ≤ R.cells) (hslots : slots + N' ≤ R.slots)
    {w' : GW} (hw : ∀ j, j ≠ n → w' j = w j) (hwa : w' n = some (.inr (k, N', fun _ => .null))) (hdg : decode cc pc = .ok (.anewarray index, 3))
    (kk : ∀ H1 : Heap, GR D aC ad w' H1 → va_S (Rg ad) H0 H1 locs → H1.size = H.size + 1 → W p l e R s m args below meth c H1 locs (cells + 1) (slots + N') Q (F0 m (pc + 3) ls (.ref (ad n) :: rest))) : W p l e R s m args below meth c H locs cells slots Q (F0 m pc ls (.int i :: rest)) := by
  obtain ⟨hx, hb, -, hown, hT, hK, -⟩ := b
  subst hN
  refine W.anew hx hb hown (hT _ hcl args) (va_AO.use hao) rfl hdg rfl hi hbytes hcells hslots fun cA kA comp f1 f2 f3 f4 => ?_
  generalize hH1 : H.push ({ cls := cA, slots := Array.replicate i.toNatClampNeg .null, vm := .none } : Cell) = H1
  have z1 : H1.size = H.size + 1 := by rw [← hH1, Array.size_push]
  have e1 : H1[H.size]? = some (arrV cA i.toNatClampNeg (fun _ => .null)) := by rw [← hH1, Array.getElem?_push_size, ← arrV_new]
  have o1 : ∀ q : Nat, q < H.size → H1[q]? = H[q]? := fun q hq => by rw [← hH1, Array.getElem?_push, if_neg (Nat.ne_of_lt hq)]
  have hcA : cA = aC k := by
    have h1 := (hK.2 k _ (atys_at aC k hk)).2
    rw [hty] at h1
    obtain ⟨kB, cB, -, -, -, h4⟩ := h1
    exact Option.some.inj (f1.symm.trans h4)
  rw [hcA] at e1
  show W p l e R s m args below meth c H1 locs (cells + 1) (slots + i.toNatClampNeg) Q (F0 m (pc + 3) ls (.ref H.size :: rest))
  rw [hn]
  refine kk H1 (hG.push hn.symm (fun c2 V2 h2 => ?_) (fun k2 n2 V2 h2 => ?_) hw o1) (S_push hS z1 o1) z1
  · rw [hwa] at h2; cases h2
  · rw [hwa] at h2; cases h2
    rw [← hn]; exact e1
/-- behind a call: the callee's end holds, what isn't in A stays -/
theorem k_go {E E' : Heap → Prop} {A : Nat → Prop} {mc ms : Nat} {vo : Option Value} {st0 : List Value} {a : Array Value} (hr : va_Run p l e R s m args below meth c H locs cells slots mc ms (F0 m pc ls st0) rest (PQ E' A vo a) A) (hE : CE E A s H locs)
    (kk : ∀ (H1 : Heap) (locs1 : List Loc), CE E' A s H1 locs1 → W p l e R s m args below meth c H1 locs1 (cells + mc) (slots + ms) Q (F0 m (pc + 3) ls (vo.toList ++ rest))) : W p l e R s m args below meth c H locs cells slots Q (F0 m pc ls st0) := by
  intro T hT X
  obtain ⟨v, st₀, t, T', L, h0, X', hL, e1, e2, ⟨hv, hb, hz, hk⟩, st⟩ := hr T hT X
  cases hv
  rw [h0] at hz hk
  obtain ⟨hE1, hS⟩ := hE
  obtain ⟨t2, a1, b1⟩ := kk T'.heap (locs ++ L) ⟨by rw [e1]; exact hb, Nat.le_trans hS.1 (by rw [e1]; exact hz), fun q h1 h2 => by rw [e1, hk q (Nat.lt_of_lt_of_le h1 hS.1) h2]; exact hS.2.1 q h1 h2, fun q hq => by
      rcases List.mem_append.mp hq with h | h
      · exact hS.2.2 q h
      · exact hL q h⟩ T' rfl X'
  exact ⟨t2, st t2 a1, b1⟩
theorem good1 {w : Cond} (h : w ∈ tbl) (hg : goodWord w = true) : GoodIn tbl [w] := fun x hx => by rw [List.mem_singleton.mp hx]; exact ⟨h, good_of_word hg⟩
variable {y : MethodName} {bytes : ByteArray} {maxL F L mc ms index n : Nat} {ret : Option FieldType} {E E' : Heap → Prop} {A : Nat → Prop} {As st0 : List Value} {vo : Option Value} {Z : State → Prop}
/-- the contract's form -/
def CM (l : Launch) (D : va_G) (aC : Nat → ClassId) (Z : State → Prop) (y : MethodName) (bytes : ByteArray) (maxL : Nat) (ret : Option FieldType) (F L mc ms : Nat) (E : Heap → Prop) (av : List Value) (E' : Heap → Prop) (vo : Option Value) (A : Nat → Prop) : Prop :=
  Met l y [Cond.code y bytes maxL ret] { frames := F, cells := mc, slots := ms, locals := L } (PP D aC Z E av) (PQ E' A vo) mc ms A
/-- what a call's site gives: its name and number of arguments -/
def okY (y : MethodName) (n : Nat) : Prop := y.cls ≠ "java/lang/invoke/MethodHandle" ∧ y.cls ≠ "java/lang/invoke/VarHandle" ∧ (parseMethodDescriptor y.desc).map (fun d => d.parameters.length) = some n
theorem k_callV (b : Bd p s m c cc nL own D aC) (zs : Z s) (hZ : ZOK Z A) (hE : CE E A s H locs) {C : String} {ba : Nat} (hM : CM l D aC Z y bytes maxL ret F L mc ms E (.ref ba :: As) E' vo A) (hcode : Cond.code y bytes maxL ret ∈ tbl) (hl : Cond.methodLink own index y ∈ tbl) (hinst : Cond.instanceMethod y ∈ tbl) (hsel : Cond.selects C y y ∈ tbl) (hini : Cond.initialized y.cls ∈ tbl) (hy : okY y n)
    (hr : ∃ cellB : Cell, H[ba]? = some cellB ∧ cellB.vm.isStatics = false ∧ s.vm.findClass C = some cellB.cls) (hR : F + 1 ≤ R.frames ∧ 8 + (maxL + 11) + L ≤ R.locals) (hn : As.length = n) (hls : ls.size = nL) (hst : st0 = As.reverse ++ .ref ba :: rest) (hW : (rest.map fun v => v.category).sum ≤ 8) (hf : cells + mc ≤ R.cells ∧ slots + ms ≤ R.slots) (hdg : decode cc pc = .ok (.invokevirtual index, 3))
    (kk : ∀ (H1 : Heap) (locs1 : List Loc), CE E' A s H1 locs1 → W p l e R s m args below meth c H1 locs1 (cells + mc) (slots + ms) Q (F0 m (pc + 3) ls (vo.toList ++ rest))) : W p l e R s m args below meth c H locs cells slots Q (F0 m pc ls st0) := by
  obtain ⟨hx, hb, hml, hown, hSK⟩ := id b
  have hT := hSK.1
  exact k_go (va_runV (C := C) (Ts := tbl) ⟨hx, hb, hml, hown, hT.ts args⟩ hM ⟨callB_of n (hT.ts args) (good1 hcode rfl) rfl rfl rfl (hT _ hini args) (hT _ hl args) hy hR, hT _ hinst args, hT _ hsel args⟩ ⟨PP.blind hZ, hr, fun U hU hW => ⟨rfl, hSK.warm hW, hZ s U H locs zs hE.2 hU hW, by rw [hU]; exact hE.1⟩⟩ rfl hn hls hst (lv_room hW) hdg hf) hE kk
theorem k_callVN (b : Bd p s m c cc nL own D aC) (zs : Z s) (hZ : ZOK Z A) (hE : CE E A s H locs) {C host : String} {ba : Nat} (hM : CM l D aC Z y bytes maxL ret F L mc ms E (.ref ba :: As) E' vo A) (hcode : Cond.code y bytes maxL ret ∈ tbl) (hl : Cond.methodLinkNest own index y host ∈ tbl) (hinst : Cond.instanceMethod y ∈ tbl) (hsel : Cond.selects C y y ∈ tbl) (hini : Cond.initialized y.cls ∈ tbl) (hy : okY y n)
    (hr : ∃ cellB : Cell, H[ba]? = some cellB ∧ cellB.vm.isStatics = false ∧ s.vm.findClass C = some cellB.cls) (hR : F + 1 ≤ R.frames ∧ 8 + (maxL + 11) + L ≤ R.locals) (hn : As.length = n) (hls : ls.size = nL) (hst : st0 = As.reverse ++ .ref ba :: rest) (hW : (rest.map fun v => v.category).sum ≤ 8) (hf : cells + mc ≤ R.cells ∧ slots + ms ≤ R.slots) (hdg : decode cc pc = .ok (.invokevirtual index, 3))
    (kk : ∀ (H1 : Heap) (locs1 : List Loc), CE E' A s H1 locs1 → W p l e R s m args below meth c H1 locs1 (cells + mc) (slots + ms) Q (F0 m (pc + 3) ls (vo.toList ++ rest))) : W p l e R s m args below meth c H locs cells slots Q (F0 m pc ls st0) := by
  obtain ⟨hx, hb, hml, hown, hSK⟩ := id b
  have hT := hSK.1
  exact k_go (va_runVN (C := C) (host := host) (Ts := tbl) ⟨hx, hb, hml, hown, hT.ts args⟩ hM ⟨va_cnB n (hT.ts args) (good1 hcode rfl) rfl rfl rfl (va_Nw.of rfl (hT _ hl args)) (hT _ hini args) hy hR, hT _ hinst args, hT _ hsel args⟩ ⟨PP.blind hZ, hr, fun U hU hW => ⟨rfl, hSK.warm hW, hZ s U H locs zs hE.2 hU hW, by rw [hU]; exact hE.1⟩⟩ rfl hn hls hst (lv_room hW) hdg hf) hE kk
theorem k_callS (b : Bd p s m c cc nL own D aC) (zs : Z s) (hZ : ZOK Z A) (hE : CE E A s H locs) (hM : CM l D aC Z y bytes maxL ret F L mc ms E As E' vo A) (hcode : Cond.code y bytes maxL ret ∈ tbl) (hl : Cond.methodLink own index y ∈ tbl) (hstat : Cond.static y ∈ tbl) (hini : Cond.initialized y.cls ∈ tbl) (hy : okY y n)
    (hR : F + 1 ≤ R.frames ∧ 8 + (maxL + 11) + L ≤ R.locals) (hn : As.length = n) (hls : ls.size = nL) (hst : st0 = As.reverse ++ rest) (hW : (rest.map fun v => v.category).sum ≤ 8) (hf : cells + mc ≤ R.cells ∧ slots + ms ≤ R.slots) (hdg : decode cc pc = .ok (.invokestatic index, 3))
    (kk : ∀ (H1 : Heap) (locs1 : List Loc), CE E' A s H1 locs1 → W p l e R s m args below meth c H1 locs1 (cells + mc) (slots + ms) Q (F0 m (pc + 3) ls (vo.toList ++ rest))) : W p l e R s m args below meth c H locs cells slots Q (F0 m pc ls st0) := by
  obtain ⟨hx, hb, hml, hown, hSK⟩ := id b
  have hT := hSK.1
  exact k_go (va_runS (Ts := tbl) ⟨hx, hb, hml, hown, hT.ts args⟩ hM ⟨callB_of n (hT.ts args) (good1 hcode rfl) rfl rfl rfl (hT _ hini args) (hT _ hl args) hy hR, hT _ hstat args⟩ ⟨PP.blind hZ, fun U hU hW => ⟨rfl, hSK.warm hW, hZ s U H locs zs hE.2 hU hW, by rw [hU]; exact hE.1⟩⟩ rfl hn hls hst (lv_room hW) hdg hf) hE kk
theorem k_callI (b : Bd p s m c cc nL own D aC) (zs : Z s) (hZ : ZOK Z A) (hE : CE E A s H locs) {ba : Nat} (hM : CM l D aC Z y bytes maxL none F L mc ms E (.ref ba :: As) E' vo A) (hcode : Cond.code y bytes maxL none ∈ tbl) (hl : Cond.methodLink own index y ∈ tbl) (hinst : Cond.instanceMethod y ∈ tbl) (hini : Cond.initialized y.cls ∈ tbl) (hy1 : y.name = "<init>") (hy : okY y n)
    (hR : F + 1 ≤ R.frames ∧ 8 + (maxL + 11) + L ≤ R.locals) (hn : As.length = n) (hls : ls.size = nL) (hst : st0 = As.reverse ++ .ref ba :: rest) (hW : (rest.map fun v => v.category).sum ≤ 8) (hf : cells + mc ≤ R.cells ∧ slots + ms ≤ R.slots) (hdg : decode cc pc = .ok (.invokespecial index, 3))
    (kk : ∀ (H1 : Heap) (locs1 : List Loc), CE E' A s H1 locs1 → W p l e R s m args below meth c H1 locs1 (cells + mc) (slots + ms) Q (F0 m (pc + 3) ls (vo.toList ++ rest))) : W p l e R s m args below meth c H locs cells slots Q (F0 m pc ls st0) := by
  obtain ⟨hx, hb, hml, hown, hSK⟩ := id b
  have hT := hSK.1
  exact k_go (va_runI (Ts := tbl) ⟨hx, hb, hml, hown, hT.ts args⟩ hM ⟨callB_of n (hT.ts args) (good1 hcode rfl) rfl rfl rfl (hT _ hini args) (hT _ hl args) hy hR, hy1, hT _ hinst args⟩ ⟨PP.blind hZ, fun U hU hW => ⟨rfl, hSK.warm hW, hZ s U H locs zs hE.2 hU hW, by rw [hU]; exact hE.1⟩⟩ rfl hn hls hst (lv_room hW) hdg hf) hE kk
theorem k_callIN (b : Bd p s m c cc nL own D aC) (zs : Z s) (hZ : ZOK Z A) (hE : CE E A s H locs) {ba : Nat} {host : String} (hM : CM l D aC Z y bytes maxL none F L mc ms E (.ref ba :: As) E' vo A) (hcode : Cond.code y bytes maxL none ∈ tbl) (hl : Cond.methodLinkNest own index y host ∈ tbl) (hinst : Cond.instanceMethod y ∈ tbl) (hini : Cond.initialized y.cls ∈ tbl) (hy1 : y.name = "<init>") (hy : okY y n)
    (hR : F + 1 ≤ R.frames ∧ 8 + (maxL + 11) + L ≤ R.locals) (hn : As.length = n) (hls : ls.size = nL) (hst : st0 = As.reverse ++ .ref ba :: rest) (hW : (rest.map fun v => v.category).sum ≤ 8) (hf : cells + mc ≤ R.cells ∧ slots + ms ≤ R.slots) (hdg : decode cc pc = .ok (.invokespecial index, 3))
    (kk : ∀ (H1 : Heap) (locs1 : List Loc), CE E' A s H1 locs1 → W p l e R s m args below meth c H1 locs1 (cells + mc) (slots + ms) Q (F0 m (pc + 3) ls (vo.toList ++ rest))) : W p l e R s m args below meth c H locs cells slots Q (F0 m pc ls st0) := by
  obtain ⟨hx, hb, hml, hown, hSK⟩ := id b
  have hT := hSK.1
  exact k_go (va_runIN (host := host) (Ts := tbl) ⟨hx, hb, hml, hown, hT.ts args⟩ hM ⟨va_cnB n (hT.ts args) (good1 hcode rfl) rfl rfl rfl (va_Nw.of rfl (hT _ hl args)) (hT _ hini args) hy hR, hy1, hT _ hinst args⟩ ⟨PP.blind hZ, fun U hU hW => ⟨rfl, hSK.warm hW, hZ s U H locs zs hE.2 hU hW, by rw [hU]; exact hE.1⟩⟩ rfl hn hls hst (lv_room hW) hdg hf) hE kk
theorem k_callV0 (b : Bd p s m c cc nL own D aC) (zs : Z s) (hZ : ZOK Z A) (hE : CE E A s H locs) {C : String} {ba : Nat} (hM : CM l D aC Z y bytes maxL ret F L 0 0 E (.ref ba :: As) E' vo A) (hcode : Cond.code y bytes maxL ret ∈ tbl) (hl : Cond.methodLink own index y ∈ tbl) (hinst : Cond.instanceMethod y ∈ tbl) (hsel : Cond.selects C y y ∈ tbl) (hini : Cond.initialized y.cls ∈ tbl) (hy : okY y n)
    (hr : ∃ cellB : Cell, H[ba]? = some cellB ∧ cellB.vm.isStatics = false ∧ s.vm.findClass C = some cellB.cls) (hR : F + 1 ≤ R.frames ∧ 8 + (maxL + 11) + L ≤ R.locals) (hn : As.length = n) (hls : ls.size = nL) (hst : st0 = As.reverse ++ .ref ba :: rest) (hW : (rest.map fun v => v.category).sum ≤ 8) (hf : cells + 0 ≤ R.cells ∧ slots + 0 ≤ R.slots) (hdg : decode cc pc = .ok (.invokevirtual index, 3))
    (kk : ∀ (H1 : Heap) (locs1 : List Loc), CE E' A s H1 locs1 → W p l e R s m args below meth c H1 locs1 cells slots Q (F0 m (pc + 3) ls (vo.toList ++ rest))) : W p l e R s m args below meth c H locs cells slots Q (F0 m pc ls st0) :=
  k_callV b zs hZ hE hM hcode hl hinst hsel hini hy hr hR hn hls hst hW hf hdg kk
theorem k_callVN0 (b : Bd p s m c cc nL own D aC) (zs : Z s) (hZ : ZOK Z A) (hE : CE E A s H locs) {C host : String} {ba : Nat} (hM : CM l D aC Z y bytes maxL ret F L 0 0 E (.ref ba :: As) E' vo A) (hcode : Cond.code y bytes maxL ret ∈ tbl) (hl : Cond.methodLinkNest own index y host ∈ tbl) (hinst : Cond.instanceMethod y ∈ tbl) (hsel : Cond.selects C y y ∈ tbl) (hini : Cond.initialized y.cls ∈ tbl) (hy : okY y n)
    (hr : ∃ cellB : Cell, H[ba]? = some cellB ∧ cellB.vm.isStatics = false ∧ s.vm.findClass C = some cellB.cls) (hR : F + 1 ≤ R.frames ∧ 8 + (maxL + 11) + L ≤ R.locals) (hn : As.length = n) (hls : ls.size = nL) (hst : st0 = As.reverse ++ .ref ba :: rest) (hW : (rest.map fun v => v.category).sum ≤ 8) (hf : cells + 0 ≤ R.cells ∧ slots + 0 ≤ R.slots) (hdg : decode cc pc = .ok (.invokevirtual index, 3))
    (kk : ∀ (H1 : Heap) (locs1 : List Loc), CE E' A s H1 locs1 → W p l e R s m args below meth c H1 locs1 cells slots Q (F0 m (pc + 3) ls (vo.toList ++ rest))) : W p l e R s m args below meth c H locs cells slots Q (F0 m pc ls st0) :=
  k_callVN b zs hZ hE hM hcode hl hinst hsel hini hy hr hR hn hls hst hW hf hdg kk
theorem k_callS0 (b : Bd p s m c cc nL own D aC) (zs : Z s) (hZ : ZOK Z A) (hE : CE E A s H locs) (hM : CM l D aC Z y bytes maxL ret F L 0 0 E As E' vo A) (hcode : Cond.code y bytes maxL ret ∈ tbl) (hl : Cond.methodLink own index y ∈ tbl) (hstat : Cond.static y ∈ tbl) (hini : Cond.initialized y.cls ∈ tbl) (hy : okY y n)
    (hR : F + 1 ≤ R.frames ∧ 8 + (maxL + 11) + L ≤ R.locals) (hn : As.length = n) (hls : ls.size = nL) (hst : st0 = As.reverse ++ rest) (hW : (rest.map fun v => v.category).sum ≤ 8) (hf : cells + 0 ≤ R.cells ∧ slots + 0 ≤ R.slots) (hdg : decode cc pc = .ok (.invokestatic index, 3))
    (kk : ∀ (H1 : Heap) (locs1 : List Loc), CE E' A s H1 locs1 → W p l e R s m args below meth c H1 locs1 cells slots Q (F0 m (pc + 3) ls (vo.toList ++ rest))) : W p l e R s m args below meth c H locs cells slots Q (F0 m pc ls st0) :=
  k_callS b zs hZ hE hM hcode hl hstat hini hy hR hn hls hst hW hf hdg kk
theorem k_callI0 (b : Bd p s m c cc nL own D aC) (zs : Z s) (hZ : ZOK Z A) (hE : CE E A s H locs) {ba : Nat} (hM : CM l D aC Z y bytes maxL none F L 0 0 E (.ref ba :: As) E' vo A) (hcode : Cond.code y bytes maxL none ∈ tbl) (hl : Cond.methodLink own index y ∈ tbl) (hinst : Cond.instanceMethod y ∈ tbl) (hini : Cond.initialized y.cls ∈ tbl) (hy1 : y.name = "<init>") (hy : okY y n)
    (hR : F + 1 ≤ R.frames ∧ 8 + (maxL + 11) + L ≤ R.locals) (hn : As.length = n) (hls : ls.size = nL) (hst : st0 = As.reverse ++ .ref ba :: rest) (hW : (rest.map fun v => v.category).sum ≤ 8) (hf : cells + 0 ≤ R.cells ∧ slots + 0 ≤ R.slots) (hdg : decode cc pc = .ok (.invokespecial index, 3))
    (kk : ∀ (H1 : Heap) (locs1 : List Loc), CE E' A s H1 locs1 → W p l e R s m args below meth c H1 locs1 cells slots Q (F0 m (pc + 3) ls (vo.toList ++ rest))) : W p l e R s m args below meth c H locs cells slots Q (F0 m pc ls st0) :=
  k_callI b zs hZ hE hM hcode hl hinst hini hy1 hy hR hn hls hst hW hf hdg kk
theorem k_callIN0 (b : Bd p s m c cc nL own D aC) (zs : Z s) (hZ : ZOK Z A) (hE : CE E A s H locs) {ba : Nat} {host : String} (hM : CM l D aC Z y bytes maxL none F L 0 0 E (.ref ba :: As) E' vo A) (hcode : Cond.code y bytes maxL none ∈ tbl) (hl : Cond.methodLinkNest own index y host ∈ tbl) (hinst : Cond.instanceMethod y ∈ tbl) (hini : Cond.initialized y.cls ∈ tbl) (hy1 : y.name = "<init>") (hy : okY y n)
    (hR : F + 1 ≤ R.frames ∧ 8 + (maxL + 11) + L ≤ R.locals) (hn : As.length = n) (hls : ls.size = nL) (hst : st0 = As.reverse ++ .ref ba :: rest) (hW : (rest.map fun v => v.category).sum ≤ 8) (hf : cells + 0 ≤ R.cells ∧ slots + 0 ≤ R.slots) (hdg : decode cc pc = .ok (.invokespecial index, 3))
    (kk : ∀ (H1 : Heap) (locs1 : List Loc), CE E' A s H1 locs1 → W p l e R s m args below meth c H1 locs1 cells slots Q (F0 m (pc + 3) ls (vo.toList ++ rest))) : W p l e R s m args below meth c H locs cells slots Q (F0 m pc ls st0) :=
  k_callIN b zs hZ hE hM hcode hl hinst hini hy1 hy hR hn hls hst hW hf hdg kk
/-- a contract out of its body's walk -/
theorem CM.of {av : List Value} (hy : plainName y.cls = true)
    (body : ∀ p e s m below meth c, Bd p s m c bytes maxL y.cls D aC → meth.sig.returnType = ret → meth.locks = false → meth.name = y.name → Z s → CE E A s s.heap [] → W p l e { frames := F, cells := mc, slots := ms, locals := L } s m av.toArray below meth c s.heap [] 0 0 (MQ below (PQ E' A vo) av.toArray s mc ms A) (entryFrame m av.toArray maxL)) : CM l D aC Z y bytes maxL ret F L mc ms E av E' vo A := by
  refine Met.ofW (cc := bytes) (maxL := maxL) (ret := ret) hy rfl ?_
  intro p e s m args below meth c s₁ B hml hv
  obtain ⟨rfl, hSK, zs, hE⟩ := hv
  exact body p e s m below meth c ⟨B.exec, B.bytes, hml, findClass_of_methodNamed B.named, hSK⟩ B.returns B.notSynchronized (name_of_methodNamed B.named B.method).1 zs ⟨hE, va_S.rf⟩
/-- returns -/
theorem k_iret (b : Bd p s m c cc nL own D aC) (hlk : meth.locks = false) (hr : meth.sig.returnType = some .int) {v : Int32} (hE : CE E A s H locs) (h1 : cells ≤ mc) (h2 : slots ≤ ms) (hdg : decode cc pc = .ok (.ireturn, 1)) : W p l e R s m args below meth c H locs cells slots (MQ below (PQ E A (some (.int v))) args s mc ms A) (F0 m pc ls [.int v]) :=
  W.widen h1 h2 (W.iret b.1 b.2.1 hr (fun t ht _ => ⟨rfl, by rw [ht]; exact hE.1, hE.2.F ht⟩) hE.2.2.2 hdg hlk)
theorem k_zret (b : Bd p s m c cc nL own D aC) (hlk : meth.locks = false) (hr : meth.sig.returnType = some .boolean) {v : Int32} (hv : isB v = true) (hE : CE E A s H locs) (h1 : cells ≤ mc) (h2 : slots ≤ ms) (hdg : decode cc pc = .ok (.ireturn, 1)) : W p l e R s m args below meth c H locs cells slots (MQ below (PQ E A (some (.int v))) args s mc ms A) (F0 m pc ls [.int v]) :=
  W.widen h1 h2 (W.zret b.1 b.2.1 hr (isB_nar hv).1 (fun t ht _ => ⟨rfl, by rw [ht]; exact hE.1, hE.2.F ht⟩) hE.2.2.2 hdg hlk)
theorem k_lret (b : Bd p s m c cc nL own D aC) (hlk : meth.locks = false) (hr : meth.sig.returnType = some .long) {v : Int64} (hE : CE E A s H locs) (h1 : cells ≤ mc) (h2 : slots ≤ ms) (hdg : decode cc pc = .ok (.lreturn, 1)) : W p l e R s m args below meth c H locs cells slots (MQ below (PQ E A (some (.long v))) args s mc ms A) (F0 m pc ls [.long v]) :=
  W.widen h1 h2 (W.lret b.1 b.2.1 hr (fun t ht _ => ⟨rfl, by rw [ht]; exact hE.1, hE.2.F ht⟩) hE.2.2.2 hdg hlk)
theorem k_vret (b : Bd p s m c cc nL own D aC) (hlk : meth.locks = false) (hr : meth.sig.returnType = none) (hE : CE E A s H locs) (h1 : cells ≤ mc) (h2 : slots ≤ ms) (hdg : decode cc pc = .ok (.return_, 1)) : W p l e R s m args below meth c H locs cells slots (MQ below (PQ E A none) args s mc ms A) (F0 m pc ls []) :=
  W.widen h1 h2 (W.vret b.1 b.2.1 hr (fun t ht _ => ⟨rfl, by rw [ht]; exact hE.1, hE.2.F ht⟩) hE.2.2.2 hdg hlk)
theorem k_aret (b : Bd p s m c cc nL own D aC) (hlk : meth.locks = false) {C : String} (hr : meth.sig.returnType = some (.object C)) {x : Option Nat} (hE : CE E A s H locs) (h1 : cells ≤ mc) (h2 : slots ≤ ms) (hdg : decode cc pc = .ok (.areturn, 1)) : W p l e R s m args below meth c H locs cells slots (MQ below (PQ E A (some (va_rf x))) args s mc ms A) (F0 m pc ls [va_rf x]) :=
  W.widen h1 h2 (W.aret b.1 b.2.1 hr (Or.inl ⟨C, rfl⟩) (rf_ref x) (fun t ht _ => ⟨rfl, by rw [ht]; exact hE.1, hE.2.F ht⟩) hE.2.2.2 hdg hlk)
/-- references that may be null -/
theorem k_aload_n (b : Bd p s m c cc nL own D aC) {k : Fin 4} {i : Nat} {x : Option Nat} (hdg : decode cc pc = .ok (.aload_n k, 1)) (hi : (k : Nat) = i) (hl : ls[i]? = some (.val (va_rf x))) (kk : W p l e R s m args below meth c H locs cells slots Q (F0 m (pc + 1) ls (va_rf x :: rest))) : W p l e R s m args below meth c H locs cells slots Q (F0 m pc ls rest) := by
  cases x with
  | none => exact lv_aload_nN b.1 b.2.1 hdg hi hl kk
  | some a => exact lv_aload_n b.1 b.2.1 hdg hi hl kk
theorem k_aload (b : Bd p s m c cc nL own D aC) {i : Nat} {x : Option Nat} (hdg : decode cc pc = .ok (.aload i, 2)) (hl : ls[i]? = some (.val (va_rf x))) (kk : W p l e R s m args below meth c H locs cells slots Q (F0 m (pc + 2) ls (va_rf x :: rest))) : W p l e R s m args below meth c H locs cells slots Q (F0 m pc ls rest) := by
  cases x with
  | none => exact lv_aloadN b.1 b.2.1 hdg hl kk
  | some a => exact lv_aload b.1 b.2.1 hdg hl kk
theorem k_ifnull (b : Bd p s m c cc nL own D aC) {off : Int} {tgt : Nat} {x : Option Nat} (hdg : decode cc pc = .ok (.ifnull off, 3)) (ht : (pc : Int) + off = (tgt : Int)) (kt : x = none → W p l e R s m args below meth c H locs cells slots Q (F0 m tgt ls rest)) (kf : ¬ x = none → W p l e R s m args below meth c H locs cells slots Q (F0 m (pc + 3) ls rest)) : W p l e R s m args below meth c H locs cells slots Q (F0 m pc ls (va_rf x :: rest)) := by
  cases x with
  | none => exact lv_ifnullN b.1 b.2.1 hdg ht (kt rfl)
  | some a => exact lv_ifnull b.1 b.2.1 hdg (kf (fun h => by cases h))
theorem k_ifnonnull (b : Bd p s m c cc nL own D aC) {off : Int} {tgt : Nat} {x : Option Nat} (hdg : decode cc pc = .ok (.ifnonnull off, 3)) (ht : (pc : Int) + off = (tgt : Int)) (kt : ¬ x = none → W p l e R s m args below meth c H locs cells slots Q (F0 m tgt ls rest)) (kf : x = none → W p l e R s m args below meth c H locs cells slots Q (F0 m (pc + 3) ls rest)) : W p l e R s m args below meth c H locs cells slots Q (F0 m pc ls (va_rf x :: rest)) := by
  cases x with
  | none => exact lv_ifnonnullN b.1 b.2.1 hdg (kf rfl)
  | some a => exact lv_ifnonnull b.1 b.2.1 hdg ht (kt (fun h => by cases h))
theorem k_astore_n (b : Bd p s m c cc nL own D aC) {k : Fin 4} {i nK : Nat} {x : Option Nat} {lv lv' : List (Nat × Value)} (hdg : decode cc pc = .ok (.astore_n k, 1)) (hi : (k : Nat) = i) (h : lv_has ls nK lv) (hn : i < nK) (hl : (i, va_rf x) :: lv.filter (fun q => !(q.1 == i) && !(q.1 + 1 == i && q.2.category == 2)) = lv') (kk : ∀ ls' : Array Slot, lv_has ls' nK lv' → W p l e R s m args below meth c H locs cells slots Q (F0 m (pc + 1) ls' rest)) : W p l e R s m args below meth c H locs cells slots Q (F0 m pc ls (va_rf x :: rest)) := by
  cases x with
  | none => exact lv_astore_nN b.1 b.2.1 hdg hi h hn hl kk
  | some a => exact lv_astore_n b.1 b.2.1 hdg hi h hn hl kk
theorem k_astore (b : Bd p s m c cc nL own D aC) {i nK : Nat} {x : Option Nat} {lv lv' : List (Nat × Value)} (hdg : decode cc pc = .ok (.astore i, 2)) (h : lv_has ls nK lv) (hn : i < nK) (hl : (i, va_rf x) :: lv.filter (fun q => !(q.1 == i) && !(q.1 + 1 == i && q.2.category == 2)) = lv') (kk : ∀ ls' : Array Slot, lv_has ls' nK lv' → W p l e R s m args below meth c H locs cells slots Q (F0 m (pc + 2) ls' rest)) : W p l e R s m args below meth c H locs cells slots Q (F0 m pc ls (va_rf x :: rest)) := by
  cases x with
  | none => exact lv_astoreN b.1 b.2.1 hdg h hn hl kk
  | some a => exact lv_astore b.1 b.2.1 hdg h hn hl kk
end CORE2
