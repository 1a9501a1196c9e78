/-! a world by numbers: number i stands at ad i; an object (class, fields) or an array (kind, length, elements) -/
abbrev GW : Type := Nat → Option ((Nat × (Nat → Value)) ⊕ (Nat × Nat × (Nat → Value)))
def GR (D : va_G) (aC : Nat → ClassId) (ad : Nat → Nat) (w : GW) (H : Heap) : Prop :=
  (∀ i c V, w i = some (.inl (c, V)) → ∃ r, classes[c]? = some r ∧ t_OB (ad i) (D.1 c) r.2.2 (D.2 c) H V) ∧
  (∀ i k n V, w i = some (.inr (k, n, V)) → H[ad i]? = some (arrV (aC k) n V)) ∧
  (∀ i j x y, w i = some x → w j = some y → ad i = ad j → i = j)
def Rg (ad : Nat → Nat) : Nat → Prop := fun q => ∃ i, q = ad i
theorem GR.lt {D : va_G} {aC : Nat → ClassId} {ad : Nat → Nat} {w : GW} {H : Heap} (h : GR D aC ad w H) {i : Nat} {x} (hi : w i = some x) : ad i < H.size := by
  rcases x with ⟨c, V⟩ | ⟨k, n, V⟩
  · obtain ⟨r, -, cell, h2, -⟩ := h.1 i c V hi
    exact (Array.getElem?_eq_some_iff.mp h2).1
  · exact (Array.getElem?_eq_some_iff.mp (h.2.1 i k n V hi)).1
theorem GR.keep {D : va_G} {aC : Nat → ClassId} {ad : Nat → Nat} {w : GW} {H H1 : Heap} (h : GR D aC ad w H) (hq : ∀ i x, w i = some x → H1[ad i]? = H[ad i]?) : GR D aC ad w H1 := by
  refine ⟨fun i c V hi => ?_, fun i k n V hi => ?_, h.2.2⟩
  · obtain ⟨r, h1, h2⟩ := h.1 i c V hi
    exact ⟨r, h1, h2.kept (hq i _ hi)⟩
  · exact (hq i _ hi).trans (h.2.1 i k n V hi)
theorem GR.set {D : va_G} {aC : Nat → ClassId} {ad : Nat → Nat} {w w' : GW} {H H1 : Heap} {i : Nat} {x0} (h : GR D aC ad w H) (h0 : w i = some x0)
    (hO : ∀ c V, w' i = some (.inl (c, V)) → ∃ r, classes[c]? = some r ∧ t_OB (ad i) (D.1 c) r.2.2 (D.2 c) H1 V)
    (hA : ∀ k n V, w' i = some (.inr (k, n, V)) → H1[ad i]? = some (arrV (aC k) n V))
    (hw : ∀ j, j ≠ i → w' j = w j) (oq : ∀ q : Nat, q ≠ ad i → H1[q]? = H[q]?) : GR D aC ad w' H1 := by
  have ne : ∀ j x, j ≠ i → w j = some x → ad j ≠ ad i := fun j x hj hx he => hj (h.2.2 j i x x0 hx h0 he)
  have back : ∀ j x, w' j = some x → ∃ y, w j = some y := by
    intro j x hx
    by_cases hj : j = i
    · subst hj; exact ⟨x0, h0⟩
    · exact ⟨x, by rw [← hw j hj]; exact hx⟩
  refine ⟨fun j c V hj => ?_, fun j k n V hj => ?_, fun a b x y ha hb he => ?_⟩
  · by_cases hji : j = i
    · subst hji; exact hO c V hj
    · rw [hw j hji] at hj
      obtain ⟨r, h1, h2⟩ := h.1 j c V hj
      exact ⟨r, h1, h2.kept (oq _ (ne j _ hji hj))⟩
  · by_cases hji : j = i
    · subst hji; exact hA k n V hj
    · rw [hw j hji] at hj
      exact (oq _ (ne j _ hji hj)).trans (h.2.1 j k n V hj)
  · obtain ⟨x1, h1⟩ := back a x ha
    obtain ⟨y1, h2⟩ := back b y hb
    exact h.2.2 a b x1 y1 h1 h2 he
theorem GR.push {D : va_G} {aC : Nat → ClassId} {ad : Nat → Nat} {w w' : GW} {H H1 : Heap} {i : Nat} (h : GR D aC ad w H) (hi : ad i = H.size)
    (hO : ∀ c V, w' i = some (.inl (c, V)) → ∃ r, classes[c]? = some r ∧ t_OB (ad i) (D.1 c) r.2.2 (D.2 c) H1 V)
    (hA : ∀ k n V, w' i = some (.inr (k, n, V)) → H1[ad i]? = some (arrV (aC k) n V))
    (hw : ∀ j, j ≠ i → w' j = w j) (oq : ∀ q : Nat, q < H.size → H1[q]? = H[q]?) : GR D aC ad w' H1 := by
  refine ⟨fun j c V hj => ?_, fun j k n V hj => ?_, fun a b x y ha hb he => ?_⟩
  · by_cases hji : j = i
    · subst hji; exact hO c V hj
    · rw [hw j hji] at hj
      obtain ⟨r, h1, h2⟩ := h.1 j c V hj
      exact ⟨r, h1, h2.kept (oq _ (h.lt hj))⟩
  · by_cases hji : j = i
    · subst hji; exact hA k n V hj
    · rw [hw j hji] at hj
      exact (oq _ (h.lt hj)).trans (h.2.1 j k n V hj)
  · by_cases ha' : a = i
    · by_cases hb' : b = i
      · rw [ha', hb']
      · rw [hw b hb'] at hb
        have := h.lt hb
        rw [← he, ha', hi] at this
        omega
    · rw [hw a ha'] at ha
      by_cases hb' : b = i
      · have := h.lt ha
        rw [he, hb', hi] at this
        omega
      · rw [hw b hb'] at hb
        exact h.2.2 a b x y ha hb he
theorem S_put {A : Nat → Prop} {H0 H H1 : Heap} {locs : List Loc} {a k : Nat} (h : va_S A H0 H locs) (z : H1.size = H.size) (oq : ∀ q : Nat, q ≠ a → H1[q]? = H[q]?) (ha : A a) : va_S A H0 H1 (locs ++ [⟨a, k⟩]) := by
  refine ⟨by rw [z]; exact h.1, fun q h1 h2 => ?_, fun q hq => ?_⟩
  · rw [oq q (fun e => h2 (e ▸ ha))]; exact h.2.1 q h1 h2
  · rcases List.mem_append.mp hq with h3 | h3
    · exact h.2.2 q h3
    · rw [List.mem_singleton.mp h3]; exact ha
/-- what a body stands on -/
def Bd (p : Program) (s : State) (m : MethodId) (c : Code) (cc : ByteArray) (nL : Nat) (own : String) (D : va_G) (aC : Nat → ClassId) : Prop :=
  p.tables.exec = Jvm.exec ∧ c.code = cc ∧ c.maxLocals = nL ∧ s.vm.findClass own = some m.cls ∧ SK D aC s
section CORE
variable {p : Program} {l : Launch} {e : Env} {R : Room} {s : State} {m : MethodId} {args : Array Value} {below : List Frame} {meth : Method} {c : Code} {H : Heap} {locs : List Loc} {cells slots : Nat} {Q : State → Prop}
variable {cc : ByteArray} {pc nL : Nat} {ls : Array Slot} {rest : List Value} {D : va_G} {aC : Nat → ClassId} {ad : Nat → Nat} {own : String} {w : GW} {H0 : Heap}
theorem k_get (b : Bd p s m c cc nL own D aC) (hG : GR D aC ad w H) {C : String} {T : u_T} {N ci index : Nat} (hin : ∀ x ∈ u_ws C T N, x ∈ tbl) (hc : classes[ci]? = some (C, T, N)) (k : Nat) (hk : k < N) (hl : Cond.fieldLink own index (T k).1 (T k).2.1 (T k).2.2.1 ∈ tbl)
    {a : Nat} {V : Nat → Value} (ha : w a = some (.inl (ci, V))) (hdg : decode cc pc = .ok (.getfield index, 3))
    (kk : W p l e R s m args below meth c H locs cells slots Q (F0 m (pc + 3) ls (V k :: rest))) : W p l e R s m args below meth c H locs cells slots Q (F0 m pc ls (.ref (ad a) :: rest)) := by
  obtain ⟨hx, hb, -, hown, hT, hK, -⟩ := b
  obtain ⟨r, h1, cell, q1, q2, q3, q4⟩ := hG.1 a _ _ ha
  have hr : r = (C, T, N) := Option.some.inj (h1.symm.trans hc)
  subst hr
  obtain ⟨hS, hfc, kC, hkC, hkind⟩ := hK.1 ci _ hc
  obtain ⟨cf, kf, fi, f, hi, hsl⟩ := hS k hk
  exact W.getf hx hb hown (hT _ hl args) hi (u_facts hfc hkC (u_lays (hT.ts args) hin hk) hi).1 q1 (by rw [q3]; exact fun h => by cases h) (v := V k) (by rw [hsl]; exact q4 k hk) rfl rfl hdg kk
theorem k_getN (b : Bd p s m c cc nL own D aC) (hG : GR D aC ad w H) {C host : String} {T : u_T} {N ci index : Nat} (hin : ∀ x ∈ u_ws C T N, x ∈ tbl) (hc : classes[ci]? = some (C, T, N)) (k : Nat) (hk : k < N) (hl : Cond.fieldLinkNest own index (T k).1 (T k).2.1 (T k).2.2.1 host ∈ tbl)
    {a : Nat} {V : Nat → Value} (ha : w a = some (.inl (ci, V))) (hdg : decode cc pc = .ok (.getfield index, 3))
    (kk : W p l e R s m args below meth c H locs cells slots Q (F0 m (pc + 3) ls (V k :: rest))) : W p l e R s m args below meth c H locs cells slots Q (F0 m pc ls (.ref (ad a) :: rest)) := by
  obtain ⟨hx, hb, -, hown, hT, hK, -⟩ := b
  obtain ⟨r, h1, cell, q1, q2, q3, q4⟩ := hG.1 a _ _ ha
  have hr : r = (C, T, N) := Option.some.inj (h1.symm.trans hc)
  subst hr
  obtain ⟨hS, hfc, kC, hkC, hkind⟩ := hK.1 ci _ hc
  obtain ⟨cf, kf, fi, f, hi, hsl⟩ := hS k hk
  exact va_Wgetf hx hb hown (hT _ hl args) hi (u_facts hfc hkC (u_lays (hT.ts args) hin hk) hi).1 q1 (by rw [q3]; exact fun h => by cases h) (v := V k) (by rw [hsl]; exact q4 k hk) rfl rfl hdg kk
theorem k_apart (hT : TB s) (hK : va_K D classes (atys aC) s) {C : String} {T : u_T} {N ci : Nat} (hin : ∀ x ∈ u_ws C T N, x ∈ tbl) (hc : classes[ci]? = some (C, T, N)) (ty0 : Nat → FieldType) (hty : ∀ k, k < N → parseFieldDescriptor (T k).2.2.1 = some (ty0 k)) (hnm : ∀ a, a < N → ∀ b, b < N → a ≠ b → (T a).2.1 ≠ (T b).2.1) : ∀ x y, x < N → y < N → x ≠ y → (D.2 ci) x ≠ (D.2 ci) y :=
  va_apart (own := "") (hT.ts #[]) hin ty0 hty hnm hK hc
/-- a field is written -/
theorem k_put (b : Bd p s m c cc nL own D aC) (hG : GR D aC ad w H) (hS0 : va_S (Rg ad) H0 H locs) {C : String} {T : u_T} {N ci index : Nat} (hin : ∀ x ∈ u_ws C T N, x ∈ tbl) (hc : classes[ci]? = some (C, T, N)) (ty0 : Nat → FieldType) (hty : ∀ k, k < N → parseFieldDescriptor (T k).2.2.1 = some (ty0 k)) (hnm : ∀ a, a < N → ∀ b, b < N → a ≠ b → (T a).2.1 ≠ (T b).2.1)
    (k : Nat) (hk : k < N) (hl : Cond.fieldLink own index (T k).1 (T k).2.1 (T k).2.2.1 ∈ tbl) (hfin : (T k).2.2.2 = false)
    {a : Nat} {V : Nat → Value} (ha : w a = some (.inl (ci, V))) {v : Value} (hn : narrow (ty0 k) v = v) (hfit : fits (ty0 k) v = true) {w' : GW} (hw : ∀ j, j ≠ a → w' j = w j) (hwa : w' a = some (.inl (ci, updV V k v))) (hdg : decode cc pc = .ok (.putfield index, 3))
    (kk : ∀ (H1 : Heap) (locs1 : List Loc), GR D aC ad w' H1 → va_S (Rg ad) H0 H1 locs1 → H1.size = H.size → W p l e R s m args below meth c H1 locs1 cells slots Q (F0 m (pc + 3) ls rest)) : W p l e R s m args below meth c H locs cells slots Q (F0 m pc ls (v :: .ref (ad a) :: rest)) := by
  obtain ⟨hx, hb, -, hown, hT, hK, -⟩ := b
  have hap := k_apart hT hK hin hc ty0 hty hnm
  obtain ⟨r, h1, cell, q1, q2, q3, q4⟩ := hG.1 a _ _ ha
  have hr : r = (C, T, N) := Option.some.inj (h1.symm.trans hc)
  subst hr
  obtain ⟨hS, hfc, kC, hkC, hkind⟩ := hK.1 ci _ hc
  obtain ⟨cf, kf, fi, f, hi, hsl⟩ := hS k hk
  have hlay := hT _ (hin _ (u_in_lay hk)) args
  unfold u_lay at hlay
  rw [if_neg (by rw [hfin]; decide)] at hlay
  have hst := (u_facts hfc hkC (u_lays (hT.ts args) hin hk) hi).1
  have h6 := u_store hfc hkC hkind hlay hi (hty k hk) hn hfit
  refine W.putK hx hb (f := f) ⟨hown, hT _ hl args, ⟨_, _, _, hi⟩, hst⟩ (by rw [q2]; exact h6) q1 q3 (by rw [hsl]; exact k2_hasslot (q4 k hk)) rfl rfl hdg fun H' e1 e2 e3 => ?_
  rw [hsl] at e1 ⊢
  refine kk H' _ (hG.set ha (fun c2 V2 h2 => ?_) (fun k2 n2 V2 h2 => ?_) hw e3) (S_put hS0 e2 e3 ⟨a, rfl⟩) e2
  · rw [hwa] at h2; cases h2
    exact ⟨_, hc, _, e1, q2, q3, t_set q4 hap hk v⟩
  · rw [hwa] at h2; cases h2
theorem k_putN (b : Bd p s m c cc nL own D aC) (hG : GR D aC ad w H) (hS0 : va_S (Rg ad) H0 H locs) {C host : String} {T : u_T} {N ci index : Nat} (hin : ∀ x ∈ u_ws C T N, x ∈ tbl) (hc : classes[ci]? = some (C, T, N)) (ty0 : Nat → FieldType) (hty : ∀ k, k < N → parseFieldDescriptor (T k).2.2.1 = some (ty0 k)) (hnm : ∀ a, a < N → ∀ b, b < N → a ≠ b → (T a).2.1 ≠ (T b).2.1)
    (k : Nat) (hk : k < N) (hl : Cond.fieldLinkNest own index (T k).1 (T k).2.1 (T k).2.2.1 host ∈ tbl) (hfin : (T k).2.2.2 = false)
    {a : Nat} {V : Nat → Value} (ha : w a = some (.inl (ci, V))) {v : Value} (hn : narrow (ty0 k) v = v) (hfit : fits (ty0 k) v = true) {w' : GW} (hw : ∀ j, j ≠ a → w' j = w j) (hwa : w' a = some (.inl (ci, updV V k v))) (hdg : decode cc pc = .ok (.putfield index, 3))
    (kk : ∀ (H1 : Heap) (locs1 : List Loc), GR D aC ad w' H1 → va_S (Rg ad) H0 H1 locs1 → H1.size = H.size → W p l e R s m args below meth c H1 locs1 cells slots Q (F0 m (pc + 3) ls rest)) : W p l e R s m args below meth c H locs cells slots Q (F0 m pc ls (v :: .ref (ad a) :: rest)) := by
  obtain ⟨hx, hb, -, hown, hT, hK, -⟩ := b
  have hap := k_apart hT hK hin hc ty0 hty hnm
  obtain ⟨r, h1, cell, q1, q2, q3, q4⟩ := hG.1 a _ _ ha
  have hr : r = (C, T, N) := Option.some.inj (h1.symm.trans hc)
  subst hr
  obtain ⟨hS, hfc, kC, hkC, hkind⟩ := hK.1 ci _ hc
  obtain ⟨cf, kf, fi, f, hi, hsl⟩ := hS k hk
  have hlay := hT _ (hin _ (u_in_lay hk)) args
  unfold u_lay at hlay
  rw [if_neg (by rw [hfin]; decide)] at hlay
  have hst := (u_facts hfc hkC (u_lays (hT.ts args) hin hk) hi).1
  have h6 := u_store hfc hkC hkind hlay hi (hty k hk) hn hfit
  refine va_WputK hx hb (f := f) hown (hT _ hl args) hi hst (by rw [q2]; exact h6) q1 q3 (by rw [hsl]; exact k2_hasslot (q4 k hk)) rfl rfl hdg fun H' e1 e2 e3 => ?_
  rw [hsl] at e1 ⊢
  refine kk H' _ (hG.set ha (fun c2 V2 h2 => ?_) (fun k2 n2 V2 h2 => ?_) hw e3) (S_put hS0 e2 e3 ⟨a, rfl⟩) e2
  · rw [hwa] at h2; cases h2
    exact ⟨_, hc, _, e1, q2, q3, t_set q4 hap hk v⟩
  · rw [hwa] at h2; cases h2
/-- a final field, in a constructor -/
theorem k_putF (b : Bd p s m c cc nL own D aC) (hin2 : meth.name = "<init>") (hG : GR D aC ad w H) (hS0 : va_S (Rg ad) H0 H locs) {C : String} {T : u_T} {N ci index : Nat} (hin : ∀ x ∈ u_ws C T N, x ∈ tbl) (hc : classes[ci]? = some (C, T, N)) (ty0 : Nat → FieldType) (hty : ∀ k, k < N → parseFieldDescriptor (T k).2.2.1 = some (ty0 k)) (hnm : ∀ a, a < N → ∀ b, b < N → a ≠ b → (T a).2.1 ≠ (T b).2.1)
    (k : Nat) (hk : k < N) (hl : Cond.fieldLink own index (T k).1 (T k).2.1 (T k).2.2.1 ∈ tbl) (hfin : (T k).2.2.2 = true) (hdecl : (T k).1 = own)
    {a : Nat} {V : Nat → Value} (ha : w a = some (.inl (ci, V))) {v : Value} (hn : narrow (ty0 k) v = v) (hfit : fits (ty0 k) v = true) {w' : GW} (hw : ∀ j, j ≠ a → w' j = w j) (hwa : w' a = some (.inl (ci, updV V k v))) (hdg : decode cc pc = .ok (.putfield index, 3))
    (kk : ∀ (H1 : Heap) (locs1 : List Loc), GR D aC ad w' H1 → va_S (Rg ad) H0 H1 locs1 → H1.size = H.size → W p l e R s m args below meth c H1 locs1 cells slots Q (F0 m (pc + 3) ls rest)) : W p l e R s m args below meth c H locs cells slots Q (F0 m pc ls (v :: .ref (ad a) :: rest)) := by
  obtain ⟨hx, hb, -, hown, hT, hK, -⟩ := b
  have hap := k_apart hT hK hin hc ty0 hty hnm
  obtain ⟨r, h1, cell, q1, q2, q3, q4⟩ := hG.1 a _ _ ha
  have hr : r = (C, T, N) := Option.some.inj (h1.symm.trans hc)
  subst hr
  obtain ⟨hS, hfc, kC, hkC, hkind⟩ := hK.1 ci _ hc
  obtain ⟨cf, kf, fi, f, hi, hsl⟩ := hS k hk
  have hst := (u_facts hfc hkC (u_lays (hT.ts args) hin hk) hi).1
  have h6 := u_fits hfc hkC hkind (u_lays (hT.ts args) hin hk) hi (hty k hk) hn hfit
  have hlay := hT _ (hin _ (u_in_lay hk)) args
  unfold u_lay at hlay
  rw [if_pos hfin] at hlay
  have hcf : m.cls = cf := by
    obtain ⟨_, _, c', _, _, _, -, -, hf', -, -, -, hown2, -⟩ := Cond.laysFinal_spec hlay
    have e1 : c' = cf := by have := hi.symm.trans hf'; simp at this; exact this.1.symm
    rw [hdecl] at hown2
    rw [← e1]; exact Option.some.inj (hown.symm.trans hown2)
  refine W.putFinK hx hb hown (hT _ hl args) hi hst hcf hin2 (by rw [q2]; exact h6) q1 q3 (by rw [hsl]; exact k2_hasslot (q4 k hk)) rfl rfl hdg fun H' e1 e2 e3 => ?_
  rw [hsl] at e1 ⊢
  refine kk H' _ (hG.set ha (fun c2 V2 h2 => ?_) (fun k2 n2 V2 h2 => ?_) hw e3) (S_put hS0 e2 e3 ⟨a, rfl⟩) e2
  · rw [hwa] at h2; cases h2
    exact ⟨_, hc, _, e1, q2, q3, t_set q4 hap hk v⟩
  · rw [hwa] at h2; cases h2
end CORE
