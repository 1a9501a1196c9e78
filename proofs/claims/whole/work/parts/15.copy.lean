/-- the first n of array s over those of array d -/
def sY (h : PH) (d s n : Nat) : PH := (h.1, h.2.1, h.2.2.1, fun x i => if x = d ∧ i < n then hA h s i else hA h x i, h.2.2.2.2)
theorem wX_sY_n {h : PH} {ad : Nat → Nat} {d a n j : Nat} (hj : j ≠ d) : wX (sY h d a n) ad j = wX h ad j :=
  wX_eq rfl (fun c => rfl) rfl (fun k => by unfold av; split <;> first | rfl | exact funext fun q => congrArg Value.int (if_neg (fun z => hj z.1)))
theorem tg_sY {h h1 : PH} {d a n : Nat} (e : h1 = sY h d a n) {x t : Nat} (ht : hT h x = t) : hT h1 x = t := by rw [e]; exact ht
theorem cpI_nn {z : Int32} (hz : ¬ z < 0) : z.toInt = (z.toNatClampNeg : Int) := by
  have hz0 : (0 : Int) ≤ z.toInt := by
    have := Int32.not_lt.mp hz
    simpa using Int32.le_iff_toInt_le.mp this
  show z.toInt = ((z.toInt.toNat : Nat) : Int)
  omega
theorem acI : Cond.native arraycopyName ∈ tbl := (in2 103 rfl rfl)
theorem acS : Cond.static arraycopyName ∈ tbl := (in2 102 rfl rfl)
theorem acG : Cond.initialized "java/lang/System" ∈ tbl := (in1 14 rfl rfl)
theorem cp_fit {f : Nat → Int32} {n : Nat} (h : (List.range n).all (fun i => decide ((f i).toInt8.toInt32 = f i)) = true) : ∀ i, i < n → fits .byte (.int (f i)) = true := by
  intro i hi
  have h1 := of_decide_eq_true (List.all_eq_true.mp h i (List.mem_range.mpr hi))
  have h2 := fits_narrow_byte (f i)
  rw [narrow_byte, h1] at h2
  exact h2
section CPY
variable {p : Program} {l : Launch} {e : Env} {R : Room} {s : State} {m : MethodId} {args : Array Value} {below : List Frame} {meth : Method} {c : Code} {H : Heap} {locs : List Loc} {cells slots : Nat} {Q : State → Prop}
variable {cc : ByteArray} {pc nL : Nat} {ls : Array Slot} {rest : List Value} {D : va_G} {aC : Nat → ClassId} {ad : Nat → Nat} {own : String} {h h1 : PH}
theorem k_aretA {E : Heap → Prop} {A : Nat → Prop} {mc ms : Nat} (b : Bd p s m c cc nL own D aC) (hlk : meth.locks = false) {ty : FieldType} (hr : meth.sig.returnType = some (.array ty)) {x : Option Nat} (hE : CE E A s H locs) (h1 : cells ≤ mc) (h2 : slots ≤ ms) (hdg : decode cc pc = .ok (.areturn, 1)) : W p l e R s m args below meth c H locs cells slots (MQ below (PQ E A (some (va_rf x))) args s mc ms A) (F0 m pc ls [va_rf x]) :=
  W.widen h1 h2 (W.aret b.1 b.2.1 hr (Or.inr ⟨ty, rfl⟩) (rf_ref x) (fun t ht _ => ⟨rfl, by rw [ht]; exact hE.1, hE.2.F ht⟩) hE.2.2.2 hdg hlk)
theorem x_acopy0 (b : Bd p s m c cc nL own D aC) (hE : CE (EX D aC ad h) (Rg ad) s H locs) {a d index : Nat} {n : Int32} (hlk : Cond.methodLink own index arraycopyName ∈ tbl) (hta : hT h a = 100) (htd : hT h d = 100) (h3 : ¬ n < 0) (h4 : n.toNatClampNeg ≤ hN h a) (h5 : n.toNatClampNeg ≤ hN h d) (hfit : ∀ i, i < n.toNatClampNeg → fits .byte (.int (hA h a i)) = true) (hls : ls.size = nL) (hR : 1 ≤ R.frames ∧ 60 ≤ R.locals) (hst : rest.length ≤ 4) (e1 : h1 = sY h d a n.toNatClampNeg) (hdg : decode cc pc = .ok (.invokestatic index, 3))
    (kk : ∀ (H1 : Heap) (locs1 : List Loc), CE (EX D aC ad h1) (Rg ad) s H1 locs1 → W p l e R s m args below meth c H1 locs1 cells slots Q (F0 m (pc + 3) ls rest)) : W p l e R s m args below meth c H locs cells slots Q (F0 m pc ls (.int n :: .int 0 :: .ref (ad d) :: .int 0 :: .ref (ad a) :: rest)) := by
  obtain ⟨hx, hb, hml, hown, hSK⟩ := id b
  have hT := hSK.1
  have hroom := k_room rest hst
  have hc0 : H[ad a]? = some (vp_cell (aC 0) (hN h a, .inl (hA h a))) := hE.1.1.2.1 a _ _ _ (wX_a (k := 0) hta)
  have hc1 : H[ad d]? = some (vp_cell (aC 0) (hN h d, .inl (hA h d))) := hE.1.1.2.1 d _ _ _ (wX_a (k := 0) htd)
  obtain ⟨-, k0, hk0, cm0, hkk0⟩ := (hSK.2.1.2 0 _ (atys_at aC 0 (by decide))).1 (hN h a) (fun j => .int (hA h a j))
  intro T hTT X
  obtain ⟨vm', X', step⟩ := X.arraycopy hx hown (hT _ hlk args) (hT _ acI args) (hT _ acS args) (hT _ acG args) (src := ad a) (dst := ad d) (cs := vp_cell (aC 0) (hN h a, .inl (hA h a))) (cd := vp_cell (aC 0) (hN h d, .inl (hA h d))) (srcPos := 0) (destPos := 0) (n := n) (by rw [hTT]; exact hc0) (by rw [hTT]; exact hc1)
    (fun _ h => by cases h) (fun _ h => by cases h) (fun h => by cases h) (fun h => by cases h) hk0 hk0 hkk0 hkk0 (by show (refKind (aty 0) != refKind (aty 0) || !refKind (aty 0) && aty 0 != aty 0) = false; decide) (by decide) (by decide) h3
    (by rw [cpI_nn h3]; show ¬ (0 : Int32).toInt + _ > ((arrV (aC 0) (hN h a) (fun j => .int (hA h a j))).slots.size : Int); rw [arrV_size, show (0 : Int32).toInt = 0 from rfl]; omega)
    (by rw [cpI_nn h3]; show ¬ (0 : Int32).toInt + _ > ((arrV (aC 0) (hN h d) (fun j => .int (hA h d j))).slots.size : Int); rw [arrV_size, show (0 : Int32).toInt = 0 from rfl]; omega)
    (fun vm₁ _ i hi => by
      have e : (vp_cell (aC 0) (hN h a, .inl (hA h a))).slots.getD ((0 : Int32).toNatClampNeg + i) .null = .int (hA h a i) := by
        show (arrV (aC 0) (hN h a) (fun j => .int (hA h a j))).slots.getD _ _ = _
        rw [show (0 : Int32).toNatClampNeg = 0 from rfl, Nat.zero_add, Array.getD_eq_getD_getElem?, arrV_read _ _ (by omega)]
        rfl
      refine ⟨?_, ?_⟩
      · rw [e]
        exact hfit i hi
      · rw [e]
        exact trivial)
    (g := F0 m pc ls (.int n :: .int 0 :: .ref (ad d) :: .int 0 :: .ref (ad a) :: rest)) rfl (hls.trans hml.symm) (rest := rest) rfl (by rw [hb]; exact hdg) hR.1 (by
      have h9 : nativeFrameWords "java/lang/System" "arraycopy" 5 + 11 ≤ 52 := by decide
      show 2 * 0 + _ + _ ≤ _
      omega)
  have e1' : copied (vp_cell (aC 0) (hN h a, .inl (hA h a))) (vp_cell (aC 0) (hN h d, .inl (hA h d))) 0 0 n = vp_cell (aC 0) (hN h d, .inl (va_cpy (hA h a) (hA h d) (0 : Int32).toNatClampNeg (0 : Int32).toNatClampNeg n.toNatClampNeg)) := va_copied (fun z => .int z) (aC 0) (aC 0) (hA h a) (hA h d) (by rw [show (0 : Int32).toNatClampNeg = 0 from rfl]; omega)
  have e2 : va_cpy (hA h a) (hA h d) (0 : Int32).toNatClampNeg (0 : Int32).toNatClampNeg n.toNatClampNeg = hA (sY h d a n.toNatClampNeg) d := by
    funext q
    show (if _ ∧ _ then _ else _) = (if _ ∧ _ then _ else _)
    rw [show (0 : Int32).toNatClampNeg = 0 from rfl]
    by_cases hq : q < n.toNatClampNeg
    · rw [if_pos ⟨Nat.zero_le _, by omega⟩, if_pos ⟨rfl, hq⟩]
      congr 1
      omega
    · rw [if_neg (fun z => hq (by omega)), if_neg (fun z => hq z.2)]
  rw [e2] at e1'
  rw [e1'] at X' step
  generalize hV : vp_cell (aC 0) (hN h d, .inl (hA (sY h d a n.toNatClampNeg) d)) = V at X' step
  have hl : ad d < H.size := (Array.getElem?_eq_some_iff.mp hc1).1
  have hheap : ((T.setVm vm').setCell (ad d) V).heap = H.setIfInBounds (ad d) V := by rw [← hTT]; rfl
  have oq : ∀ q : Nat, q ≠ ad d → (H.setIfInBounds (ad d) V)[q]? = H[q]? := fun q hq => by simp [Array.getElem?_setIfInBounds, Ne.symm hq]
  have ee : (H.setIfInBounds (ad d) V)[ad d]? = some V := by simp [Array.getElem?_setIfInBounds, hl]
  subst e1
  obtain ⟨t, a1, b1⟩ := kk _ _ ⟨⟨hE.1.1.set (wX_a (k := 0) htd) (w' := wX (sY h d a n.toNatClampNeg) ad) (fun c2 V2 h2 => by rw [wX_a (h := sY h d a n.toNatClampNeg) (k := 0) htd] at h2; cases h2) (fun k2 n2 V2 h2 => by
      rw [wX_a (h := sY h d a n.toNatClampNeg) (k := 0) htd] at h2
      cases h2
      rw [ee, ← hV]
      rfl) (fun j hj => wX_sY_n hj) oq, by simp; exact hE.1.2.1, hE.1.2.2⟩, by simp; exact hE.2.1, fun q g1 g2 => by
      rw [oq q (fun e => g2 ⟨d, e⟩)]
      exact hE.2.2.1 q g1 g2, fun q hq => by
      rcases List.mem_append.mp hq with h | h
      · exact hE.2.2.2 q h
      · obtain ⟨z, -, hz⟩ := List.mem_map.mp h
        rw [← hz]
        exact ⟨d, rfl⟩⟩ _ hheap X'
  exact ⟨t, step t a1, b1⟩
theorem x_acopy1 (b : Bd p s m c cc nL own D aC) (hE : CE (EX D aC ad h) (Rg ad) s H locs) {a d index : Nat} {n : Int32} (hlk : Cond.methodLink own index arraycopyName ∈ tbl) (hta : hT h a = 101) (htd : hT h d = 101) (h3 : ¬ n < 0) (h4 : n.toNatClampNeg ≤ hN h a) (h5 : n.toNatClampNeg ≤ hN h d) (hfit : ∀ i, i < n.toNatClampNeg → fits .int (.int (hA h a i)) = true) (hls : ls.size = nL) (hR : 1 ≤ R.frames ∧ 60 ≤ R.locals) (hst : rest.length ≤ 4) (e1 : h1 = sY h d a n.toNatClampNeg) (hdg : decode cc pc = .ok (.invokestatic index, 3))
    (kk : ∀ (H1 : Heap) (locs1 : List Loc), CE (EX D aC ad h1) (Rg ad) s H1 locs1 → W p l e R s m args below meth c H1 locs1 cells slots Q (F0 m (pc + 3) ls rest)) : W p l e R s m args below meth c H locs cells slots Q (F0 m pc ls (.int n :: .int 0 :: .ref (ad d) :: .int 0 :: .ref (ad a) :: rest)) := by
  obtain ⟨hx, hb, hml, hown, hSK⟩ := id b
  have hT := hSK.1
  have hroom := k_room rest hst
  have hc0 : H[ad a]? = some (vp_cell (aC 1) (hN h a, .inl (hA h a))) := hE.1.1.2.1 a _ _ _ (wX_a (k := 1) hta)
  have hc1 : H[ad d]? = some (vp_cell (aC 1) (hN h d, .inl (hA h d))) := hE.1.1.2.1 d _ _ _ (wX_a (k := 1) htd)
  obtain ⟨-, k0, hk0, cm0, hkk0⟩ := (hSK.2.1.2 1 _ (atys_at aC 1 (by decide))).1 (hN h a) (fun j => .int (hA h a j))
  intro T hTT X
  obtain ⟨vm', X', step⟩ := X.arraycopy hx hown (hT _ hlk args) (hT _ acI args) (hT _ acS args) (hT _ acG args) (src := ad a) (dst := ad d) (cs := vp_cell (aC 1) (hN h a, .inl (hA h a))) (cd := vp_cell (aC 1) (hN h d, .inl (hA h d))) (srcPos := 0) (destPos := 0) (n := n) (by rw [hTT]; exact hc0) (by rw [hTT]; exact hc1)
    (fun _ h => by cases h) (fun _ h => by cases h) (fun h => by cases h) (fun h => by cases h) hk0 hk0 hkk0 hkk0 (by show (refKind (aty 1) != refKind (aty 1) || !refKind (aty 1) && aty 1 != aty 1) = false; decide) (by decide) (by decide) h3
    (by rw [cpI_nn h3]; show ¬ (0 : Int32).toInt + _ > ((arrV (aC 1) (hN h a) (fun j => .int (hA h a j))).slots.size : Int); rw [arrV_size, show (0 : Int32).toInt = 0 from rfl]; omega)
    (by rw [cpI_nn h3]; show ¬ (0 : Int32).toInt + _ > ((arrV (aC 1) (hN h d) (fun j => .int (hA h d j))).slots.size : Int); rw [arrV_size, show (0 : Int32).toInt = 0 from rfl]; omega)
    (fun vm₁ _ i hi => by
      have e : (vp_cell (aC 1) (hN h a, .inl (hA h a))).slots.getD ((0 : Int32).toNatClampNeg + i) .null = .int (hA h a i) := by
        show (arrV (aC 1) (hN h a) (fun j => .int (hA h a j))).slots.getD _ _ = _
        rw [show (0 : Int32).toNatClampNeg = 0 from rfl, Nat.zero_add, Array.getD_eq_getD_getElem?, arrV_read _ _ (by omega)]
        rfl
      refine ⟨?_, ?_⟩
      · rw [e]
        exact hfit i hi
      · rw [e]
        exact trivial)
    (g := F0 m pc ls (.int n :: .int 0 :: .ref (ad d) :: .int 0 :: .ref (ad a) :: rest)) rfl (hls.trans hml.symm) (rest := rest) rfl (by rw [hb]; exact hdg) hR.1 (by
      have h9 : nativeFrameWords "java/lang/System" "arraycopy" 5 + 11 ≤ 52 := by decide
      show 2 * 0 + _ + _ ≤ _
      omega)
  have e1' : copied (vp_cell (aC 1) (hN h a, .inl (hA h a))) (vp_cell (aC 1) (hN h d, .inl (hA h d))) 0 0 n = vp_cell (aC 1) (hN h d, .inl (va_cpy (hA h a) (hA h d) (0 : Int32).toNatClampNeg (0 : Int32).toNatClampNeg n.toNatClampNeg)) := va_copied (fun z => .int z) (aC 1) (aC 1) (hA h a) (hA h d) (by rw [show (0 : Int32).toNatClampNeg = 0 from rfl]; omega)
  have e2 : va_cpy (hA h a) (hA h d) (0 : Int32).toNatClampNeg (0 : Int32).toNatClampNeg n.toNatClampNeg = hA (sY h d a n.toNatClampNeg) d := by
    funext q
    show (if _ ∧ _ then _ else _) = (if _ ∧ _ then _ else _)
    rw [show (0 : Int32).toNatClampNeg = 0 from rfl]
    by_cases hq : q < n.toNatClampNeg
    · rw [if_pos ⟨Nat.zero_le _, by omega⟩, if_pos ⟨rfl, hq⟩]
      congr 1
      omega
    · rw [if_neg (fun z => hq (by omega)), if_neg (fun z => hq z.2)]
  rw [e2] at e1'
  rw [e1'] at X' step
  generalize hV : vp_cell (aC 1) (hN h d, .inl (hA (sY h d a n.toNatClampNeg) d)) = V at X' step
  have hl : ad d < H.size := (Array.getElem?_eq_some_iff.mp hc1).1
  have hheap : ((T.setVm vm').setCell (ad d) V).heap = H.setIfInBounds (ad d) V := by rw [← hTT]; rfl
  have oq : ∀ q : Nat, q ≠ ad d → (H.setIfInBounds (ad d) V)[q]? = H[q]? := fun q hq => by simp [Array.getElem?_setIfInBounds, Ne.symm hq]
  have ee : (H.setIfInBounds (ad d) V)[ad d]? = some V := by simp [Array.getElem?_setIfInBounds, hl]
  subst e1
  obtain ⟨t, a1, b1⟩ := kk _ _ ⟨⟨hE.1.1.set (wX_a (k := 1) htd) (w' := wX (sY h d a n.toNatClampNeg) ad) (fun c2 V2 h2 => by rw [wX_a (h := sY h d a n.toNatClampNeg) (k := 1) htd] at h2; cases h2) (fun k2 n2 V2 h2 => by
      rw [wX_a (h := sY h d a n.toNatClampNeg) (k := 1) htd] at h2
      cases h2
      rw [ee, ← hV]
      rfl) (fun j hj => wX_sY_n hj) oq, by simp; exact hE.1.2.1, hE.1.2.2⟩, by simp; exact hE.2.1, fun q g1 g2 => by
      rw [oq q (fun e => g2 ⟨d, e⟩)]
      exact hE.2.2.1 q g1 g2, fun q hq => by
      rcases List.mem_append.mp hq with h | h
      · exact hE.2.2.2 q h
      · obtain ⟨z, -, hz⟩ := List.mem_map.mp h
        rw [← hz]
        exact ⟨d, rfl⟩⟩ _ hheap X'
  exact ⟨t, step t a1, b1⟩
end CPY
