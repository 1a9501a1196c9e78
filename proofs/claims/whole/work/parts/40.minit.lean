def mcnt (k : Nat) : Nat := ((List.range k).filter (fun j => mk j == 2)).length
def mz : MS := (fun _ => 0, fun _ => 0, fun _ _ => 0, fun _ _ => 0)
def MZ (u : MS) : Prop := (∀ k, mA u k = fun _ => 0) ∧ ∀ k, mB u k = fun _ => 0
def mfc (u : MS) (ad : Nat → Nat) (f : Nat) : Nat → Value := fun k => if mk k = 2 then (if k < f then .ref (ad k) else .null) else mfv u ad k
/-- the reference while it is made: the fields ahead of f are written, the arrays of the fields ahead of a are there -/
def wMc (u : MS) (ad : Nat → Nat) (f a : Nat) : GW := fun i => if i = 116 then some (.inl (12, mfc u ad f)) else if mk i = 2 ∧ i < a then some (.inr (mak i, mlen i, mav u (mak i) i)) else none
def EMc (D : va_G) (aC : Nat → ClassId) (ad : Nat → Nat) (base : Nat) (u : MS) (f a : Nat) (H : Heap) : Prop := GR D aC ad (wMc u ad f a) H ∧ H.size = base + mcnt a
theorem wMc_o {u : MS} {ad : Nat → Nat} {f a : Nat} : wMc u ad f a 116 = some (.inl (12, mfc u ad f)) := if_pos rfl
theorem mk_lt {k : Nat} (h : mk k = 2) : k < 116 := by
  rcases Nat.lt_or_ge k 116 with q | q
  · exact q
  · obtain ⟨j, rfl⟩ : ∃ j, k = j + 116 := ⟨k - 116, by omega⟩
    exact absurd h (by unfold mk; split <;> first | omega | decide | (rename_i hh; omega))
theorem wMc_end {u : MS} {ad : Nat → Nat} : wMc u ad 116 116 = wM u ad := by
  funext i
  unfold wMc wM
  have e1 : mfc u ad 116 = mfv u ad := by
    funext k
    unfold mfc
    by_cases hk : mk k = 2
    · rw [if_pos hk, if_pos (mk_lt hk)]
      unfold mfv
      rw [hk]
      rfl
    · rw [if_neg hk]
  rw [e1]
  by_cases h1 : i = 116
  · rw [if_pos h1, if_pos h1]
  · rw [if_neg h1, if_neg h1]
    by_cases h2 : mk i = 2
    · rw [if_pos ⟨h2, mk_lt h2⟩, if_pos h2]
    · rw [if_neg (fun z => h2 z.1), if_neg h2]
theorem mcGap {k a j : Nat} (hg : (List.range k).all (fun j => decide (j < a) || !(mk j == 2)) = true) (hj : j < k) (h2 : mk j = 2) : j < a := by
  have h1 := List.all_eq_true.mp hg j (List.mem_range.mpr hj)
  simpa [h2] using h1
section MC
variable {p : Program} {l : Launch} {e : Env} {R : Room} {s : State} {m : MethodId} {args : Array Value} {below : List Frame} {meth : Method} {c : Code} {H : Heap} {locs : List Loc} {cells slots : Nat} {Q : State → Prop}
variable {cc : ByteArray} {pc nL : Nat} {ls : Array Slot} {rest : List Value} {D : va_G} {aC : Nat → ClassId} {ad : Nat → Nat} {u : MS} {base f a : Nat}
theorem c_newa0 (b : Bd p s m c cc nL RX12 D aC) (had : ∀ k, mk k = 2 → ad k = base + mcnt k) (hu : MZ u) (hE : CE (EMc D aC ad base u f a) (Rg ad) s H locs) {i : Int32} (k : Nat) (hk : mk k = 2) (ht : mak k = 0) (hlen : i.toNatClampNeg = mlen k) (hi : ¬ i < 0) (hbytes : mlen k * 8 ≤ 536870912) (hgap : (List.range k).all (fun j => decide (j < a) || !(mk j == 2)) = true) (hc0 : mcnt k = mcnt a) (hc1 : mcnt (k + 1) = mcnt a + 1) (hak : a ≤ k) (hcells : cells + 1 ≤ R.cells) (hslots : slots + mlen k ≤ R.slots) (hdg : decode cc pc = .ok (.newarray .byte, 2))
    (kk : ∀ H1 : Heap, CE (EMc D aC ad base u f (k + 1)) (Rg ad) s H1 locs → W p l e R s m args below meth c H1 locs (cells + 1) (slots + mlen k) Q (F0 m (pc + 2) ls (.ref (ad k) :: rest))) : W p l e R s m args below meth c H locs cells slots Q (F0 m pc ls (.int i :: rest)) := by
  have hne : k ≠ 116 := fun q => by rw [q] at hk; cases hk
  refine k_newa b hE.1.1 hE.2 (k := 0) (by decide) rfl (in1 45 rfl rfl) (by rw [hE.1.2, had k hk, hc0]) hi hlen hbytes hcells hslots (w' := wMc u ad f (k + 1)) (fun j hj => ?_) ?_ hdg (fun H1 g1 g2 z => kk H1 ⟨⟨g1, by rw [z, hE.1.2, hc1]; omega⟩, g2⟩)
  · unfold wMc
    by_cases h1 : j = 116
    · rw [if_pos h1, if_pos h1]
    · rw [if_neg h1, if_neg h1]
      by_cases h2 : mk j = 2 ∧ j < a
      · rw [if_pos h2, if_pos ⟨h2.1, by omega⟩]
      · rw [if_neg h2, if_neg (fun z => h2 ⟨z.1, mcGap hgap (by omega) z.1⟩)]
  · unfold wMc
    rw [if_neg hne, if_pos ⟨hk, by omega⟩, ht]
    refine congrArg some (congrArg Sum.inr (congrArg (Prod.mk _) (congrArg (Prod.mk _) ?_)))
    funext q
    exact congrArg Value.int (congrFun (hu.1 k) q)
theorem c_newa1 (b : Bd p s m c cc nL RX12 D aC) (had : ∀ k, mk k = 2 → ad k = base + mcnt k) (hu : MZ u) (hE : CE (EMc D aC ad base u f a) (Rg ad) s H locs) {i : Int32} (k : Nat) (hk : mk k = 2) (ht : mak k = 1) (hlen : i.toNatClampNeg = mlen k) (hi : ¬ i < 0) (hbytes : mlen k * 8 ≤ 536870912) (hgap : (List.range k).all (fun j => decide (j < a) || !(mk j == 2)) = true) (hc0 : mcnt k = mcnt a) (hc1 : mcnt (k + 1) = mcnt a + 1) (hak : a ≤ k) (hcells : cells + 1 ≤ R.cells) (hslots : slots + mlen k ≤ R.slots) (hdg : decode cc pc = .ok (.newarray .int, 2))
    (kk : ∀ H1 : Heap, CE (EMc D aC ad base u f (k + 1)) (Rg ad) s H1 locs → W p l e R s m args below meth c H1 locs (cells + 1) (slots + mlen k) Q (F0 m (pc + 2) ls (.ref (ad k) :: rest))) : W p l e R s m args below meth c H locs cells slots Q (F0 m pc ls (.int i :: rest)) := by
  have hne : k ≠ 116 := fun q => by rw [q] at hk; cases hk
  refine k_newa b hE.1.1 hE.2 (k := 1) (by decide) rfl (in1 147 rfl rfl) (by rw [hE.1.2, had k hk, hc0]) hi hlen hbytes hcells hslots (w' := wMc u ad f (k + 1)) (fun j hj => ?_) ?_ hdg (fun H1 g1 g2 z => kk H1 ⟨⟨g1, by rw [z, hE.1.2, hc1]; omega⟩, g2⟩)
  · unfold wMc
    by_cases h1 : j = 116
    · rw [if_pos h1, if_pos h1]
    · rw [if_neg h1, if_neg h1]
      by_cases h2 : mk j = 2 ∧ j < a
      · rw [if_pos h2, if_pos ⟨h2.1, by omega⟩]
      · rw [if_neg h2, if_neg (fun z => h2 ⟨z.1, mcGap hgap (by omega) z.1⟩)]
  · unfold wMc
    rw [if_neg hne, if_pos ⟨hk, by omega⟩, ht]
    refine congrArg some (congrArg Sum.inr (congrArg (Prod.mk _) (congrArg (Prod.mk _) ?_)))
    funext q
    exact congrArg Value.int (congrFun (hu.1 k) q)
theorem c_newa2 (b : Bd p s m c cc nL RX12 D aC) (had : ∀ k, mk k = 2 → ad k = base + mcnt k) (hu : MZ u) (hE : CE (EMc D aC ad base u f a) (Rg ad) s H locs) {i : Int32} (k : Nat) (hk : mk k = 2) (ht : mak k = 2) (hlen : i.toNatClampNeg = mlen k) (hi : ¬ i < 0) (hbytes : mlen k * 8 ≤ 536870912) (hgap : (List.range k).all (fun j => decide (j < a) || !(mk j == 2)) = true) (hc0 : mcnt k = mcnt a) (hc1 : mcnt (k + 1) = mcnt a + 1) (hak : a ≤ k) (hcells : cells + 1 ≤ R.cells) (hslots : slots + mlen k ≤ R.slots) (hdg : decode cc pc = .ok (.newarray .long, 2))
    (kk : ∀ H1 : Heap, CE (EMc D aC ad base u f (k + 1)) (Rg ad) s H1 locs → W p l e R s m args below meth c H1 locs (cells + 1) (slots + mlen k) Q (F0 m (pc + 2) ls (.ref (ad k) :: rest))) : W p l e R s m args below meth c H locs cells slots Q (F0 m pc ls (.int i :: rest)) := by
  have hne : k ≠ 116 := fun q => by rw [q] at hk; cases hk
  refine k_newa b hE.1.1 hE.2 (k := 2) (by decide) rfl (in1 74 rfl rfl) (by rw [hE.1.2, had k hk, hc0]) hi hlen hbytes hcells hslots (w' := wMc u ad f (k + 1)) (fun j hj => ?_) ?_ hdg (fun H1 g1 g2 z => kk H1 ⟨⟨g1, by rw [z, hE.1.2, hc1]; omega⟩, g2⟩)
  · unfold wMc
    by_cases h1 : j = 116
    · rw [if_pos h1, if_pos h1]
    · rw [if_neg h1, if_neg h1]
      by_cases h2 : mk j = 2 ∧ j < a
      · rw [if_pos h2, if_pos ⟨h2.1, by omega⟩]
      · rw [if_neg h2, if_neg (fun z => h2 ⟨z.1, mcGap hgap (by omega) z.1⟩)]
  · unfold wMc
    rw [if_neg hne, if_pos ⟨hk, by omega⟩, ht]
    refine congrArg some (congrArg Sum.inr (congrArg (Prod.mk _) (congrArg (Prod.mk _) ?_)))
    funext q
    exact congrArg Value.long (congrFun (hu.2 k) q)
theorem c_newa3 (b : Bd p s m c cc nL RX12 D aC) (had : ∀ k, mk k = 2 → ad k = base + mcnt k) (hu : MZ u) (hE : CE (EMc D aC ad base u f a) (Rg ad) s H locs) {i : Int32} (k : Nat) (hk : mk k = 2) (ht : mak k = 3) (hlen : i.toNatClampNeg = mlen k) (hi : ¬ i < 0) (hbytes : mlen k * 8 ≤ 536870912) (hgap : (List.range k).all (fun j => decide (j < a) || !(mk j == 2)) = true) (hc0 : mcnt k = mcnt a) (hc1 : mcnt (k + 1) = mcnt a + 1) (hak : a ≤ k) (hcells : cells + 1 ≤ R.cells) (hslots : slots + mlen k ≤ R.slots) (hdg : decode cc pc = .ok (.newarray .boolean, 2))
    (kk : ∀ H1 : Heap, CE (EMc D aC ad base u f (k + 1)) (Rg ad) s H1 locs → W p l e R s m args below meth c H1 locs (cells + 1) (slots + mlen k) Q (F0 m (pc + 2) ls (.ref (ad k) :: rest))) : W p l e R s m args below meth c H locs cells slots Q (F0 m pc ls (.int i :: rest)) := by
  have hne : k ≠ 116 := fun q => by rw [q] at hk; cases hk
  refine k_newa b hE.1.1 hE.2 (k := 3) (by decide) rfl (in7 73 rfl rfl) (by rw [hE.1.2, had k hk, hc0]) hi hlen hbytes hcells hslots (w' := wMc u ad f (k + 1)) (fun j hj => ?_) ?_ hdg (fun H1 g1 g2 z => kk H1 ⟨⟨g1, by rw [z, hE.1.2, hc1]; omega⟩, g2⟩)
  · unfold wMc
    by_cases h1 : j = 116
    · rw [if_pos h1, if_pos h1]
    · rw [if_neg h1, if_neg h1]
      by_cases h2 : mk j = 2 ∧ j < a
      · rw [if_pos h2, if_pos ⟨h2.1, by omega⟩]
      · rw [if_neg h2, if_neg (fun z => h2 ⟨z.1, mcGap hgap (by omega) z.1⟩)]
  · unfold wMc
    rw [if_neg hne, if_pos ⟨hk, by omega⟩, ht]
    refine congrArg some (congrArg Sum.inr (congrArg (Prod.mk _) (congrArg (Prod.mk _) ?_)))
    funext q
    exact congrArg Value.int (congrFun (hu.1 k) q)
theorem c_putF (b : Bd p s m c cc nL RX12 D aC) (hin2 : meth.name = "<init>") (hE : CE (EMc D aC ad base u f a) (Rg ad) s H locs) {index : Nat} (k : Nat) (hk : mk k = 2) (hl : Cond.fieldLink RX12 index (TX12 k).1 (TX12 k).2.1 (TX12 k).2.2.1 ∈ tbl) (hfin : (TX12 k).2.2.2 = true) (hdecl : (TX12 k).1 = RX12) (hn : narrow (tyX12 k) (.ref (ad k)) = .ref (ad k)) (hfit : fits (tyX12 k) (.ref (ad k)) = true) (hgap : (List.range k).all (fun j => decide (j < f) || !(mk j == 2)) = true) (hfk : f ≤ k) (hdg : decode cc pc = .ok (.putfield index, 3))
    (kk : ∀ (H1 : Heap) (locs1 : List Loc), CE (EMc D aC ad base u (k + 1) a) (Rg ad) s H1 locs1 → W p l e R s m args below meth c H1 locs1 cells slots Q (F0 m (pc + 3) ls rest)) : W p l e R s m args below meth c H locs cells slots Q (F0 m pc ls (.ref (ad k) :: .ref (ad 116) :: rest)) := by
  refine k_putF b hin2 hE.1.1 hE.2 inX12 rfl tyX12 tyX12_ok nmX12 k (mk_lt hk) hl hfin hdecl wMc_o hn hfit (w' := wMc u ad (k + 1) a) (fun j hj => ?_) ?_ hdg (fun H1 l1 g1 g2 z => kk H1 l1 ⟨⟨g1, z.trans hE.1.2⟩, g2⟩)
  · unfold wMc
    rw [if_neg hj, if_neg hj]
  · rw [wMc_o]
    refine congrArg some (congrArg Sum.inl (congrArg (Prod.mk _) (funext fun j => ?_)))
    unfold updV mfc
    by_cases hj : j = k
    · subst hj
      rw [if_pos rfl, if_pos hk, if_pos (by omega)]
    · rw [if_neg hj]
      by_cases h2 : mk j = 2
      · rw [if_pos h2, if_pos h2]
        by_cases h3 : j < f
        · rw [if_pos h3, if_pos (by omega)]
        · rw [if_neg h3, if_neg (fun z => h3 (mcGap hgap (by omega) h2))]
      · rw [if_neg h2, if_neg h2]
theorem c_putI (b : Bd p s m c cc nL RX12 D aC) (hE : CE (EMc D aC ad base u f a) (Rg ad) s H locs) {index : Nat} (k : Nat) (hk : k < 116) (hl : Cond.fieldLink RX12 index (TX12 k).1 (TX12 k).2.1 (TX12 k).2.2.1 ∈ tbl) (hfin : (TX12 k).2.2.2 = false) (hkd : mk k = 0) {v : Int32} (hn : narrow (tyX12 k) (.int v) = .int v) (hfit : fits (tyX12 k) (.int v) = true) (hdg : decode cc pc = .ok (.putfield index, 3))
    (kk : ∀ (H1 : Heap) (locs1 : List Loc), CE (EMc D aC ad base (mSI u k v) f a) (Rg ad) s H1 locs1 → W p l e R s m args below meth c H1 locs1 cells slots Q (F0 m (pc + 3) ls rest)) : W p l e R s m args below meth c H locs cells slots Q (F0 m pc ls (.int v :: .ref (ad 116) :: rest)) := by
  refine k_put b hE.1.1 hE.2 inX12 rfl tyX12 tyX12_ok nmX12 k hk hl hfin wMc_o hn hfit (w' := wMc (mSI u k v) ad f a) (fun j hj => ?_) ?_ hdg (fun H1 l1 g1 g2 z => kk H1 l1 ⟨⟨g1, z.trans hE.1.2⟩, g2⟩)
  · unfold wMc
    rw [if_neg hj, if_neg hj]
    unfold mav
    split <;> rfl
  · rw [wMc_o]
    refine congrArg some (congrArg Sum.inl (congrArg (Prod.mk _) (funext fun j => ?_)))
    have h9 := congrFun (mfv_sI (u := u) (ad := ad) (v := v) hkd) j
    unfold updV at h9 ⊢
    unfold mfc
    by_cases hj : j = k
    · subst hj
      rw [if_pos rfl] at h9
      rw [if_pos rfl, if_neg (by rw [hkd]; decide), h9]
    · rw [if_neg hj] at h9
      rw [if_neg hj, h9]
end MC
section
variable {p : Program} {l : Launch} {e : Env} {s : State} {m : MethodId} {below : List Frame} {meth : Method} {c : Code} {D : va_G} {aC : Nat → ClassId} {ad : Nat → Nat}
theorem dX12_init_0 : decode cX12_init 0 = .ok (.aload_n 0, 1) := by decide +kernel
theorem dX12_init_1 : decode cX12_init 1 = .ok (.invokespecial 7, 3) := by decide +kernel
theorem dX12_init_4 : decode cX12_init 4 = .ok (.aload_n 0, 1) := by decide +kernel
theorem dX12_init_5 : decode cX12_init 5 = .ok (.sipush 4000, 3) := by decide +kernel
theorem dX12_init_8 : decode cX12_init 8 = .ok (.newarray .byte, 2) := by decide +kernel
theorem dX12_init_10 : decode cX12_init 10 = .ok (.putfield 13, 3) := by decide +kernel
theorem dX12_init_13 : decode cX12_init 13 = .ok (.aload_n 0, 1) := by decide +kernel
theorem dX12_init_14 : decode cX12_init 14 = .ok (.sipush 4000, 3) := by decide +kernel
theorem dX12_init_17 : decode cX12_init 17 = .ok (.newarray .byte, 2) := by decide +kernel
theorem dX12_init_19 : decode cX12_init 19 = .ok (.putfield 17, 3) := by decide +kernel
theorem dX12_init_22 : decode cX12_init 22 = .ok (.aload_n 0, 1) := by decide +kernel
theorem dX12_init_23 : decode cX12_init 23 = .ok (.sipush 1203, 3) := by decide +kernel
theorem dX12_init_26 : decode cX12_init 26 = .ok (.newarray .int, 2) := by decide +kernel
theorem dX12_init_28 : decode cX12_init 28 = .ok (.putfield 20, 3) := by decide +kernel
theorem dX12_init_31 : decode cX12_init 31 = .ok (.aload_n 0, 1) := by decide +kernel
theorem dX12_init_32 : decode cX12_init 32 = .ok (.sipush 1203, 3) := by decide +kernel
theorem dX12_init_35 : decode cX12_init 35 = .ok (.newarray .int, 2) := by decide +kernel
theorem dX12_init_37 : decode cX12_init 37 = .ok (.putfield 24, 3) := by decide +kernel
theorem dX12_init_40 : decode cX12_init 40 = .ok (.aload_n 0, 1) := by decide +kernel
theorem dX12_init_41 : decode cX12_init 41 = .ok (.sipush 1203, 3) := by decide +kernel
theorem dX12_init_44 : decode cX12_init 44 = .ok (.newarray .int, 2) := by decide +kernel
theorem dX12_init_46 : decode cX12_init 46 = .ok (.putfield 27, 3) := by decide +kernel
theorem dX12_init_49 : decode cX12_init 49 = .ok (.aload_n 0, 1) := by decide +kernel
theorem dX12_init_50 : decode cX12_init 50 = .ok (.sipush 1203, 3) := by decide +kernel
theorem dX12_init_53 : decode cX12_init 53 = .ok (.newarray .long, 2) := by decide +kernel
theorem dX12_init_55 : decode cX12_init 55 = .ok (.putfield 30, 3) := by decide +kernel
theorem dX12_init_58 : decode cX12_init 58 = .ok (.aload_n 0, 1) := by decide +kernel
theorem dX12_init_59 : decode cX12_init 59 = .ok (.bipush 18, 2) := by decide +kernel
theorem dX12_init_61 : decode cX12_init 61 = .ok (.newarray .long, 2) := by decide +kernel
theorem dX12_init_63 : decode cX12_init 63 = .ok (.putfield 34, 3) := by decide +kernel
theorem dX12_init_66 : decode cX12_init 66 = .ok (.aload_n 0, 1) := by decide +kernel
theorem dX12_init_67 : decode cX12_init 67 = .ok (.iconst (-1), 1) := by decide +kernel
theorem dX12_init_68 : decode cX12_init 68 = .ok (.putfield 37, 3) := by decide +kernel
theorem dX12_init_71 : decode cX12_init 71 = .ok (.aload_n 0, 1) := by decide +kernel
theorem dX12_init_72 : decode cX12_init 72 = .ok (.iconst 5, 1) := by decide +kernel
theorem dX12_init_73 : decode cX12_init 73 = .ok (.newarray .long, 2) := by decide +kernel
theorem dX12_init_75 : decode cX12_init 75 = .ok (.putfield 40, 3) := by decide +kernel
theorem dX12_init_78 : decode cX12_init 78 = .ok (.aload_n 0, 1) := by decide +kernel
theorem dX12_init_79 : decode cX12_init 79 = .ok (.bipush 20, 2) := by decide +kernel
theorem dX12_init_81 : decode cX12_init 81 = .ok (.newarray .int, 2) := by decide +kernel
theorem dX12_init_83 : decode cX12_init 83 = .ok (.putfield 43, 3) := by decide +kernel
theorem dX12_init_86 : decode cX12_init 86 = .ok (.aload_n 0, 1) := by decide +kernel
theorem dX12_init_87 : decode cX12_init 87 = .ok (.bipush 12, 2) := by decide +kernel
theorem dX12_init_89 : decode cX12_init 89 = .ok (.newarray .long, 2) := by decide +kernel
theorem dX12_init_91 : decode cX12_init 91 = .ok (.putfield 46, 3) := by decide +kernel
theorem dX12_init_94 : decode cX12_init 94 = .ok (.aload_n 0, 1) := by decide +kernel
theorem dX12_init_95 : decode cX12_init 95 = .ok (.bipush 12, 2) := by decide +kernel
theorem dX12_init_97 : decode cX12_init 97 = .ok (.newarray .int, 2) := by decide +kernel
theorem dX12_init_99 : decode cX12_init 99 = .ok (.putfield 49, 3) := by decide +kernel
theorem dX12_init_102 : decode cX12_init 102 = .ok (.aload_n 0, 1) := by decide +kernel
theorem dX12_init_103 : decode cX12_init 103 = .ok (.iconst 4, 1) := by decide +kernel
theorem dX12_init_104 : decode cX12_init 104 = .ok (.newarray .long, 2) := by decide +kernel
theorem dX12_init_106 : decode cX12_init 106 = .ok (.putfield 52, 3) := by decide +kernel
theorem dX12_init_109 : decode cX12_init 109 = .ok (.aload_n 0, 1) := by decide +kernel
theorem dX12_init_110 : decode cX12_init 110 = .ok (.bipush 10, 2) := by decide +kernel
theorem dX12_init_112 : decode cX12_init 112 = .ok (.newarray .long, 2) := by decide +kernel
theorem dX12_init_114 : decode cX12_init 114 = .ok (.putfield 55, 3) := by decide +kernel
theorem dX12_init_117 : decode cX12_init 117 = .ok (.aload_n 0, 1) := by decide +kernel
theorem dX12_init_118 : decode cX12_init 118 = .ok (.bipush 10, 2) := by decide +kernel
theorem dX12_init_120 : decode cX12_init 120 = .ok (.newarray .int, 2) := by decide +kernel
theorem dX12_init_122 : decode cX12_init 122 = .ok (.putfield 58, 3) := by decide +kernel
theorem dX12_init_125 : decode cX12_init 125 = .ok (.aload_n 0, 1) := by decide +kernel
theorem dX12_init_126 : decode cX12_init 126 = .ok (.bipush 10, 2) := by decide +kernel
theorem dX12_init_128 : decode cX12_init 128 = .ok (.newarray .int, 2) := by decide +kernel
theorem dX12_init_130 : decode cX12_init 130 = .ok (.putfield 61, 3) := by decide +kernel
theorem dX12_init_133 : decode cX12_init 133 = .ok (.aload_n 0, 1) := by decide +kernel
theorem dX12_init_134 : decode cX12_init 134 = .ok (.bipush 10, 2) := by decide +kernel
theorem dX12_init_136 : decode cX12_init 136 = .ok (.newarray .int, 2) := by decide +kernel
theorem dX12_init_138 : decode cX12_init 138 = .ok (.putfield 64, 3) := by decide +kernel
theorem dX12_init_141 : decode cX12_init 141 = .ok (.aload_n 0, 1) := by decide +kernel
theorem dX12_init_142 : decode cX12_init 142 = .ok (.bipush 10, 2) := by decide +kernel
theorem dX12_init_144 : decode cX12_init 144 = .ok (.newarray .int, 2) := by decide +kernel
theorem dX12_init_146 : decode cX12_init 146 = .ok (.putfield 67, 3) := by decide +kernel
theorem dX12_init_149 : decode cX12_init 149 = .ok (.aload_n 0, 1) := by decide +kernel
theorem dX12_init_150 : decode cX12_init 150 = .ok (.bipush 10, 2) := by decide +kernel
theorem dX12_init_152 : decode cX12_init 152 = .ok (.newarray .int, 2) := by decide +kernel
theorem dX12_init_154 : decode cX12_init 154 = .ok (.putfield 70, 3) := by decide +kernel
theorem dX12_init_157 : decode cX12_init 157 = .ok (.aload_n 0, 1) := by decide +kernel
theorem dX12_init_158 : decode cX12_init 158 = .ok (.bipush 20, 2) := by decide +kernel
theorem dX12_init_160 : decode cX12_init 160 = .ok (.newarray .int, 2) := by decide +kernel
theorem dX12_init_162 : decode cX12_init 162 = .ok (.putfield 73, 3) := by decide +kernel
theorem dX12_init_165 : decode cX12_init 165 = .ok (.aload_n 0, 1) := by decide +kernel
theorem dX12_init_166 : decode cX12_init 166 = .ok (.bipush 20, 2) := by decide +kernel
theorem dX12_init_168 : decode cX12_init 168 = .ok (.newarray .int, 2) := by decide +kernel
theorem dX12_init_170 : decode cX12_init 170 = .ok (.putfield 76, 3) := by decide +kernel
theorem dX12_init_173 : decode cX12_init 173 = .ok (.aload_n 0, 1) := by decide +kernel
theorem dX12_init_174 : decode cX12_init 174 = .ok (.bipush 30, 2) := by decide +kernel
theorem dX12_init_176 : decode cX12_init 176 = .ok (.newarray .long, 2) := by decide +kernel
theorem dX12_init_178 : decode cX12_init 178 = .ok (.putfield 79, 3) := by decide +kernel
theorem dX12_init_181 : decode cX12_init 181 = .ok (.aload_n 0, 1) := by decide +kernel
theorem dX12_init_182 : decode cX12_init 182 = .ok (.bipush 30, 2) := by decide +kernel
theorem dX12_init_184 : decode cX12_init 184 = .ok (.newarray .int, 2) := by decide +kernel
theorem dX12_init_186 : decode cX12_init 186 = .ok (.putfield 82, 3) := by decide +kernel
theorem dX12_init_189 : decode cX12_init 189 = .ok (.aload_n 0, 1) := by decide +kernel
theorem dX12_init_190 : decode cX12_init 190 = .ok (.bipush 30, 2) := by decide +kernel
theorem dX12_init_192 : decode cX12_init 192 = .ok (.newarray .int, 2) := by decide +kernel
theorem dX12_init_194 : decode cX12_init 194 = .ok (.putfield 85, 3) := by decide +kernel
theorem dX12_init_197 : decode cX12_init 197 = .ok (.aload_n 0, 1) := by decide +kernel
theorem dX12_init_198 : decode cX12_init 198 = .ok (.bipush 30, 2) := by decide +kernel
theorem dX12_init_200 : decode cX12_init 200 = .ok (.newarray .int, 2) := by decide +kernel
theorem dX12_init_202 : decode cX12_init 202 = .ok (.putfield 88, 3) := by decide +kernel
theorem dX12_init_205 : decode cX12_init 205 = .ok (.aload_n 0, 1) := by decide +kernel
theorem dX12_init_206 : decode cX12_init 206 = .ok (.bipush 30, 2) := by decide +kernel
theorem dX12_init_208 : decode cX12_init 208 = .ok (.newarray .int, 2) := by decide +kernel
theorem dX12_init_210 : decode cX12_init 210 = .ok (.putfield 91, 3) := by decide +kernel
theorem dX12_init_213 : decode cX12_init 213 = .ok (.aload_n 0, 1) := by decide +kernel
theorem dX12_init_214 : decode cX12_init 214 = .ok (.bipush 90, 2) := by decide +kernel
theorem dX12_init_216 : decode cX12_init 216 = .ok (.newarray .int, 2) := by decide +kernel
theorem dX12_init_218 : decode cX12_init 218 = .ok (.putfield 94, 3) := by decide +kernel
theorem dX12_init_221 : decode cX12_init 221 = .ok (.aload_n 0, 1) := by decide +kernel
theorem dX12_init_222 : decode cX12_init 222 = .ok (.bipush 30, 2) := by decide +kernel
theorem dX12_init_224 : decode cX12_init 224 = .ok (.newarray .int, 2) := by decide +kernel
theorem dX12_init_226 : decode cX12_init 226 = .ok (.putfield 97, 3) := by decide +kernel
theorem dX12_init_229 : decode cX12_init 229 = .ok (.aload_n 0, 1) := by decide +kernel
theorem dX12_init_230 : decode cX12_init 230 = .ok (.bipush 30, 2) := by decide +kernel
theorem dX12_init_232 : decode cX12_init 232 = .ok (.newarray .boolean, 2) := by decide +kernel
theorem dX12_init_234 : decode cX12_init 234 = .ok (.putfield 100, 3) := by decide +kernel
theorem dX12_init_237 : decode cX12_init 237 = .ok (.aload_n 0, 1) := by decide +kernel
theorem dX12_init_238 : decode cX12_init 238 = .ok (.bipush 30, 2) := by decide +kernel
theorem dX12_init_240 : decode cX12_init 240 = .ok (.newarray .int, 2) := by decide +kernel
theorem dX12_init_242 : decode cX12_init 242 = .ok (.putfield 104, 3) := by decide +kernel
theorem dX12_init_245 : decode cX12_init 245 = .ok (.aload_n 0, 1) := by decide +kernel
theorem dX12_init_246 : decode cX12_init 246 = .ok (.bipush 30, 2) := by decide +kernel
theorem dX12_init_248 : decode cX12_init 248 = .ok (.newarray .int, 2) := by decide +kernel
theorem dX12_init_250 : decode cX12_init 250 = .ok (.putfield 107, 3) := by decide +kernel
theorem dX12_init_253 : decode cX12_init 253 = .ok (.aload_n 0, 1) := by decide +kernel
theorem dX12_init_254 : decode cX12_init 254 = .ok (.bipush 30, 2) := by decide +kernel
theorem dX12_init_256 : decode cX12_init 256 = .ok (.newarray .int, 2) := by decide +kernel
theorem dX12_init_258 : decode cX12_init 258 = .ok (.putfield 110, 3) := by decide +kernel
theorem dX12_init_261 : decode cX12_init 261 = .ok (.aload_n 0, 1) := by decide +kernel
theorem dX12_init_262 : decode cX12_init 262 = .ok (.bipush 30, 2) := by decide +kernel
theorem dX12_init_264 : decode cX12_init 264 = .ok (.newarray .int, 2) := by decide +kernel
theorem dX12_init_266 : decode cX12_init 266 = .ok (.putfield 113, 3) := by decide +kernel
theorem dX12_init_269 : decode cX12_init 269 = .ok (.aload_n 0, 1) := by decide +kernel
theorem dX12_init_270 : decode cX12_init 270 = .ok (.bipush 30, 2) := by decide +kernel
theorem dX12_init_272 : decode cX12_init 272 = .ok (.newarray .int, 2) := by decide +kernel
theorem dX12_init_274 : decode cX12_init 274 = .ok (.putfield 116, 3) := by decide +kernel
theorem dX12_init_277 : decode cX12_init 277 = .ok (.aload_n 0, 1) := by decide +kernel
theorem dX12_init_278 : decode cX12_init 278 = .ok (.sipush 180, 3) := by decide +kernel
theorem dX12_init_281 : decode cX12_init 281 = .ok (.newarray .int, 2) := by decide +kernel
theorem dX12_init_283 : decode cX12_init 283 = .ok (.putfield 119, 3) := by decide +kernel
theorem dX12_init_286 : decode cX12_init 286 = .ok (.aload_n 0, 1) := by decide +kernel
theorem dX12_init_287 : decode cX12_init 287 = .ok (.sipush 180, 3) := by decide +kernel
theorem dX12_init_290 : decode cX12_init 290 = .ok (.newarray .int, 2) := by decide +kernel
theorem dX12_init_292 : decode cX12_init 292 = .ok (.putfield 122, 3) := by decide +kernel
theorem dX12_init_295 : decode cX12_init 295 = .ok (.aload_n 0, 1) := by decide +kernel
theorem dX12_init_296 : decode cX12_init 296 = .ok (.sipush 180, 3) := by decide +kernel
theorem dX12_init_299 : decode cX12_init 299 = .ok (.newarray .boolean, 2) := by decide +kernel
theorem dX12_init_301 : decode cX12_init 301 = .ok (.putfield 125, 3) := by decide +kernel
theorem dX12_init_304 : decode cX12_init 304 = .ok (.aload_n 0, 1) := by decide +kernel
theorem dX12_init_305 : decode cX12_init 305 = .ok (.sipush 180, 3) := by decide +kernel
theorem dX12_init_308 : decode cX12_init 308 = .ok (.newarray .int, 2) := by decide +kernel
theorem dX12_init_310 : decode cX12_init 310 = .ok (.putfield 128, 3) := by decide +kernel
theorem dX12_init_313 : decode cX12_init 313 = .ok (.aload_n 0, 1) := by decide +kernel
theorem dX12_init_314 : decode cX12_init 314 = .ok (.sipush 180, 3) := by decide +kernel
theorem dX12_init_317 : decode cX12_init 317 = .ok (.newarray .int, 2) := by decide +kernel
theorem dX12_init_319 : decode cX12_init 319 = .ok (.putfield 131, 3) := by decide +kernel
theorem dX12_init_322 : decode cX12_init 322 = .ok (.aload_n 0, 1) := by decide +kernel
theorem dX12_init_323 : decode cX12_init 323 = .ok (.sipush 180, 3) := by decide +kernel
theorem dX12_init_326 : decode cX12_init 326 = .ok (.newarray .int, 2) := by decide +kernel
theorem dX12_init_328 : decode cX12_init 328 = .ok (.putfield 134, 3) := by decide +kernel
theorem dX12_init_331 : decode cX12_init 331 = .ok (.aload_n 0, 1) := by decide +kernel
theorem dX12_init_332 : decode cX12_init 332 = .ok (.sipush 180, 3) := by decide +kernel
theorem dX12_init_335 : decode cX12_init 335 = .ok (.newarray .int, 2) := by decide +kernel
theorem dX12_init_337 : decode cX12_init 337 = .ok (.putfield 137, 3) := by decide +kernel
theorem dX12_init_340 : decode cX12_init 340 = .ok (.aload_n 0, 1) := by decide +kernel
theorem dX12_init_341 : decode cX12_init 341 = .ok (.sipush 180, 3) := by decide +kernel
theorem dX12_init_344 : decode cX12_init 344 = .ok (.newarray .int, 2) := by decide +kernel
theorem dX12_init_346 : decode cX12_init 346 = .ok (.putfield 140, 3) := by decide +kernel
theorem dX12_init_349 : decode cX12_init 349 = .ok (.aload_n 0, 1) := by decide +kernel
theorem dX12_init_350 : decode cX12_init 350 = .ok (.sipush 180, 3) := by decide +kernel
theorem dX12_init_353 : decode cX12_init 353 = .ok (.newarray .int, 2) := by decide +kernel
theorem dX12_init_355 : decode cX12_init 355 = .ok (.putfield 143, 3) := by decide +kernel
theorem dX12_init_358 : decode cX12_init 358 = .ok (.aload_n 0, 1) := by decide +kernel
theorem dX12_init_359 : decode cX12_init 359 = .ok (.ldc 146, 2) := by decide +kernel
theorem dX12_init_361 : decode cX12_init 361 = .ok (.newarray .int, 2) := by decide +kernel
theorem dX12_init_363 : decode cX12_init 363 = .ok (.putfield 147, 3) := by decide +kernel
theorem dX12_init_366 : decode cX12_init 366 = .ok (.aload_n 0, 1) := by decide +kernel
theorem dX12_init_367 : decode cX12_init 367 = .ok (.ldc 146, 2) := by decide +kernel
theorem dX12_init_369 : decode cX12_init 369 = .ok (.newarray .int, 2) := by decide +kernel
theorem dX12_init_371 : decode cX12_init 371 = .ok (.putfield 150, 3) := by decide +kernel
theorem dX12_init_374 : decode cX12_init 374 = .ok (.aload_n 0, 1) := by decide +kernel
theorem dX12_init_375 : decode cX12_init 375 = .ok (.ldc 146, 2) := by decide +kernel
theorem dX12_init_377 : decode cX12_init 377 = .ok (.newarray .int, 2) := by decide +kernel
theorem dX12_init_379 : decode cX12_init 379 = .ok (.putfield 153, 3) := by decide +kernel
theorem dX12_init_382 : decode cX12_init 382 = .ok (.aload_n 0, 1) := by decide +kernel
theorem dX12_init_383 : decode cX12_init 383 = .ok (.bipush 44, 2) := by decide +kernel
theorem dX12_init_385 : decode cX12_init 385 = .ok (.newarray .int, 2) := by decide +kernel
theorem dX12_init_387 : decode cX12_init 387 = .ok (.putfield 156, 3) := by decide +kernel
theorem dX12_init_390 : decode cX12_init 390 = .ok (.aload_n 0, 1) := by decide +kernel
theorem dX12_init_391 : decode cX12_init 391 = .ok (.bipush 40, 2) := by decide +kernel
theorem dX12_init_393 : decode cX12_init 393 = .ok (.newarray .int, 2) := by decide +kernel
theorem dX12_init_395 : decode cX12_init 395 = .ok (.putfield 159, 3) := by decide +kernel
theorem dX12_init_398 : decode cX12_init 398 = .ok (.aload_n 0, 1) := by decide +kernel
theorem dX12_init_399 : decode cX12_init 399 = .ok (.bipush 100, 2) := by decide +kernel
theorem dX12_init_401 : decode cX12_init 401 = .ok (.newarray .int, 2) := by decide +kernel
theorem dX12_init_403 : decode cX12_init 403 = .ok (.putfield 162, 3) := by decide +kernel
theorem dX12_init_406 : decode cX12_init 406 = .ok (.aload_n 0, 1) := by decide +kernel
theorem dX12_init_407 : decode cX12_init 407 = .ok (.bipush 100, 2) := by decide +kernel
theorem dX12_init_409 : decode cX12_init 409 = .ok (.newarray .int, 2) := by decide +kernel
theorem dX12_init_411 : decode cX12_init 411 = .ok (.putfield 165, 3) := by decide +kernel
theorem dX12_init_414 : decode cX12_init 414 = .ok (.aload_n 0, 1) := by decide +kernel
theorem dX12_init_415 : decode cX12_init 415 = .ok (.bipush 100, 2) := by decide +kernel
theorem dX12_init_417 : decode cX12_init 417 = .ok (.newarray .int, 2) := by decide +kernel
theorem dX12_init_419 : decode cX12_init 419 = .ok (.putfield 168, 3) := by decide +kernel
theorem dX12_init_422 : decode cX12_init 422 = .ok (.aload_n 0, 1) := by decide +kernel
theorem dX12_init_423 : decode cX12_init 423 = .ok (.bipush 100, 2) := by decide +kernel
theorem dX12_init_425 : decode cX12_init 425 = .ok (.newarray .int, 2) := by decide +kernel
theorem dX12_init_427 : decode cX12_init 427 = .ok (.putfield 171, 3) := by decide +kernel
theorem dX12_init_430 : decode cX12_init 430 = .ok (.aload_n 0, 1) := by decide +kernel
theorem dX12_init_431 : decode cX12_init 431 = .ok (.bipush 100, 2) := by decide +kernel
theorem dX12_init_433 : decode cX12_init 433 = .ok (.newarray .int, 2) := by decide +kernel
theorem dX12_init_435 : decode cX12_init 435 = .ok (.putfield 174, 3) := by decide +kernel
theorem dX12_init_438 : decode cX12_init 438 = .ok (.aload_n 0, 1) := by decide +kernel
theorem dX12_init_439 : decode cX12_init 439 = .ok (.sipush 1300, 3) := by decide +kernel
theorem dX12_init_442 : decode cX12_init 442 = .ok (.newarray .long, 2) := by decide +kernel
theorem dX12_init_444 : decode cX12_init 444 = .ok (.putfield 177, 3) := by decide +kernel
theorem dX12_init_447 : decode cX12_init 447 = .ok (.aload_n 0, 1) := by decide +kernel
theorem dX12_init_448 : decode cX12_init 448 = .ok (.sipush 1300, 3) := by decide +kernel
theorem dX12_init_451 : decode cX12_init 451 = .ok (.newarray .long, 2) := by decide +kernel
theorem dX12_init_453 : decode cX12_init 453 = .ok (.putfield 180, 3) := by decide +kernel
theorem dX12_init_456 : decode cX12_init 456 = .ok (.aload_n 0, 1) := by decide +kernel
theorem dX12_init_457 : decode cX12_init 457 = .ok (.sipush 3750, 3) := by decide +kernel
theorem dX12_init_460 : decode cX12_init 460 = .ok (.newarray .boolean, 2) := by decide +kernel
theorem dX12_init_462 : decode cX12_init 462 = .ok (.putfield 183, 3) := by decide +kernel
theorem dX12_init_465 : decode cX12_init 465 = .ok (.aload_n 0, 1) := by decide +kernel
theorem dX12_init_466 : decode cX12_init 466 = .ok (.sipush 3750, 3) := by decide +kernel
theorem dX12_init_469 : decode cX12_init 469 = .ok (.newarray .int, 2) := by decide +kernel
theorem dX12_init_471 : decode cX12_init 471 = .ok (.putfield 186, 3) := by decide +kernel
theorem dX12_init_474 : decode cX12_init 474 = .ok (.aload_n 0, 1) := by decide +kernel
theorem dX12_init_475 : decode cX12_init 475 = .ok (.sipush 3750, 3) := by decide +kernel
theorem dX12_init_478 : decode cX12_init 478 = .ok (.newarray .int, 2) := by decide +kernel
theorem dX12_init_480 : decode cX12_init 480 = .ok (.putfield 189, 3) := by decide +kernel
theorem dX12_init_483 : decode cX12_init 483 = .ok (.aload_n 0, 1) := by decide +kernel
theorem dX12_init_484 : decode cX12_init 484 = .ok (.sipush 600, 3) := by decide +kernel
theorem dX12_init_487 : decode cX12_init 487 = .ok (.newarray .int, 2) := by decide +kernel
theorem dX12_init_489 : decode cX12_init 489 = .ok (.putfield 192, 3) := by decide +kernel
theorem dX12_init_492 : decode cX12_init 492 = .ok (.aload_n 0, 1) := by decide +kernel
theorem dX12_init_493 : decode cX12_init 493 = .ok (.sipush 600, 3) := by decide +kernel
theorem dX12_init_496 : decode cX12_init 496 = .ok (.newarray .int, 2) := by decide +kernel
theorem dX12_init_498 : decode cX12_init 498 = .ok (.putfield 195, 3) := by decide +kernel
theorem dX12_init_501 : decode cX12_init 501 = .ok (.aload_n 0, 1) := by decide +kernel
theorem dX12_init_502 : decode cX12_init 502 = .ok (.sipush 3750, 3) := by decide +kernel
theorem dX12_init_505 : decode cX12_init 505 = .ok (.newarray .boolean, 2) := by decide +kernel
theorem dX12_init_507 : decode cX12_init 507 = .ok (.putfield 198, 3) := by decide +kernel
theorem dX12_init_510 : decode cX12_init 510 = .ok (.aload_n 0, 1) := by decide +kernel
theorem dX12_init_511 : decode cX12_init 511 = .ok (.sipush 3750, 3) := by decide +kernel
theorem dX12_init_514 : decode cX12_init 514 = .ok (.newarray .boolean, 2) := by decide +kernel
theorem dX12_init_516 : decode cX12_init 516 = .ok (.putfield 201, 3) := by decide +kernel
theorem dX12_init_519 : decode cX12_init 519 = .ok (.aload_n 0, 1) := by decide +kernel
theorem dX12_init_520 : decode cX12_init 520 = .ok (.sipush 600, 3) := by decide +kernel
theorem dX12_init_523 : decode cX12_init 523 = .ok (.newarray .boolean, 2) := by decide +kernel
theorem dX12_init_525 : decode cX12_init 525 = .ok (.putfield 204, 3) := by decide +kernel
theorem dX12_init_528 : decode cX12_init 528 = .ok (.aload_n 0, 1) := by decide +kernel
theorem dX12_init_529 : decode cX12_init 529 = .ok (.sipush 600, 3) := by decide +kernel
theorem dX12_init_532 : decode cX12_init 532 = .ok (.newarray .boolean, 2) := by decide +kernel
theorem dX12_init_534 : decode cX12_init 534 = .ok (.putfield 207, 3) := by decide +kernel
theorem dX12_init_537 : decode cX12_init 537 = .ok (.aload_n 0, 1) := by decide +kernel
theorem dX12_init_538 : decode cX12_init 538 = .ok (.sipush 600, 3) := by decide +kernel
theorem dX12_init_541 : decode cX12_init 541 = .ok (.newarray .boolean, 2) := by decide +kernel
theorem dX12_init_543 : decode cX12_init 543 = .ok (.putfield 210, 3) := by decide +kernel
theorem dX12_init_546 : decode cX12_init 546 = .ok (.aload_n 0, 1) := by decide +kernel
theorem dX12_init_547 : decode cX12_init 547 = .ok (.sipush 900, 3) := by decide +kernel
theorem dX12_init_550 : decode cX12_init 550 = .ok (.newarray .boolean, 2) := by decide +kernel
theorem dX12_init_552 : decode cX12_init 552 = .ok (.putfield 213, 3) := by decide +kernel
theorem dX12_init_555 : decode cX12_init 555 = .ok (.aload_n 0, 1) := by decide +kernel
theorem dX12_init_556 : decode cX12_init 556 = .ok (.iconst 3, 1) := by decide +kernel
theorem dX12_init_557 : decode cX12_init 557 = .ok (.newarray .int, 2) := by decide +kernel
theorem dX12_init_559 : decode cX12_init 559 = .ok (.putfield 216, 3) := by decide +kernel
theorem dX12_init_562 : decode cX12_init 562 = .ok (.aload_n 0, 1) := by decide +kernel
theorem dX12_init_563 : decode cX12_init 563 = .ok (.sipush 600, 3) := by decide +kernel
theorem dX12_init_566 : decode cX12_init 566 = .ok (.newarray .int, 2) := by decide +kernel
theorem dX12_init_568 : decode cX12_init 568 = .ok (.putfield 219, 3) := by decide +kernel
theorem dX12_init_571 : decode cX12_init 571 = .ok (.aload_n 0, 1) := by decide +kernel
theorem dX12_init_572 : decode cX12_init 572 = .ok (.sipush 600, 3) := by decide +kernel
theorem dX12_init_575 : decode cX12_init 575 = .ok (.newarray .int, 2) := by decide +kernel
theorem dX12_init_577 : decode cX12_init 577 = .ok (.putfield 222, 3) := by decide +kernel
theorem dX12_init_580 : decode cX12_init 580 = .ok (.aload_n 0, 1) := by decide +kernel
theorem dX12_init_581 : decode cX12_init 581 = .ok (.sipush 600, 3) := by decide +kernel
theorem dX12_init_584 : decode cX12_init 584 = .ok (.newarray .int, 2) := by decide +kernel
theorem dX12_init_586 : decode cX12_init 586 = .ok (.putfield 225, 3) := by decide +kernel
theorem dX12_init_589 : decode cX12_init 589 = .ok (.aload_n 0, 1) := by decide +kernel
theorem dX12_init_590 : decode cX12_init 590 = .ok (.sipush 1800, 3) := by decide +kernel
theorem dX12_init_593 : decode cX12_init 593 = .ok (.newarray .int, 2) := by decide +kernel
theorem dX12_init_595 : decode cX12_init 595 = .ok (.putfield 228, 3) := by decide +kernel
theorem dX12_init_598 : decode cX12_init 598 = .ok (.aload_n 0, 1) := by decide +kernel
theorem dX12_init_599 : decode cX12_init 599 = .ok (.bipush 20, 2) := by decide +kernel
theorem dX12_init_601 : decode cX12_init 601 = .ok (.newarray .long, 2) := by decide +kernel
theorem dX12_init_603 : decode cX12_init 603 = .ok (.putfield 231, 3) := by decide +kernel
theorem dX12_init_606 : decode cX12_init 606 = .ok (.aload_n 0, 1) := by decide +kernel
theorem dX12_init_607 : decode cX12_init 607 = .ok (.bipush 20, 2) := by decide +kernel
theorem dX12_init_609 : decode cX12_init 609 = .ok (.newarray .long, 2) := by decide +kernel
theorem dX12_init_611 : decode cX12_init 611 = .ok (.putfield 234, 3) := by decide +kernel
theorem dX12_init_614 : decode cX12_init 614 = .ok (.aload_n 0, 1) := by decide +kernel
theorem dX12_init_615 : decode cX12_init 615 = .ok (.bipush 20, 2) := by decide +kernel
theorem dX12_init_617 : decode cX12_init 617 = .ok (.newarray .int, 2) := by decide +kernel
theorem dX12_init_619 : decode cX12_init 619 = .ok (.putfield 237, 3) := by decide +kernel
theorem dX12_init_622 : decode cX12_init 622 = .ok (.aload_n 0, 1) := by decide +kernel
theorem dX12_init_623 : decode cX12_init 623 = .ok (.bipush 20, 2) := by decide +kernel
theorem dX12_init_625 : decode cX12_init 625 = .ok (.newarray .boolean, 2) := by decide +kernel
theorem dX12_init_627 : decode cX12_init 627 = .ok (.putfield 240, 3) := by decide +kernel
theorem dX12_init_630 : decode cX12_init 630 = .ok (.aload_n 0, 1) := by decide +kernel
theorem dX12_init_631 : decode cX12_init 631 = .ok (.sipush 600, 3) := by decide +kernel
theorem dX12_init_634 : decode cX12_init 634 = .ok (.newarray .int, 2) := by decide +kernel
theorem dX12_init_636 : decode cX12_init 636 = .ok (.putfield 243, 3) := by decide +kernel
theorem dX12_init_639 : decode cX12_init 639 = .ok (.aload_n 0, 1) := by decide +kernel
theorem dX12_init_640 : decode cX12_init 640 = .ok (.sipush 4000, 3) := by decide +kernel
theorem dX12_init_643 : decode cX12_init 643 = .ok (.newarray .byte, 2) := by decide +kernel
theorem dX12_init_645 : decode cX12_init 645 = .ok (.putfield 246, 3) := by decide +kernel
theorem dX12_init_648 : decode cX12_init 648 = .ok (.aload_n 0, 1) := by decide +kernel
theorem dX12_init_649 : decode cX12_init 649 = .ok (.bipush 12, 2) := by decide +kernel
theorem dX12_init_651 : decode cX12_init 651 = .ok (.newarray .int, 2) := by decide +kernel
theorem dX12_init_653 : decode cX12_init 653 = .ok (.putfield 249, 3) := by decide +kernel
theorem dX12_init_656 : decode cX12_init 656 = .ok (.aload_n 0, 1) := by decide +kernel
theorem dX12_init_657 : decode cX12_init 657 = .ok (.getfield 34, 3) := by decide +kernel
theorem dX12_init_660 : decode cX12_init 660 = .ok (.iconst 0, 1) := by decide +kernel
theorem dX12_init_661 : decode cX12_init 661 = .ok (.bipush 112, 2) := by decide +kernel
theorem dX12_init_663 : decode cX12_init 663 = .ok (.bipush 101, 2) := by decide +kernel
theorem dX12_init_665 : decode cX12_init 665 = .ok (.bipush 114, 2) := by decide +kernel
theorem dX12_init_667 : decode cX12_init 667 = .ok (.bipush 115, 2) := by decide +kernel
theorem dX12_init_669 : decode cX12_init 669 = .ok (.bipush 111, 2) := by decide +kernel
theorem dX12_init_671 : decode cX12_init 671 = .ok (.bipush 110, 2) := by decide +kernel
theorem dX12_init_673 : decode cX12_init 673 = .ok (.invokestatic 252, 3) := by decide +kernel
theorem dX12_init_676 : decode cX12_init 676 = .ok (.lastore, 1) := by decide +kernel
theorem dX12_init_677 : decode cX12_init 677 = .ok (.aload_n 0, 1) := by decide +kernel
theorem dX12_init_678 : decode cX12_init 678 = .ok (.getfield 34, 3) := by decide +kernel
theorem dX12_init_681 : decode cX12_init 681 = .ok (.iconst 1, 1) := by decide +kernel
theorem dX12_init_682 : decode cX12_init 682 = .ok (.bipush 119, 2) := by decide +kernel
theorem dX12_init_684 : decode cX12_init 684 = .ok (.bipush 111, 2) := by decide +kernel
theorem dX12_init_686 : decode cX12_init 686 = .ok (.bipush 114, 2) := by decide +kernel
theorem dX12_init_688 : decode cX12_init 688 = .ok (.bipush 100, 2) := by decide +kernel
theorem dX12_init_690 : decode cX12_init 690 = .ok (.iconst 0, 1) := by decide +kernel
theorem dX12_init_691 : decode cX12_init 691 = .ok (.iconst 0, 1) := by decide +kernel
theorem dX12_init_692 : decode cX12_init 692 = .ok (.invokestatic 252, 3) := by decide +kernel
theorem dX12_init_695 : decode cX12_init 695 = .ok (.lastore, 1) := by decide +kernel
theorem dX12_init_696 : decode cX12_init 696 = .ok (.aload_n 0, 1) := by decide +kernel
theorem dX12_init_697 : decode cX12_init 697 = .ok (.getfield 34, 3) := by decide +kernel
theorem dX12_init_700 : decode cX12_init 700 = .ok (.iconst 2, 1) := by decide +kernel
theorem dX12_init_701 : decode cX12_init 701 = .ok (.bipush 115, 2) := by decide +kernel
theorem dX12_init_703 : decode cX12_init 703 = .ok (.bipush 117, 2) := by decide +kernel
theorem dX12_init_705 : decode cX12_init 705 = .ok (.bipush 109, 2) := by decide +kernel
theorem dX12_init_707 : decode cX12_init 707 = .ok (.iconst 0, 1) := by decide +kernel
theorem dX12_init_708 : decode cX12_init 708 = .ok (.iconst 0, 1) := by decide +kernel
theorem dX12_init_709 : decode cX12_init 709 = .ok (.iconst 0, 1) := by decide +kernel
theorem dX12_init_710 : decode cX12_init 710 = .ok (.invokestatic 252, 3) := by decide +kernel
theorem dX12_init_713 : decode cX12_init 713 = .ok (.lastore, 1) := by decide +kernel
theorem dX12_init_714 : decode cX12_init 714 = .ok (.aload_n 0, 1) := by decide +kernel
theorem dX12_init_715 : decode cX12_init 715 = .ok (.getfield 34, 3) := by decide +kernel
theorem dX12_init_718 : decode cX12_init 718 = .ok (.iconst 3, 1) := by decide +kernel
theorem dX12_init_719 : decode cX12_init 719 = .ok (.bipush 108, 2) := by decide +kernel
theorem dX12_init_721 : decode cX12_init 721 = .ok (.bipush 97, 2) := by decide +kernel
theorem dX12_init_723 : decode cX12_init 723 = .ok (.bipush 119, 2) := by decide +kernel
theorem dX12_init_725 : decode cX12_init 725 = .ok (.iconst 0, 1) := by decide +kernel
theorem dX12_init_726 : decode cX12_init 726 = .ok (.iconst 0, 1) := by decide +kernel
theorem dX12_init_727 : decode cX12_init 727 = .ok (.iconst 0, 1) := by decide +kernel
theorem dX12_init_728 : decode cX12_init 728 = .ok (.invokestatic 252, 3) := by decide +kernel
theorem dX12_init_731 : decode cX12_init 731 = .ok (.lastore, 1) := by decide +kernel
theorem dX12_init_732 : decode cX12_init 732 = .ok (.aload_n 0, 1) := by decide +kernel
theorem dX12_init_733 : decode cX12_init 733 = .ok (.getfield 34, 3) := by decide +kernel
theorem dX12_init_736 : decode cX12_init 736 = .ok (.iconst 4, 1) := by decide +kernel
theorem dX12_init_737 : decode cX12_init 737 = .ok (.bipush 114, 2) := by decide +kernel
theorem dX12_init_739 : decode cX12_init 739 = .ok (.bipush 97, 2) := by decide +kernel
theorem dX12_init_741 : decode cX12_init 741 = .ok (.bipush 110, 2) := by decide +kernel
theorem dX12_init_743 : decode cX12_init 743 = .ok (.bipush 107, 2) := by decide +kernel
theorem dX12_init_745 : decode cX12_init 745 = .ok (.iconst 0, 1) := by decide +kernel
theorem dX12_init_746 : decode cX12_init 746 = .ok (.iconst 0, 1) := by decide +kernel
theorem dX12_init_747 : decode cX12_init 747 = .ok (.invokestatic 252, 3) := by decide +kernel
theorem dX12_init_750 : decode cX12_init 750 = .ok (.lastore, 1) := by decide +kernel
theorem dX12_init_751 : decode cX12_init 751 = .ok (.aload_n 0, 1) := by decide +kernel
theorem dX12_init_752 : decode cX12_init 752 = .ok (.getfield 34, 3) := by decide +kernel
theorem dX12_init_755 : decode cX12_init 755 = .ok (.iconst 5, 1) := by decide +kernel
theorem dX12_init_756 : decode cX12_init 756 = .ok (.bipush 102, 2) := by decide +kernel
theorem dX12_init_758 : decode cX12_init 758 = .ok (.bipush 114, 2) := by decide +kernel
theorem dX12_init_760 : decode cX12_init 760 = .ok (.bipush 111, 2) := by decide +kernel
theorem dX12_init_762 : decode cX12_init 762 = .ok (.bipush 109, 2) := by decide +kernel
theorem dX12_init_764 : decode cX12_init 764 = .ok (.iconst 0, 1) := by decide +kernel
theorem dX12_init_765 : decode cX12_init 765 = .ok (.iconst 0, 1) := by decide +kernel
theorem dX12_init_766 : decode cX12_init 766 = .ok (.invokestatic 252, 3) := by decide +kernel
theorem dX12_init_769 : decode cX12_init 769 = .ok (.lastore, 1) := by decide +kernel
theorem dX12_init_770 : decode cX12_init 770 = .ok (.aload_n 0, 1) := by decide +kernel
theorem dX12_init_771 : decode cX12_init 771 = .ok (.getfield 34, 3) := by decide +kernel
theorem dX12_init_774 : decode cX12_init 774 = .ok (.bipush 6, 2) := by decide +kernel
theorem dX12_init_776 : decode cX12_init 776 = .ok (.bipush 117, 2) := by decide +kernel
theorem dX12_init_778 : decode cX12_init 778 = .ok (.bipush 110, 2) := by decide +kernel
theorem dX12_init_780 : decode cX12_init 780 = .ok (.bipush 116, 2) := by decide +kernel
theorem dX12_init_782 : decode cX12_init 782 = .ok (.bipush 105, 2) := by decide +kernel
theorem dX12_init_784 : decode cX12_init 784 = .ok (.bipush 108, 2) := by decide +kernel
theorem dX12_init_786 : decode cX12_init 786 = .ok (.iconst 0, 1) := by decide +kernel
theorem dX12_init_787 : decode cX12_init 787 = .ok (.invokestatic 252, 3) := by decide +kernel
theorem dX12_init_790 : decode cX12_init 790 = .ok (.lastore, 1) := by decide +kernel
theorem dX12_init_791 : decode cX12_init 791 = .ok (.aload_n 0, 1) := by decide +kernel
theorem dX12_init_792 : decode cX12_init 792 = .ok (.getfield 34, 3) := by decide +kernel
theorem dX12_init_795 : decode cX12_init 795 = .ok (.bipush 7, 2) := by decide +kernel
theorem dX12_init_797 : decode cX12_init 797 = .ok (.bipush 101, 2) := by decide +kernel
theorem dX12_init_799 : decode cX12_init 799 = .ok (.bipush 110, 2) := by decide +kernel
theorem dX12_init_801 : decode cX12_init 801 = .ok (.bipush 100, 2) := by decide +kernel
theorem dX12_init_803 : decode cX12_init 803 = .ok (.iconst 0, 1) := by decide +kernel
theorem dX12_init_804 : decode cX12_init 804 = .ok (.iconst 0, 1) := by decide +kernel
theorem dX12_init_805 : decode cX12_init 805 = .ok (.iconst 0, 1) := by decide +kernel
theorem dX12_init_806 : decode cX12_init 806 = .ok (.invokestatic 252, 3) := by decide +kernel
theorem dX12_init_809 : decode cX12_init 809 = .ok (.lastore, 1) := by decide +kernel
theorem dX12_init_810 : decode cX12_init 810 = .ok (.aload_n 0, 1) := by decide +kernel
theorem dX12_init_811 : decode cX12_init 811 = .ok (.getfield 34, 3) := by decide +kernel
theorem dX12_init_814 : decode cX12_init 814 = .ok (.bipush 8, 2) := by decide +kernel
theorem dX12_init_816 : decode cX12_init 816 = .ok (.bipush 111, 2) := by decide +kernel
theorem dX12_init_818 : decode cX12_init 818 = .ok (.bipush 118, 2) := by decide +kernel
theorem dX12_init_820 : decode cX12_init 820 = .ok (.bipush 101, 2) := by decide +kernel
theorem dX12_init_822 : decode cX12_init 822 = .ok (.bipush 114, 2) := by decide +kernel
theorem dX12_init_824 : decode cX12_init 824 = .ok (.iconst 0, 1) := by decide +kernel
theorem dX12_init_825 : decode cX12_init 825 = .ok (.iconst 0, 1) := by decide +kernel
theorem dX12_init_826 : decode cX12_init 826 = .ok (.invokestatic 252, 3) := by decide +kernel
theorem dX12_init_829 : decode cX12_init 829 = .ok (.lastore, 1) := by decide +kernel
theorem dX12_init_830 : decode cX12_init 830 = .ok (.aload_n 0, 1) := by decide +kernel
theorem dX12_init_831 : decode cX12_init 831 = .ok (.getfield 34, 3) := by decide +kernel
theorem dX12_init_834 : decode cX12_init 834 = .ok (.bipush 9, 2) := by decide +kernel
theorem dX12_init_836 : decode cX12_init 836 = .ok (.bipush 114, 2) := by decide +kernel
theorem dX12_init_838 : decode cX12_init 838 = .ok (.bipush 117, 2) := by decide +kernel
theorem dX12_init_840 : decode cX12_init 840 = .ok (.bipush 108, 2) := by decide +kernel
theorem dX12_init_842 : decode cX12_init 842 = .ok (.bipush 101, 2) := by decide +kernel
theorem dX12_init_844 : decode cX12_init 844 = .ok (.iconst 0, 1) := by decide +kernel
theorem dX12_init_845 : decode cX12_init 845 = .ok (.iconst 0, 1) := by decide +kernel
theorem dX12_init_846 : decode cX12_init 846 = .ok (.invokestatic 252, 3) := by decide +kernel
theorem dX12_init_849 : decode cX12_init 849 = .ok (.lastore, 1) := by decide +kernel
theorem dX12_init_850 : decode cX12_init 850 = .ok (.aload_n 0, 1) := by decide +kernel
theorem dX12_init_851 : decode cX12_init 851 = .ok (.getfield 34, 3) := by decide +kernel
theorem dX12_init_854 : decode cX12_init 854 = .ok (.bipush 10, 2) := by decide +kernel
theorem dX12_init_856 : decode cX12_init 856 = .ok (.bipush 98, 2) := by decide +kernel
theorem dX12_init_858 : decode cX12_init 858 = .ok (.bipush 97, 2) := by decide +kernel
theorem dX12_init_860 : decode cX12_init 860 = .ok (.bipush 114, 2) := by decide +kernel
theorem dX12_init_862 : decode cX12_init 862 = .ok (.iconst 0, 1) := by decide +kernel
theorem dX12_init_863 : decode cX12_init 863 = .ok (.iconst 0, 1) := by decide +kernel
theorem dX12_init_864 : decode cX12_init 864 = .ok (.iconst 0, 1) := by decide +kernel
theorem dX12_init_865 : decode cX12_init 865 = .ok (.invokestatic 252, 3) := by decide +kernel
theorem dX12_init_868 : decode cX12_init 868 = .ok (.lastore, 1) := by decide +kernel
theorem dX12_init_869 : decode cX12_init 869 = .ok (.aload_n 0, 1) := by decide +kernel
theorem dX12_init_870 : decode cX12_init 870 = .ok (.getfield 34, 3) := by decide +kernel
theorem dX12_init_873 : decode cX12_init 873 = .ok (.bipush 11, 2) := by decide +kernel
theorem dX12_init_875 : decode cX12_init 875 = .ok (.bipush 116, 2) := by decide +kernel
theorem dX12_init_877 : decode cX12_init 877 = .ok (.bipush 97, 2) := by decide +kernel
theorem dX12_init_879 : decode cX12_init 879 = .ok (.bipush 107, 2) := by decide +kernel
theorem dX12_init_881 : decode cX12_init 881 = .ok (.bipush 101, 2) := by decide +kernel
theorem dX12_init_883 : decode cX12_init 883 = .ok (.iconst 0, 1) := by decide +kernel
theorem dX12_init_884 : decode cX12_init 884 = .ok (.iconst 0, 1) := by decide +kernel
theorem dX12_init_885 : decode cX12_init 885 = .ok (.invokestatic 252, 3) := by decide +kernel
theorem dX12_init_888 : decode cX12_init 888 = .ok (.lastore, 1) := by decide +kernel
theorem dX12_init_889 : decode cX12_init 889 = .ok (.aload_n 0, 1) := by decide +kernel
theorem dX12_init_890 : decode cX12_init 890 = .ok (.getfield 34, 3) := by decide +kernel
theorem dX12_init_893 : decode cX12_init 893 = .ok (.bipush 12, 2) := by decide +kernel
theorem dX12_init_895 : decode cX12_init 895 = .ok (.bipush 115, 2) := by decide +kernel
theorem dX12_init_897 : decode cX12_init 897 = .ok (.bipush 97, 2) := by decide +kernel
theorem dX12_init_899 : decode cX12_init 899 = .ok (.bipush 109, 2) := by decide +kernel
theorem dX12_init_901 : decode cX12_init 901 = .ok (.bipush 101, 2) := by decide +kernel
theorem dX12_init_903 : decode cX12_init 903 = .ok (.iconst 0, 1) := by decide +kernel
theorem dX12_init_904 : decode cX12_init 904 = .ok (.iconst 0, 1) := by decide +kernel
theorem dX12_init_905 : decode cX12_init 905 = .ok (.invokestatic 252, 3) := by decide +kernel
theorem dX12_init_908 : decode cX12_init 908 = .ok (.lastore, 1) := by decide +kernel
theorem dX12_init_909 : decode cX12_init 909 = .ok (.aload_n 0, 1) := by decide +kernel
theorem dX12_init_910 : decode cX12_init 910 = .ok (.getfield 34, 3) := by decide +kernel
theorem dX12_init_913 : decode cX12_init 913 = .ok (.bipush 13, 2) := by decide +kernel
theorem dX12_init_915 : decode cX12_init 915 = .ok (.bipush 111, 2) := by decide +kernel
theorem dX12_init_917 : decode cX12_init 917 = .ok (.bipush 116, 2) := by decide +kernel
theorem dX12_init_919 : decode cX12_init 919 = .ok (.bipush 104, 2) := by decide +kernel
theorem dX12_init_921 : decode cX12_init 921 = .ok (.bipush 101, 2) := by decide +kernel
theorem dX12_init_923 : decode cX12_init 923 = .ok (.bipush 114, 2) := by decide +kernel
theorem dX12_init_925 : decode cX12_init 925 = .ok (.iconst 0, 1) := by decide +kernel
theorem dX12_init_926 : decode cX12_init 926 = .ok (.invokestatic 252, 3) := by decide +kernel
theorem dX12_init_929 : decode cX12_init 929 = .ok (.lastore, 1) := by decide +kernel
theorem dX12_init_930 : decode cX12_init 930 = .ok (.aload_n 0, 1) := by decide +kernel
theorem dX12_init_931 : decode cX12_init 931 = .ok (.getfield 34, 3) := by decide +kernel
theorem dX12_init_934 : decode cX12_init 934 = .ok (.bipush 14, 2) := by decide +kernel
theorem dX12_init_936 : decode cX12_init 936 = .ok (.bipush 105, 2) := by decide +kernel
theorem dX12_init_938 : decode cX12_init 938 = .ok (.bipush 102, 2) := by decide +kernel
theorem dX12_init_940 : decode cX12_init 940 = .ok (.iconst 0, 1) := by decide +kernel
theorem dX12_init_941 : decode cX12_init 941 = .ok (.iconst 0, 1) := by decide +kernel
theorem dX12_init_942 : decode cX12_init 942 = .ok (.iconst 0, 1) := by decide +kernel
theorem dX12_init_943 : decode cX12_init 943 = .ok (.iconst 0, 1) := by decide +kernel
theorem dX12_init_944 : decode cX12_init 944 = .ok (.invokestatic 252, 3) := by decide +kernel
theorem dX12_init_947 : decode cX12_init 947 = .ok (.lastore, 1) := by decide +kernel
theorem dX12_init_948 : decode cX12_init 948 = .ok (.aload_n 0, 1) := by decide +kernel
theorem dX12_init_949 : decode cX12_init 949 = .ok (.getfield 34, 3) := by decide +kernel
theorem dX12_init_952 : decode cX12_init 952 = .ok (.bipush 15, 2) := by decide +kernel
theorem dX12_init_954 : decode cX12_init 954 = .ok (.bipush 110, 2) := by decide +kernel
theorem dX12_init_956 : decode cX12_init 956 = .ok (.bipush 111, 2) := by decide +kernel
theorem dX12_init_958 : decode cX12_init 958 = .ok (.bipush 116, 2) := by decide +kernel
theorem dX12_init_960 : decode cX12_init 960 = .ok (.iconst 0, 1) := by decide +kernel
theorem dX12_init_961 : decode cX12_init 961 = .ok (.iconst 0, 1) := by decide +kernel
theorem dX12_init_962 : decode cX12_init 962 = .ok (.iconst 0, 1) := by decide +kernel
theorem dX12_init_963 : decode cX12_init 963 = .ok (.invokestatic 252, 3) := by decide +kernel
theorem dX12_init_966 : decode cX12_init 966 = .ok (.lastore, 1) := by decide +kernel
theorem dX12_init_967 : decode cX12_init 967 = .ok (.aload_n 0, 1) := by decide +kernel
theorem dX12_init_968 : decode cX12_init 968 = .ok (.getfield 34, 3) := by decide +kernel
theorem dX12_init_971 : decode cX12_init 971 = .ok (.bipush 16, 2) := by decide +kernel
theorem dX12_init_973 : decode cX12_init 973 = .ok (.bipush 109, 2) := by decide +kernel
theorem dX12_init_975 : decode cX12_init 975 = .ok (.bipush 111, 2) := by decide +kernel
theorem dX12_init_977 : decode cX12_init 977 = .ok (.bipush 115, 2) := by decide +kernel
theorem dX12_init_979 : decode cX12_init 979 = .ok (.bipush 116, 2) := by decide +kernel
theorem dX12_init_981 : decode cX12_init 981 = .ok (.iconst 0, 1) := by decide +kernel
theorem dX12_init_982 : decode cX12_init 982 = .ok (.iconst 0, 1) := by decide +kernel
theorem dX12_init_983 : decode cX12_init 983 = .ok (.invokestatic 252, 3) := by decide +kernel
theorem dX12_init_986 : decode cX12_init 986 = .ok (.lastore, 1) := by decide +kernel
theorem dX12_init_987 : decode cX12_init 987 = .ok (.aload_n 0, 1) := by decide +kernel
theorem dX12_init_988 : decode cX12_init 988 = .ok (.getfield 34, 3) := by decide +kernel
theorem dX12_init_991 : decode cX12_init 991 = .ok (.bipush 17, 2) := by decide +kernel
theorem dX12_init_993 : decode cX12_init 993 = .ok (.bipush 108, 2) := by decide +kernel
theorem dX12_init_995 : decode cX12_init 995 = .ok (.bipush 101, 2) := by decide +kernel
theorem dX12_init_997 : decode cX12_init 997 = .ok (.bipush 97, 2) := by decide +kernel
theorem dX12_init_999 : decode cX12_init 999 = .ok (.bipush 115, 2) := by decide +kernel
theorem dX12_init_1001 : decode cX12_init 1001 = .ok (.bipush 116, 2) := by decide +kernel
theorem dX12_init_1003 : decode cX12_init 1003 = .ok (.iconst 0, 1) := by decide +kernel
theorem dX12_init_1004 : decode cX12_init 1004 = .ok (.invokestatic 252, 3) := by decide +kernel
theorem dX12_init_1007 : decode cX12_init 1007 = .ok (.lastore, 1) := by decide +kernel
theorem dX12_init_1008 : decode cX12_init 1008 = .ok (.return_, 1) := by decide +kernel
set_option maxRecDepth 20000 in
def fX12_init_656  (h : MS) : Option (MS × Nat × Nat) :=
  oB (fX12_word 112 101 114 115 111 110) (fun r2 => oC (ix 0 (mlen 9)) (oL (mSB h 9 (Int32.toNatClampNeg 0) r2) (fun h4 => oB (fX12_word 119 111 114 100 0 0) (fun r6 => oC (ix 1 (mlen 9)) (oL (mSB h4 9 (Int32.toNatClampNeg 1) r6) (fun h8 => oB (fX12_word 115 117 109 0 0 0) (fun r10 => oC (ix 2 (mlen 9)) (oL (mSB h8 9 (Int32.toNatClampNeg 2) r10) (fun h12 => oB (fX12_word 108 97 119 0 0 0) (fun r14 => oC (ix 3 (mlen 9)) (oL (mSB h12 9 (Int32.toNatClampNeg 3) r14) (fun h16 => oB (fX12_word 114 97 110 107 0 0) (fun r18 => oC (ix 4 (mlen 9)) (oL (mSB h16 9 (Int32.toNatClampNeg 4) r18) (fun h20 => oB (fX12_word 102 114 111 109 0 0) (fun r22 => oC (ix 5 (mlen 9)) (oL (mSB h20 9 (Int32.toNatClampNeg 5) r22) (fun h24 => oB (fX12_word 117 110 116 105 108 0) (fun r26 => oC (ix 6 (mlen 9)) (oL (mSB h24 9 (Int32.toNatClampNeg 6) r26) (fun h28 => oB (fX12_word 101 110 100 0 0 0) (fun r30 => oC (ix 7 (mlen 9)) (oL (mSB h28 9 (Int32.toNatClampNeg 7) r30) (fun h32 => oB (fX12_word 111 118 101 114 0 0) (fun r34 => oC (ix 8 (mlen 9)) (oL (mSB h32 9 (Int32.toNatClampNeg 8) r34) (fun h36 => oB (fX12_word 114 117 108 101 0 0) (fun r38 => oC (ix 9 (mlen 9)) (oL (mSB h36 9 (Int32.toNatClampNeg 9) r38) (fun h40 => oB (fX12_word 98 97 114 0 0 0) (fun r42 => oC (ix 10 (mlen 9)) (oL (mSB h40 9 (Int32.toNatClampNeg 10) r42) (fun h44 => oB (fX12_word 116 97 107 101 0 0) (fun r46 => oC (ix 11 (mlen 9)) (oL (mSB h44 9 (Int32.toNatClampNeg 11) r46) (fun h48 => oB (fX12_word 115 97 109 101 0 0) (fun r50 => oC (ix 12 (mlen 9)) (oL (mSB h48 9 (Int32.toNatClampNeg 12) r50) (fun h52 => oB (fX12_word 111 116 104 101 114 0) (fun r54 => oC (ix 13 (mlen 9)) (oL (mSB h52 9 (Int32.toNatClampNeg 13) r54) (fun h56 => oB (fX12_word 105 102 0 0 0 0) (fun r58 => oC (ix 14 (mlen 9)) (oL (mSB h56 9 (Int32.toNatClampNeg 14) r58) (fun h60 => oB (fX12_word 110 111 116 0 0 0) (fun r62 => oC (ix 15 (mlen 9)) (oL (mSB h60 9 (Int32.toNatClampNeg 15) r62) (fun h64 => oB (fX12_word 109 111 115 116 0 0) (fun r66 => oC (ix 16 (mlen 9)) (oL (mSB h64 9 (Int32.toNatClampNeg 16) r66) (fun h68 => oB (fX12_word 108 101 97 115 116 0) (fun r70 => oC (ix 17 (mlen 9)) (oL (mSB h68 9 (Int32.toNatClampNeg 17) r70) (fun h72 => some (h72, 0, 0)))))))))))))))))))))))))))))))))))))))))))))))))))))))
set_option maxHeartbeats 8000000 in
set_option maxRecDepth 20000 in
theorem wfX12_init_656 {mc ms cells slots : Nat} {args : Array Value} (b : Bd p s m c cX12_init 1 RX12 D aC) (hlk : meth.locks = false) (hr : meth.sig.returnType = none) {Z : State → Prop} (zs : Z s) (zk : ZOK Z (Rg ad)) (hin2 : meth.name = "<init>") {hz : MS} {h : MS} {kz : Nat} {mz : Nat}  {H : Heap} {locs : List Loc} {ls : Array Slot} (hf : fX12_init_656 h = some (hz, kz, mz)) (hk : cells + kz ≤ mc) (hs : slots + mz ≤ ms) (hE : CE (EM D aC ad h) (Rg ad) s H locs) (hl : lv_has ls 1 [(0, .ref (ad 116))]) : W p l e (RM 3 67 mc ms) s m args below meth c H locs cells slots (MQ below (PQ (EM D aC ad hz) (Rg ad) none) args s mc ms (Rg ad)) (F0 m 656 ls []) := by
  unfold fX12_init_656 at hf
  refine lv_aload_n b.1 b.2.1 dX12_init_656 rfl (lv_at hl 0 rfl) ?_
  refine gM_34 b hE dX12_init_657 ?_
  refine lv_iconst (v := 0) b.1 b.2.1 dX12_init_660 (by decide) ?_
  refine lv_bipush (v := 112) b.1 b.2.1 dX12_init_661 (by decide) ?_
  refine lv_bipush (v := 101) b.1 b.2.1 dX12_init_663 (by decide) ?_
  refine lv_bipush (v := 114) b.1 b.2.1 dX12_init_665 (by decide) ?_
  refine lv_bipush (v := 115) b.1 b.2.1 dX12_init_667 (by decide) ?_
  refine lv_bipush (v := 111) b.1 b.2.1 dX12_init_669 (by decide) ?_
  refine lv_bipush (v := 110) b.1 b.2.1 dX12_init_671 (by decide) ?_
  obtain ⟨r2, hc1, hf⟩ := oB_s hf
  refine k_callS0 b zs zk hE (CX12_word l D aC zk hc1) mc_X12_word (in5 195 rfl rfl) mt_X12_word ini_RX12 ok_X12_word ⟨Nat.le_of_ble_eq_true rfl, Nat.le_of_ble_eq_true rfl⟩ rfl hl.1 rfl (k_room _ (by exact Nat.le_of_ble_eq_true rfl)) ⟨le_0 hk, le_0 hs⟩ dX12_init_673 (fun H locs hE => ?_)
  obtain ⟨g3, hf⟩ := oC_s hf
  obtain ⟨h4, eh4, hf⟩ := oL_s hf
  refine n_last b hE rfl rfl g3 eh4 dX12_init_676 (fun H locs hE => ?_)
  refine lv_aload_n b.1 b.2.1 dX12_init_677 rfl (lv_at hl 0 rfl) ?_
  refine gM_34 b hE dX12_init_678 ?_
  refine lv_iconst (v := 1) b.1 b.2.1 dX12_init_681 (by decide) ?_
  refine lv_bipush (v := 119) b.1 b.2.1 dX12_init_682 (by decide) ?_
  refine lv_bipush (v := 111) b.1 b.2.1 dX12_init_684 (by decide) ?_
  refine lv_bipush (v := 114) b.1 b.2.1 dX12_init_686 (by decide) ?_
  refine lv_bipush (v := 100) b.1 b.2.1 dX12_init_688 (by decide) ?_
  refine lv_iconst (v := 0) b.1 b.2.1 dX12_init_690 (by decide) ?_
  refine lv_iconst (v := 0) b.1 b.2.1 dX12_init_691 (by decide) ?_
  obtain ⟨r6, hc5, hf⟩ := oB_s hf
  refine k_callS0 b zs zk hE (CX12_word l D aC zk hc5) mc_X12_word (in5 195 rfl rfl) mt_X12_word ini_RX12 ok_X12_word ⟨Nat.le_of_ble_eq_true rfl, Nat.le_of_ble_eq_true rfl⟩ rfl hl.1 rfl (k_room _ (by exact Nat.le_of_ble_eq_true rfl)) ⟨le_0 hk, le_0 hs⟩ dX12_init_692 (fun H locs hE => ?_)
  obtain ⟨g7, hf⟩ := oC_s hf
  obtain ⟨h8, eh8, hf⟩ := oL_s hf
  refine n_last b hE rfl rfl g7 eh8 dX12_init_695 (fun H locs hE => ?_)
  refine lv_aload_n b.1 b.2.1 dX12_init_696 rfl (lv_at hl 0 rfl) ?_
  refine gM_34 b hE dX12_init_697 ?_
  refine lv_iconst (v := 2) b.1 b.2.1 dX12_init_700 (by decide) ?_
  refine lv_bipush (v := 115) b.1 b.2.1 dX12_init_701 (by decide) ?_
  refine lv_bipush (v := 117) b.1 b.2.1 dX12_init_703 (by decide) ?_
  refine lv_bipush (v := 109) b.1 b.2.1 dX12_init_705 (by decide) ?_
  refine lv_iconst (v := 0) b.1 b.2.1 dX12_init_707 (by decide) ?_
  refine lv_iconst (v := 0) b.1 b.2.1 dX12_init_708 (by decide) ?_
  refine lv_iconst (v := 0) b.1 b.2.1 dX12_init_709 (by decide) ?_
  obtain ⟨r10, hc9, hf⟩ := oB_s hf
  refine k_callS0 b zs zk hE (CX12_word l D aC zk hc9) mc_X12_word (in5 195 rfl rfl) mt_X12_word ini_RX12 ok_X12_word ⟨Nat.le_of_ble_eq_true rfl, Nat.le_of_ble_eq_true rfl⟩ rfl hl.1 rfl (k_room _ (by exact Nat.le_of_ble_eq_true rfl)) ⟨le_0 hk, le_0 hs⟩ dX12_init_710 (fun H locs hE => ?_)
  obtain ⟨g11, hf⟩ := oC_s hf
  obtain ⟨h12, eh12, hf⟩ := oL_s hf
  refine n_last b hE rfl rfl g11 eh12 dX12_init_713 (fun H locs hE => ?_)
  refine lv_aload_n b.1 b.2.1 dX12_init_714 rfl (lv_at hl 0 rfl) ?_
  refine gM_34 b hE dX12_init_715 ?_
  refine lv_iconst (v := 3) b.1 b.2.1 dX12_init_718 (by decide) ?_
  refine lv_bipush (v := 108) b.1 b.2.1 dX12_init_719 (by decide) ?_
  refine lv_bipush (v := 97) b.1 b.2.1 dX12_init_721 (by decide) ?_
  refine lv_bipush (v := 119) b.1 b.2.1 dX12_init_723 (by decide) ?_
  refine lv_iconst (v := 0) b.1 b.2.1 dX12_init_725 (by decide) ?_
  refine lv_iconst (v := 0) b.1 b.2.1 dX12_init_726 (by decide) ?_
  refine lv_iconst (v := 0) b.1 b.2.1 dX12_init_727 (by decide) ?_
  obtain ⟨r14, hc13, hf⟩ := oB_s hf
  refine k_callS0 b zs zk hE (CX12_word l D aC zk hc13) mc_X12_word (in5 195 rfl rfl) mt_X12_word ini_RX12 ok_X12_word ⟨Nat.le_of_ble_eq_true rfl, Nat.le_of_ble_eq_true rfl⟩ rfl hl.1 rfl (k_room _ (by exact Nat.le_of_ble_eq_true rfl)) ⟨le_0 hk, le_0 hs⟩ dX12_init_728 (fun H locs hE => ?_)
  obtain ⟨g15, hf⟩ := oC_s hf
  obtain ⟨h16, eh16, hf⟩ := oL_s hf
  refine n_last b hE rfl rfl g15 eh16 dX12_init_731 (fun H locs hE => ?_)
  refine lv_aload_n b.1 b.2.1 dX12_init_732 rfl (lv_at hl 0 rfl) ?_
  refine gM_34 b hE dX12_init_733 ?_
  refine lv_iconst (v := 4) b.1 b.2.1 dX12_init_736 (by decide) ?_
  refine lv_bipush (v := 114) b.1 b.2.1 dX12_init_737 (by decide) ?_
  refine lv_bipush (v := 97) b.1 b.2.1 dX12_init_739 (by decide) ?_
  refine lv_bipush (v := 110) b.1 b.2.1 dX12_init_741 (by decide) ?_
  refine lv_bipush (v := 107) b.1 b.2.1 dX12_init_743 (by decide) ?_
  refine lv_iconst (v := 0) b.1 b.2.1 dX12_init_745 (by decide) ?_
  refine lv_iconst (v := 0) b.1 b.2.1 dX12_init_746 (by decide) ?_
  obtain ⟨r18, hc17, hf⟩ := oB_s hf
  refine k_callS0 b zs zk hE (CX12_word l D aC zk hc17) mc_X12_word (in5 195 rfl rfl) mt_X12_word ini_RX12 ok_X12_word ⟨Nat.le_of_ble_eq_true rfl, Nat.le_of_ble_eq_true rfl⟩ rfl hl.1 rfl (k_room _ (by exact Nat.le_of_ble_eq_true rfl)) ⟨le_0 hk, le_0 hs⟩ dX12_init_747 (fun H locs hE => ?_)
  obtain ⟨g19, hf⟩ := oC_s hf
  obtain ⟨h20, eh20, hf⟩ := oL_s hf
  refine n_last b hE rfl rfl g19 eh20 dX12_init_750 (fun H locs hE => ?_)
  refine lv_aload_n b.1 b.2.1 dX12_init_751 rfl (lv_at hl 0 rfl) ?_
  refine gM_34 b hE dX12_init_752 ?_
  refine lv_iconst (v := 5) b.1 b.2.1 dX12_init_755 (by decide) ?_
  refine lv_bipush (v := 102) b.1 b.2.1 dX12_init_756 (by decide) ?_
  refine lv_bipush (v := 114) b.1 b.2.1 dX12_init_758 (by decide) ?_
  refine lv_bipush (v := 111) b.1 b.2.1 dX12_init_760 (by decide) ?_
  refine lv_bipush (v := 109) b.1 b.2.1 dX12_init_762 (by decide) ?_
  refine lv_iconst (v := 0) b.1 b.2.1 dX12_init_764 (by decide) ?_
  refine lv_iconst (v := 0) b.1 b.2.1 dX12_init_765 (by decide) ?_
  obtain ⟨r22, hc21, hf⟩ := oB_s hf
  refine k_callS0 b zs zk hE (CX12_word l D aC zk hc21) mc_X12_word (in5 195 rfl rfl) mt_X12_word ini_RX12 ok_X12_word ⟨Nat.le_of_ble_eq_true rfl, Nat.le_of_ble_eq_true rfl⟩ rfl hl.1 rfl (k_room _ (by exact Nat.le_of_ble_eq_true rfl)) ⟨le_0 hk, le_0 hs⟩ dX12_init_766 (fun H locs hE => ?_)
  obtain ⟨g23, hf⟩ := oC_s hf
  obtain ⟨h24, eh24, hf⟩ := oL_s hf
  refine n_last b hE rfl rfl g23 eh24 dX12_init_769 (fun H locs hE => ?_)
  refine lv_aload_n b.1 b.2.1 dX12_init_770 rfl (lv_at hl 0 rfl) ?_
  refine gM_34 b hE dX12_init_771 ?_
  refine lv_bipush (v := 6) b.1 b.2.1 dX12_init_774 (by decide) ?_
  refine lv_bipush (v := 117) b.1 b.2.1 dX12_init_776 (by decide) ?_
  refine lv_bipush (v := 110) b.1 b.2.1 dX12_init_778 (by decide) ?_
  refine lv_bipush (v := 116) b.1 b.2.1 dX12_init_780 (by decide) ?_
  refine lv_bipush (v := 105) b.1 b.2.1 dX12_init_782 (by decide) ?_
  refine lv_bipush (v := 108) b.1 b.2.1 dX12_init_784 (by decide) ?_
  refine lv_iconst (v := 0) b.1 b.2.1 dX12_init_786 (by decide) ?_
  obtain ⟨r26, hc25, hf⟩ := oB_s hf
  refine k_callS0 b zs zk hE (CX12_word l D aC zk hc25) mc_X12_word (in5 195 rfl rfl) mt_X12_word ini_RX12 ok_X12_word ⟨Nat.le_of_ble_eq_true rfl, Nat.le_of_ble_eq_true rfl⟩ rfl hl.1 rfl (k_room _ (by exact Nat.le_of_ble_eq_true rfl)) ⟨le_0 hk, le_0 hs⟩ dX12_init_787 (fun H locs hE => ?_)
  obtain ⟨g27, hf⟩ := oC_s hf
  obtain ⟨h28, eh28, hf⟩ := oL_s hf
  refine n_last b hE rfl rfl g27 eh28 dX12_init_790 (fun H locs hE => ?_)
  refine lv_aload_n b.1 b.2.1 dX12_init_791 rfl (lv_at hl 0 rfl) ?_
  refine gM_34 b hE dX12_init_792 ?_
  refine lv_bipush (v := 7) b.1 b.2.1 dX12_init_795 (by decide) ?_
  refine lv_bipush (v := 101) b.1 b.2.1 dX12_init_797 (by decide) ?_
  refine lv_bipush (v := 110) b.1 b.2.1 dX12_init_799 (by decide) ?_
  refine lv_bipush (v := 100) b.1 b.2.1 dX12_init_801 (by decide) ?_
  refine lv_iconst (v := 0) b.1 b.2.1 dX12_init_803 (by decide) ?_
  refine lv_iconst (v := 0) b.1 b.2.1 dX12_init_804 (by decide) ?_
  refine lv_iconst (v := 0) b.1 b.2.1 dX12_init_805 (by decide) ?_
  obtain ⟨r30, hc29, hf⟩ := oB_s hf
  refine k_callS0 b zs zk hE (CX12_word l D aC zk hc29) mc_X12_word (in5 195 rfl rfl) mt_X12_word ini_RX12 ok_X12_word ⟨Nat.le_of_ble_eq_true rfl, Nat.le_of_ble_eq_true rfl⟩ rfl hl.1 rfl (k_room _ (by exact Nat.le_of_ble_eq_true rfl)) ⟨le_0 hk, le_0 hs⟩ dX12_init_806 (fun H locs hE => ?_)
  obtain ⟨g31, hf⟩ := oC_s hf
  obtain ⟨h32, eh32, hf⟩ := oL_s hf
  refine n_last b hE rfl rfl g31 eh32 dX12_init_809 (fun H locs hE => ?_)
  refine lv_aload_n b.1 b.2.1 dX12_init_810 rfl (lv_at hl 0 rfl) ?_
  refine gM_34 b hE dX12_init_811 ?_
  refine lv_bipush (v := 8) b.1 b.2.1 dX12_init_814 (by decide) ?_
  refine lv_bipush (v := 111) b.1 b.2.1 dX12_init_816 (by decide) ?_
  refine lv_bipush (v := 118) b.1 b.2.1 dX12_init_818 (by decide) ?_
  refine lv_bipush (v := 101) b.1 b.2.1 dX12_init_820 (by decide) ?_
  refine lv_bipush (v := 114) b.1 b.2.1 dX12_init_822 (by decide) ?_
  refine lv_iconst (v := 0) b.1 b.2.1 dX12_init_824 (by decide) ?_
  refine lv_iconst (v := 0) b.1 b.2.1 dX12_init_825 (by decide) ?_
  obtain ⟨r34, hc33, hf⟩ := oB_s hf
  refine k_callS0 b zs zk hE (CX12_word l D aC zk hc33) mc_X12_word (in5 195 rfl rfl) mt_X12_word ini_RX12 ok_X12_word ⟨Nat.le_of_ble_eq_true rfl, Nat.le_of_ble_eq_true rfl⟩ rfl hl.1 rfl (k_room _ (by exact Nat.le_of_ble_eq_true rfl)) ⟨le_0 hk, le_0 hs⟩ dX12_init_826 (fun H locs hE => ?_)
  obtain ⟨g35, hf⟩ := oC_s hf
  obtain ⟨h36, eh36, hf⟩ := oL_s hf
  refine n_last b hE rfl rfl g35 eh36 dX12_init_829 (fun H locs hE => ?_)
  refine lv_aload_n b.1 b.2.1 dX12_init_830 rfl (lv_at hl 0 rfl) ?_
  refine gM_34 b hE dX12_init_831 ?_
  refine lv_bipush (v := 9) b.1 b.2.1 dX12_init_834 (by decide) ?_
  refine lv_bipush (v := 114) b.1 b.2.1 dX12_init_836 (by decide) ?_
  refine lv_bipush (v := 117) b.1 b.2.1 dX12_init_838 (by decide) ?_
  refine lv_bipush (v := 108) b.1 b.2.1 dX12_init_840 (by decide) ?_
  refine lv_bipush (v := 101) b.1 b.2.1 dX12_init_842 (by decide) ?_
  refine lv_iconst (v := 0) b.1 b.2.1 dX12_init_844 (by decide) ?_
  refine lv_iconst (v := 0) b.1 b.2.1 dX12_init_845 (by decide) ?_
  obtain ⟨r38, hc37, hf⟩ := oB_s hf
  refine k_callS0 b zs zk hE (CX12_word l D aC zk hc37) mc_X12_word (in5 195 rfl rfl) mt_X12_word ini_RX12 ok_X12_word ⟨Nat.le_of_ble_eq_true rfl, Nat.le_of_ble_eq_true rfl⟩ rfl hl.1 rfl (k_room _ (by exact Nat.le_of_ble_eq_true rfl)) ⟨le_0 hk, le_0 hs⟩ dX12_init_846 (fun H locs hE => ?_)
  obtain ⟨g39, hf⟩ := oC_s hf
  obtain ⟨h40, eh40, hf⟩ := oL_s hf
  refine n_last b hE rfl rfl g39 eh40 dX12_init_849 (fun H locs hE => ?_)
  refine lv_aload_n b.1 b.2.1 dX12_init_850 rfl (lv_at hl 0 rfl) ?_
  refine gM_34 b hE dX12_init_851 ?_
  refine lv_bipush (v := 10) b.1 b.2.1 dX12_init_854 (by decide) ?_
  refine lv_bipush (v := 98) b.1 b.2.1 dX12_init_856 (by decide) ?_
  refine lv_bipush (v := 97) b.1 b.2.1 dX12_init_858 (by decide) ?_
  refine lv_bipush (v := 114) b.1 b.2.1 dX12_init_860 (by decide) ?_
  refine lv_iconst (v := 0) b.1 b.2.1 dX12_init_862 (by decide) ?_
  refine lv_iconst (v := 0) b.1 b.2.1 dX12_init_863 (by decide) ?_
  refine lv_iconst (v := 0) b.1 b.2.1 dX12_init_864 (by decide) ?_
  obtain ⟨r42, hc41, hf⟩ := oB_s hf
  refine k_callS0 b zs zk hE (CX12_word l D aC zk hc41) mc_X12_word (in5 195 rfl rfl) mt_X12_word ini_RX12 ok_X12_word ⟨Nat.le_of_ble_eq_true rfl, Nat.le_of_ble_eq_true rfl⟩ rfl hl.1 rfl (k_room _ (by exact Nat.le_of_ble_eq_true rfl)) ⟨le_0 hk, le_0 hs⟩ dX12_init_865 (fun H locs hE => ?_)
  obtain ⟨g43, hf⟩ := oC_s hf
  obtain ⟨h44, eh44, hf⟩ := oL_s hf
  refine n_last b hE rfl rfl g43 eh44 dX12_init_868 (fun H locs hE => ?_)
  refine lv_aload_n b.1 b.2.1 dX12_init_869 rfl (lv_at hl 0 rfl) ?_
  refine gM_34 b hE dX12_init_870 ?_
  refine lv_bipush (v := 11) b.1 b.2.1 dX12_init_873 (by decide) ?_
  refine lv_bipush (v := 116) b.1 b.2.1 dX12_init_875 (by decide) ?_
  refine lv_bipush (v := 97) b.1 b.2.1 dX12_init_877 (by decide) ?_
  refine lv_bipush (v := 107) b.1 b.2.1 dX12_init_879 (by decide) ?_
  refine lv_bipush (v := 101) b.1 b.2.1 dX12_init_881 (by decide) ?_
  refine lv_iconst (v := 0) b.1 b.2.1 dX12_init_883 (by decide) ?_
  refine lv_iconst (v := 0) b.1 b.2.1 dX12_init_884 (by decide) ?_
  obtain ⟨r46, hc45, hf⟩ := oB_s hf
  refine k_callS0 b zs zk hE (CX12_word l D aC zk hc45) mc_X12_word (in5 195 rfl rfl) mt_X12_word ini_RX12 ok_X12_word ⟨Nat.le_of_ble_eq_true rfl, Nat.le_of_ble_eq_true rfl⟩ rfl hl.1 rfl (k_room _ (by exact Nat.le_of_ble_eq_true rfl)) ⟨le_0 hk, le_0 hs⟩ dX12_init_885 (fun H locs hE => ?_)
  obtain ⟨g47, hf⟩ := oC_s hf
  obtain ⟨h48, eh48, hf⟩ := oL_s hf
  refine n_last b hE rfl rfl g47 eh48 dX12_init_888 (fun H locs hE => ?_)
  refine lv_aload_n b.1 b.2.1 dX12_init_889 rfl (lv_at hl 0 rfl) ?_
  refine gM_34 b hE dX12_init_890 ?_
  refine lv_bipush (v := 12) b.1 b.2.1 dX12_init_893 (by decide) ?_
  refine lv_bipush (v := 115) b.1 b.2.1 dX12_init_895 (by decide) ?_
  refine lv_bipush (v := 97) b.1 b.2.1 dX12_init_897 (by decide) ?_
  refine lv_bipush (v := 109) b.1 b.2.1 dX12_init_899 (by decide) ?_
  refine lv_bipush (v := 101) b.1 b.2.1 dX12_init_901 (by decide) ?_
  refine lv_iconst (v := 0) b.1 b.2.1 dX12_init_903 (by decide) ?_
  refine lv_iconst (v := 0) b.1 b.2.1 dX12_init_904 (by decide) ?_
  obtain ⟨r50, hc49, hf⟩ := oB_s hf
  refine k_callS0 b zs zk hE (CX12_word l D aC zk hc49) mc_X12_word (in5 195 rfl rfl) mt_X12_word ini_RX12 ok_X12_word ⟨Nat.le_of_ble_eq_true rfl, Nat.le_of_ble_eq_true rfl⟩ rfl hl.1 rfl (k_room _ (by exact Nat.le_of_ble_eq_true rfl)) ⟨le_0 hk, le_0 hs⟩ dX12_init_905 (fun H locs hE => ?_)
  obtain ⟨g51, hf⟩ := oC_s hf
  obtain ⟨h52, eh52, hf⟩ := oL_s hf
  refine n_last b hE rfl rfl g51 eh52 dX12_init_908 (fun H locs hE => ?_)
  refine lv_aload_n b.1 b.2.1 dX12_init_909 rfl (lv_at hl 0 rfl) ?_
  refine gM_34 b hE dX12_init_910 ?_
  refine lv_bipush (v := 13) b.1 b.2.1 dX12_init_913 (by decide) ?_
  refine lv_bipush (v := 111) b.1 b.2.1 dX12_init_915 (by decide) ?_
  refine lv_bipush (v := 116) b.1 b.2.1 dX12_init_917 (by decide) ?_
  refine lv_bipush (v := 104) b.1 b.2.1 dX12_init_919 (by decide) ?_
  refine lv_bipush (v := 101) b.1 b.2.1 dX12_init_921 (by decide) ?_
  refine lv_bipush (v := 114) b.1 b.2.1 dX12_init_923 (by decide) ?_
  refine lv_iconst (v := 0) b.1 b.2.1 dX12_init_925 (by decide) ?_
  obtain ⟨r54, hc53, hf⟩ := oB_s hf
  refine k_callS0 b zs zk hE (CX12_word l D aC zk hc53) mc_X12_word (in5 195 rfl rfl) mt_X12_word ini_RX12 ok_X12_word ⟨Nat.le_of_ble_eq_true rfl, Nat.le_of_ble_eq_true rfl⟩ rfl hl.1 rfl (k_room _ (by exact Nat.le_of_ble_eq_true rfl)) ⟨le_0 hk, le_0 hs⟩ dX12_init_926 (fun H locs hE => ?_)
  obtain ⟨g55, hf⟩ := oC_s hf
  obtain ⟨h56, eh56, hf⟩ := oL_s hf
  refine n_last b hE rfl rfl g55 eh56 dX12_init_929 (fun H locs hE => ?_)
  refine lv_aload_n b.1 b.2.1 dX12_init_930 rfl (lv_at hl 0 rfl) ?_
  refine gM_34 b hE dX12_init_931 ?_
  refine lv_bipush (v := 14) b.1 b.2.1 dX12_init_934 (by decide) ?_
  refine lv_bipush (v := 105) b.1 b.2.1 dX12_init_936 (by decide) ?_
  refine lv_bipush (v := 102) b.1 b.2.1 dX12_init_938 (by decide) ?_
  refine lv_iconst (v := 0) b.1 b.2.1 dX12_init_940 (by decide) ?_
  refine lv_iconst (v := 0) b.1 b.2.1 dX12_init_941 (by decide) ?_
  refine lv_iconst (v := 0) b.1 b.2.1 dX12_init_942 (by decide) ?_
  refine lv_iconst (v := 0) b.1 b.2.1 dX12_init_943 (by decide) ?_
  obtain ⟨r58, hc57, hf⟩ := oB_s hf
  refine k_callS0 b zs zk hE (CX12_word l D aC zk hc57) mc_X12_word (in5 195 rfl rfl) mt_X12_word ini_RX12 ok_X12_word ⟨Nat.le_of_ble_eq_true rfl, Nat.le_of_ble_eq_true rfl⟩ rfl hl.1 rfl (k_room _ (by exact Nat.le_of_ble_eq_true rfl)) ⟨le_0 hk, le_0 hs⟩ dX12_init_944 (fun H locs hE => ?_)
  obtain ⟨g59, hf⟩ := oC_s hf
  obtain ⟨h60, eh60, hf⟩ := oL_s hf
  refine n_last b hE rfl rfl g59 eh60 dX12_init_947 (fun H locs hE => ?_)
  refine lv_aload_n b.1 b.2.1 dX12_init_948 rfl (lv_at hl 0 rfl) ?_
  refine gM_34 b hE dX12_init_949 ?_
  refine lv_bipush (v := 15) b.1 b.2.1 dX12_init_952 (by decide) ?_
  refine lv_bipush (v := 110) b.1 b.2.1 dX12_init_954 (by decide) ?_
  refine lv_bipush (v := 111) b.1 b.2.1 dX12_init_956 (by decide) ?_
  refine lv_bipush (v := 116) b.1 b.2.1 dX12_init_958 (by decide) ?_
  refine lv_iconst (v := 0) b.1 b.2.1 dX12_init_960 (by decide) ?_
  refine lv_iconst (v := 0) b.1 b.2.1 dX12_init_961 (by decide) ?_
  refine lv_iconst (v := 0) b.1 b.2.1 dX12_init_962 (by decide) ?_
  obtain ⟨r62, hc61, hf⟩ := oB_s hf
  refine k_callS0 b zs zk hE (CX12_word l D aC zk hc61) mc_X12_word (in5 195 rfl rfl) mt_X12_word ini_RX12 ok_X12_word ⟨Nat.le_of_ble_eq_true rfl, Nat.le_of_ble_eq_true rfl⟩ rfl hl.1 rfl (k_room _ (by exact Nat.le_of_ble_eq_true rfl)) ⟨le_0 hk, le_0 hs⟩ dX12_init_963 (fun H locs hE => ?_)
  obtain ⟨g63, hf⟩ := oC_s hf
  obtain ⟨h64, eh64, hf⟩ := oL_s hf
  refine n_last b hE rfl rfl g63 eh64 dX12_init_966 (fun H locs hE => ?_)
  refine lv_aload_n b.1 b.2.1 dX12_init_967 rfl (lv_at hl 0 rfl) ?_
  refine gM_34 b hE dX12_init_968 ?_
  refine lv_bipush (v := 16) b.1 b.2.1 dX12_init_971 (by decide) ?_
  refine lv_bipush (v := 109) b.1 b.2.1 dX12_init_973 (by decide) ?_
  refine lv_bipush (v := 111) b.1 b.2.1 dX12_init_975 (by decide) ?_
  refine lv_bipush (v := 115) b.1 b.2.1 dX12_init_977 (by decide) ?_
  refine lv_bipush (v := 116) b.1 b.2.1 dX12_init_979 (by decide) ?_
  refine lv_iconst (v := 0) b.1 b.2.1 dX12_init_981 (by decide) ?_
  refine lv_iconst (v := 0) b.1 b.2.1 dX12_init_982 (by decide) ?_
  obtain ⟨r66, hc65, hf⟩ := oB_s hf
  refine k_callS0 b zs zk hE (CX12_word l D aC zk hc65) mc_X12_word (in5 195 rfl rfl) mt_X12_word ini_RX12 ok_X12_word ⟨Nat.le_of_ble_eq_true rfl, Nat.le_of_ble_eq_true rfl⟩ rfl hl.1 rfl (k_room _ (by exact Nat.le_of_ble_eq_true rfl)) ⟨le_0 hk, le_0 hs⟩ dX12_init_983 (fun H locs hE => ?_)
  obtain ⟨g67, hf⟩ := oC_s hf
  obtain ⟨h68, eh68, hf⟩ := oL_s hf
  refine n_last b hE rfl rfl g67 eh68 dX12_init_986 (fun H locs hE => ?_)
  refine lv_aload_n b.1 b.2.1 dX12_init_987 rfl (lv_at hl 0 rfl) ?_
  refine gM_34 b hE dX12_init_988 ?_
  refine lv_bipush (v := 17) b.1 b.2.1 dX12_init_991 (by decide) ?_
  refine lv_bipush (v := 108) b.1 b.2.1 dX12_init_993 (by decide) ?_
  refine lv_bipush (v := 101) b.1 b.2.1 dX12_init_995 (by decide) ?_
  refine lv_bipush (v := 97) b.1 b.2.1 dX12_init_997 (by decide) ?_
  refine lv_bipush (v := 115) b.1 b.2.1 dX12_init_999 (by decide) ?_
  refine lv_bipush (v := 116) b.1 b.2.1 dX12_init_1001 (by decide) ?_
  refine lv_iconst (v := 0) b.1 b.2.1 dX12_init_1003 (by decide) ?_
  obtain ⟨r70, hc69, hf⟩ := oB_s hf
  refine k_callS0 b zs zk hE (CX12_word l D aC zk hc69) mc_X12_word (in5 195 rfl rfl) mt_X12_word ini_RX12 ok_X12_word ⟨Nat.le_of_ble_eq_true rfl, Nat.le_of_ble_eq_true rfl⟩ rfl hl.1 rfl (k_room _ (by exact Nat.le_of_ble_eq_true rfl)) ⟨le_0 hk, le_0 hs⟩ dX12_init_1004 (fun H locs hE => ?_)
  obtain ⟨g71, hf⟩ := oC_s hf
  obtain ⟨h72, eh72, hf⟩ := oL_s hf
  refine n_last b hE rfl rfl g71 eh72 dX12_init_1007 (fun H locs hE => ?_)
  cases hf
  exact k_vret b hlk hr hE (le_c hk) (le_c hs) dX12_init_1008
def fX12_init : Option (MS × Nat × Nat) := fX12_init_656 (mSI mz 17 (-1))
set_option maxHeartbeats 8000000 in
set_option maxRecDepth 20000 in
theorem CX12_init (l : Launch) (D : va_G) (aC : Nat → ClassId) (ad : Nat → Nat) {Z : State → Prop} (zk : ZOK Z (Rg ad)) {base : Nat} (had : ∀ k, mk k = 2 → ad k = base + mcnt k) (h117 : ad 117 = base + mcnt 116) {hz : MS} (hf : fX12_init = some (hz, 0, 0)) : CM l D aC Z yX12_init cX12_init 1 none 3 67 77 160182 (EMc D aC ad base mz 0 0) [.ref (ad 116)] (EM D aC ad hz) none (Rg ad) := by
  refine CM.of rfl ?_
  intro p e s m below meth c b hr hlk hin2 zs hE
  have hu : MZ mz := ⟨fun _ => rfl, fun _ => rfl⟩
  refine k_ent (Nat.le_of_ble_eq_true rfl) (fun ls hl => ?_)
  refine lv_aload_n b.1 b.2.1 dX12_init_0 rfl (lv_at hl 0 rfl) ?_
  refine k_objInit b (in5 193 rfl rfl) objI objC hl.1 ⟨Nat.le_of_ble_eq_true rfl, Nat.le_of_ble_eq_true rfl⟩ (Nat.le_of_ble_eq_true rfl) dX12_init_1 ?_
  refine lv_aload_n b.1 b.2.1 dX12_init_4 rfl (lv_at hl 0 rfl) ?_
  refine lv_sipush (v := 4000) b.1 b.2.1 dX12_init_5 (by decide) ?_
  refine c_newa0 b had hu hE 1 rfl rfl (by decide) (by decide) (by decide) (by decide) (by decide) (by decide) (by decide) (Nat.le_of_ble_eq_true rfl) (Nat.le_of_ble_eq_true rfl) dX12_init_8 (fun H hE => ?_)
  refine W.widen (k := 1) (n := 4000) (Nat.le_of_ble_eq_true rfl) (Nat.le_of_ble_eq_true rfl) ?_
  refine c_putF b hin2 hE 1 rfl (in5 205 rfl rfl) rfl rfl rfl rfl (by decide) (by decide) dX12_init_10 (fun H locs hE => ?_)
  refine lv_aload_n b.1 b.2.1 dX12_init_13 rfl (lv_at hl 0 rfl) ?_
  refine lv_sipush (v := 4000) b.1 b.2.1 dX12_init_14 (by decide) ?_
  refine c_newa0 b had hu hE 3 rfl rfl (by decide) (by decide) (by decide) (by decide) (by decide) (by decide) (by decide) (Nat.le_of_ble_eq_true rfl) (Nat.le_of_ble_eq_true rfl) dX12_init_17 (fun H hE => ?_)
  refine W.widen (k := 2) (n := 8000) (Nat.le_of_ble_eq_true rfl) (Nat.le_of_ble_eq_true rfl) ?_
  refine c_putF b hin2 hE 3 rfl (in5 207 rfl rfl) rfl rfl rfl rfl (by decide) (by decide) dX12_init_19 (fun H locs hE => ?_)
  refine lv_aload_n b.1 b.2.1 dX12_init_22 rfl (lv_at hl 0 rfl) ?_
  refine lv_sipush (v := 1203) b.1 b.2.1 dX12_init_23 (by decide) ?_
  refine c_newa1 b had hu hE 5 rfl rfl (by decide) (by decide) (by decide) (by decide) (by decide) (by decide) (by decide) (Nat.le_of_ble_eq_true rfl) (Nat.le_of_ble_eq_true rfl) dX12_init_26 (fun H hE => ?_)
  refine W.widen (k := 3) (n := 9203) (Nat.le_of_ble_eq_true rfl) (Nat.le_of_ble_eq_true rfl) ?_
  refine c_putF b hin2 hE 5 rfl (in5 209 rfl rfl) rfl rfl rfl rfl (by decide) (by decide) dX12_init_28 (fun H locs hE => ?_)
  refine lv_aload_n b.1 b.2.1 dX12_init_31 rfl (lv_at hl 0 rfl) ?_
  refine lv_sipush (v := 1203) b.1 b.2.1 dX12_init_32 (by decide) ?_
  refine c_newa1 b had hu hE 6 rfl rfl (by decide) (by decide) (by decide) (by decide) (by decide) (by decide) (by decide) (Nat.le_of_ble_eq_true rfl) (Nat.le_of_ble_eq_true rfl) dX12_init_35 (fun H hE => ?_)
  refine W.widen (k := 4) (n := 10406) (Nat.le_of_ble_eq_true rfl) (Nat.le_of_ble_eq_true rfl) ?_
  refine c_putF b hin2 hE 6 rfl (in5 210 rfl rfl) rfl rfl rfl rfl (by decide) (by decide) dX12_init_37 (fun H locs hE => ?_)
  refine lv_aload_n b.1 b.2.1 dX12_init_40 rfl (lv_at hl 0 rfl) ?_
  refine lv_sipush (v := 1203) b.1 b.2.1 dX12_init_41 (by decide) ?_
  refine c_newa1 b had hu hE 7 rfl rfl (by decide) (by decide) (by decide) (by decide) (by decide) (by decide) (by decide) (Nat.le_of_ble_eq_true rfl) (Nat.le_of_ble_eq_true rfl) dX12_init_44 (fun H hE => ?_)
  refine W.widen (k := 5) (n := 11609) (Nat.le_of_ble_eq_true rfl) (Nat.le_of_ble_eq_true rfl) ?_
  refine c_putF b hin2 hE 7 rfl (in5 211 rfl rfl) rfl rfl rfl rfl (by decide) (by decide) dX12_init_46 (fun H locs hE => ?_)
  refine lv_aload_n b.1 b.2.1 dX12_init_49 rfl (lv_at hl 0 rfl) ?_
  refine lv_sipush (v := 1203) b.1 b.2.1 dX12_init_50 (by decide) ?_
  refine c_newa2 b had hu hE 8 rfl rfl (by decide) (by decide) (by decide) (by decide) (by decide) (by decide) (by decide) (Nat.le_of_ble_eq_true rfl) (Nat.le_of_ble_eq_true rfl) dX12_init_53 (fun H hE => ?_)
  refine W.widen (k := 6) (n := 12812) (Nat.le_of_ble_eq_true rfl) (Nat.le_of_ble_eq_true rfl) ?_
  refine c_putF b hin2 hE 8 rfl (in5 212 rfl rfl) rfl rfl rfl rfl (by decide) (by decide) dX12_init_55 (fun H locs hE => ?_)
  refine lv_aload_n b.1 b.2.1 dX12_init_58 rfl (lv_at hl 0 rfl) ?_
  refine lv_bipush (v := 18) b.1 b.2.1 dX12_init_59 (by decide) ?_
  refine c_newa2 b had hu hE 9 rfl rfl (by decide) (by decide) (by decide) (by decide) (by decide) (by decide) (by decide) (Nat.le_of_ble_eq_true rfl) (Nat.le_of_ble_eq_true rfl) dX12_init_61 (fun H hE => ?_)
  refine W.widen (k := 7) (n := 12830) (Nat.le_of_ble_eq_true rfl) (Nat.le_of_ble_eq_true rfl) ?_
  refine c_putF b hin2 hE 9 rfl (in5 213 rfl rfl) rfl rfl rfl rfl (by decide) (by decide) dX12_init_63 (fun H locs hE => ?_)
  refine lv_aload_n b.1 b.2.1 dX12_init_66 rfl (lv_at hl 0 rfl) ?_
  refine lv_iconst (v := (-1)) b.1 b.2.1 dX12_init_67 (by decide) ?_
  refine c_putI b hE 17 (by decide) (in5 221 rfl rfl) rfl rfl rfl rfl dX12_init_68 (fun H locs hE => ?_)
  have hu : MZ (mSI mz 17 (-1)) := ⟨fun _ => rfl, fun _ => rfl⟩
  refine lv_aload_n b.1 b.2.1 dX12_init_71 rfl (lv_at hl 0 rfl) ?_
  refine lv_iconst (v := 5) b.1 b.2.1 dX12_init_72 (by decide) ?_
  refine c_newa2 b had hu hE 25 rfl rfl (by decide) (by decide) (by decide) (by decide) (by decide) (by decide) (by decide) (Nat.le_of_ble_eq_true rfl) (Nat.le_of_ble_eq_true rfl) dX12_init_73 (fun H hE => ?_)
  refine W.widen (k := 8) (n := 12835) (Nat.le_of_ble_eq_true rfl) (Nat.le_of_ble_eq_true rfl) ?_
  refine c_putF b hin2 hE 25 rfl (in5 229 rfl rfl) rfl rfl rfl rfl (by decide) (by decide) dX12_init_75 (fun H locs hE => ?_)
  refine lv_aload_n b.1 b.2.1 dX12_init_78 rfl (lv_at hl 0 rfl) ?_
  refine lv_bipush (v := 20) b.1 b.2.1 dX12_init_79 (by decide) ?_
  refine c_newa1 b had hu hE 26 rfl rfl (by decide) (by decide) (by decide) (by decide) (by decide) (by decide) (by decide) (Nat.le_of_ble_eq_true rfl) (Nat.le_of_ble_eq_true rfl) dX12_init_81 (fun H hE => ?_)
  refine W.widen (k := 9) (n := 12855) (Nat.le_of_ble_eq_true rfl) (Nat.le_of_ble_eq_true rfl) ?_
  refine c_putF b hin2 hE 26 rfl (in5 230 rfl rfl) rfl rfl rfl rfl (by decide) (by decide) dX12_init_83 (fun H locs hE => ?_)
  refine lv_aload_n b.1 b.2.1 dX12_init_86 rfl (lv_at hl 0 rfl) ?_
  refine lv_bipush (v := 12) b.1 b.2.1 dX12_init_87 (by decide) ?_
  refine c_newa2 b had hu hE 27 rfl rfl (by decide) (by decide) (by decide) (by decide) (by decide) (by decide) (by decide) (Nat.le_of_ble_eq_true rfl) (Nat.le_of_ble_eq_true rfl) dX12_init_89 (fun H hE => ?_)
  refine W.widen (k := 10) (n := 12867) (Nat.le_of_ble_eq_true rfl) (Nat.le_of_ble_eq_true rfl) ?_
  refine c_putF b hin2 hE 27 rfl (in5 231 rfl rfl) rfl rfl rfl rfl (by decide) (by decide) dX12_init_91 (fun H locs hE => ?_)
  refine lv_aload_n b.1 b.2.1 dX12_init_94 rfl (lv_at hl 0 rfl) ?_
  refine lv_bipush (v := 12) b.1 b.2.1 dX12_init_95 (by decide) ?_
  refine c_newa1 b had hu hE 28 rfl rfl (by decide) (by decide) (by decide) (by decide) (by decide) (by decide) (by decide) (Nat.le_of_ble_eq_true rfl) (Nat.le_of_ble_eq_true rfl) dX12_init_97 (fun H hE => ?_)
  refine W.widen (k := 11) (n := 12879) (Nat.le_of_ble_eq_true rfl) (Nat.le_of_ble_eq_true rfl) ?_
  refine c_putF b hin2 hE 28 rfl (in5 232 rfl rfl) rfl rfl rfl rfl (by decide) (by decide) dX12_init_99 (fun H locs hE => ?_)
  refine lv_aload_n b.1 b.2.1 dX12_init_102 rfl (lv_at hl 0 rfl) ?_
  refine lv_iconst (v := 4) b.1 b.2.1 dX12_init_103 (by decide) ?_
  refine c_newa2 b had hu hE 29 rfl rfl (by decide) (by decide) (by decide) (by decide) (by decide) (by decide) (by decide) (Nat.le_of_ble_eq_true rfl) (Nat.le_of_ble_eq_true rfl) dX12_init_104 (fun H hE => ?_)
  refine W.widen (k := 12) (n := 12883) (Nat.le_of_ble_eq_true rfl) (Nat.le_of_ble_eq_true rfl) ?_
  refine c_putF b hin2 hE 29 rfl (in5 233 rfl rfl) rfl rfl rfl rfl (by decide) (by decide) dX12_init_106 (fun H locs hE => ?_)
  refine lv_aload_n b.1 b.2.1 dX12_init_109 rfl (lv_at hl 0 rfl) ?_
  refine lv_bipush (v := 10) b.1 b.2.1 dX12_init_110 (by decide) ?_
  refine c_newa2 b had hu hE 30 rfl rfl (by decide) (by decide) (by decide) (by decide) (by decide) (by decide) (by decide) (Nat.le_of_ble_eq_true rfl) (Nat.le_of_ble_eq_true rfl) dX12_init_112 (fun H hE => ?_)
  refine W.widen (k := 13) (n := 12893) (Nat.le_of_ble_eq_true rfl) (Nat.le_of_ble_eq_true rfl) ?_
  refine c_putF b hin2 hE 30 rfl (in5 234 rfl rfl) rfl rfl rfl rfl (by decide) (by decide) dX12_init_114 (fun H locs hE => ?_)
  refine lv_aload_n b.1 b.2.1 dX12_init_117 rfl (lv_at hl 0 rfl) ?_
  refine lv_bipush (v := 10) b.1 b.2.1 dX12_init_118 (by decide) ?_
  refine c_newa1 b had hu hE 31 rfl rfl (by decide) (by decide) (by decide) (by decide) (by decide) (by decide) (by decide) (Nat.le_of_ble_eq_true rfl) (Nat.le_of_ble_eq_true rfl) dX12_init_120 (fun H hE => ?_)
  refine W.widen (k := 14) (n := 12903) (Nat.le_of_ble_eq_true rfl) (Nat.le_of_ble_eq_true rfl) ?_
  refine c_putF b hin2 hE 31 rfl (in5 235 rfl rfl) rfl rfl rfl rfl (by decide) (by decide) dX12_init_122 (fun H locs hE => ?_)
  refine lv_aload_n b.1 b.2.1 dX12_init_125 rfl (lv_at hl 0 rfl) ?_
  refine lv_bipush (v := 10) b.1 b.2.1 dX12_init_126 (by decide) ?_
  refine c_newa1 b had hu hE 32 rfl rfl (by decide) (by decide) (by decide) (by decide) (by decide) (by decide) (by decide) (Nat.le_of_ble_eq_true rfl) (Nat.le_of_ble_eq_true rfl) dX12_init_128 (fun H hE => ?_)
  refine W.widen (k := 15) (n := 12913) (Nat.le_of_ble_eq_true rfl) (Nat.le_of_ble_eq_true rfl) ?_
  refine c_putF b hin2 hE 32 rfl (in5 236 rfl rfl) rfl rfl rfl rfl (by decide) (by decide) dX12_init_130 (fun H locs hE => ?_)
  refine lv_aload_n b.1 b.2.1 dX12_init_133 rfl (lv_at hl 0 rfl) ?_
  refine lv_bipush (v := 10) b.1 b.2.1 dX12_init_134 (by decide) ?_
  refine c_newa1 b had hu hE 33 rfl rfl (by decide) (by decide) (by decide) (by decide) (by decide) (by decide) (by decide) (Nat.le_of_ble_eq_true rfl) (Nat.le_of_ble_eq_true rfl) dX12_init_136 (fun H hE => ?_)
  refine W.widen (k := 16) (n := 12923) (Nat.le_of_ble_eq_true rfl) (Nat.le_of_ble_eq_true rfl) ?_
  refine c_putF b hin2 hE 33 rfl (in5 237 rfl rfl) rfl rfl rfl rfl (by decide) (by decide) dX12_init_138 (fun H locs hE => ?_)
  refine lv_aload_n b.1 b.2.1 dX12_init_141 rfl (lv_at hl 0 rfl) ?_
  refine lv_bipush (v := 10) b.1 b.2.1 dX12_init_142 (by decide) ?_
  refine c_newa1 b had hu hE 34 rfl rfl (by decide) (by decide) (by decide) (by decide) (by decide) (by decide) (by decide) (Nat.le_of_ble_eq_true rfl) (Nat.le_of_ble_eq_true rfl) dX12_init_144 (fun H hE => ?_)
  refine W.widen (k := 17) (n := 12933) (Nat.le_of_ble_eq_true rfl) (Nat.le_of_ble_eq_true rfl) ?_
  refine c_putF b hin2 hE 34 rfl (in5 238 rfl rfl) rfl rfl rfl rfl (by decide) (by decide) dX12_init_146 (fun H locs hE => ?_)
  refine lv_aload_n b.1 b.2.1 dX12_init_149 rfl (lv_at hl 0 rfl) ?_
  refine lv_bipush (v := 10) b.1 b.2.1 dX12_init_150 (by decide) ?_
  refine c_newa1 b had hu hE 35 rfl rfl (by decide) (by decide) (by decide) (by decide) (by decide) (by decide) (by decide) (Nat.le_of_ble_eq_true rfl) (Nat.le_of_ble_eq_true rfl) dX12_init_152 (fun H hE => ?_)
  refine W.widen (k := 18) (n := 12943) (Nat.le_of_ble_eq_true rfl) (Nat.le_of_ble_eq_true rfl) ?_
  refine c_putF b hin2 hE 35 rfl (in5 239 rfl rfl) rfl rfl rfl rfl (by decide) (by decide) dX12_init_154 (fun H locs hE => ?_)
  refine lv_aload_n b.1 b.2.1 dX12_init_157 rfl (lv_at hl 0 rfl) ?_
  refine lv_bipush (v := 20) b.1 b.2.1 dX12_init_158 (by decide) ?_
  refine c_newa1 b had hu hE 36 rfl rfl (by decide) (by decide) (by decide) (by decide) (by decide) (by decide) (by decide) (Nat.le_of_ble_eq_true rfl) (Nat.le_of_ble_eq_true rfl) dX12_init_160 (fun H hE => ?_)
  refine W.widen (k := 19) (n := 12963) (Nat.le_of_ble_eq_true rfl) (Nat.le_of_ble_eq_true rfl) ?_
  refine c_putF b hin2 hE 36 rfl (in6 0 rfl rfl) rfl rfl rfl rfl (by decide) (by decide) dX12_init_162 (fun H locs hE => ?_)
  refine lv_aload_n b.1 b.2.1 dX12_init_165 rfl (lv_at hl 0 rfl) ?_
  refine lv_bipush (v := 20) b.1 b.2.1 dX12_init_166 (by decide) ?_
  refine c_newa1 b had hu hE 37 rfl rfl (by decide) (by decide) (by decide) (by decide) (by decide) (by decide) (by decide) (Nat.le_of_ble_eq_true rfl) (Nat.le_of_ble_eq_true rfl) dX12_init_168 (fun H hE => ?_)
  refine W.widen (k := 20) (n := 12983) (Nat.le_of_ble_eq_true rfl) (Nat.le_of_ble_eq_true rfl) ?_
  refine c_putF b hin2 hE 37 rfl (in6 1 rfl rfl) rfl rfl rfl rfl (by decide) (by decide) dX12_init_170 (fun H locs hE => ?_)
  refine lv_aload_n b.1 b.2.1 dX12_init_173 rfl (lv_at hl 0 rfl) ?_
  refine lv_bipush (v := 30) b.1 b.2.1 dX12_init_174 (by decide) ?_
  refine c_newa2 b had hu hE 38 rfl rfl (by decide) (by decide) (by decide) (by decide) (by decide) (by decide) (by decide) (Nat.le_of_ble_eq_true rfl) (Nat.le_of_ble_eq_true rfl) dX12_init_176 (fun H hE => ?_)
  refine W.widen (k := 21) (n := 13013) (Nat.le_of_ble_eq_true rfl) (Nat.le_of_ble_eq_true rfl) ?_
  refine c_putF b hin2 hE 38 rfl (in6 2 rfl rfl) rfl rfl rfl rfl (by decide) (by decide) dX12_init_178 (fun H locs hE => ?_)
  refine lv_aload_n b.1 b.2.1 dX12_init_181 rfl (lv_at hl 0 rfl) ?_
  refine lv_bipush (v := 30) b.1 b.2.1 dX12_init_182 (by decide) ?_
  refine c_newa1 b had hu hE 39 rfl rfl (by decide) (by decide) (by decide) (by decide) (by decide) (by decide) (by decide) (Nat.le_of_ble_eq_true rfl) (Nat.le_of_ble_eq_true rfl) dX12_init_184 (fun H hE => ?_)
  refine W.widen (k := 22) (n := 13043) (Nat.le_of_ble_eq_true rfl) (Nat.le_of_ble_eq_true rfl) ?_
  refine c_putF b hin2 hE 39 rfl (in6 3 rfl rfl) rfl rfl rfl rfl (by decide) (by decide) dX12_init_186 (fun H locs hE => ?_)
  refine lv_aload_n b.1 b.2.1 dX12_init_189 rfl (lv_at hl 0 rfl) ?_
  refine lv_bipush (v := 30) b.1 b.2.1 dX12_init_190 (by decide) ?_
  refine c_newa1 b had hu hE 40 rfl rfl (by decide) (by decide) (by decide) (by decide) (by decide) (by decide) (by decide) (Nat.le_of_ble_eq_true rfl) (Nat.le_of_ble_eq_true rfl) dX12_init_192 (fun H hE => ?_)
  refine W.widen (k := 23) (n := 13073) (Nat.le_of_ble_eq_true rfl) (Nat.le_of_ble_eq_true rfl) ?_
  refine c_putF b hin2 hE 40 rfl (in6 4 rfl rfl) rfl rfl rfl rfl (by decide) (by decide) dX12_init_194 (fun H locs hE => ?_)
  refine lv_aload_n b.1 b.2.1 dX12_init_197 rfl (lv_at hl 0 rfl) ?_
  refine lv_bipush (v := 30) b.1 b.2.1 dX12_init_198 (by decide) ?_
  refine c_newa1 b had hu hE 41 rfl rfl (by decide) (by decide) (by decide) (by decide) (by decide) (by decide) (by decide) (Nat.le_of_ble_eq_true rfl) (Nat.le_of_ble_eq_true rfl) dX12_init_200 (fun H hE => ?_)
  refine W.widen (k := 24) (n := 13103) (Nat.le_of_ble_eq_true rfl) (Nat.le_of_ble_eq_true rfl) ?_
  refine c_putF b hin2 hE 41 rfl (in6 5 rfl rfl) rfl rfl rfl rfl (by decide) (by decide) dX12_init_202 (fun H locs hE => ?_)
  refine lv_aload_n b.1 b.2.1 dX12_init_205 rfl (lv_at hl 0 rfl) ?_
  refine lv_bipush (v := 30) b.1 b.2.1 dX12_init_206 (by decide) ?_
  refine c_newa1 b had hu hE 42 rfl rfl (by decide) (by decide) (by decide) (by decide) (by decide) (by decide) (by decide) (Nat.le_of_ble_eq_true rfl) (Nat.le_of_ble_eq_true rfl) dX12_init_208 (fun H hE => ?_)
  refine W.widen (k := 25) (n := 13133) (Nat.le_of_ble_eq_true rfl) (Nat.le_of_ble_eq_true rfl) ?_
  refine c_putF b hin2 hE 42 rfl (in6 6 rfl rfl) rfl rfl rfl rfl (by decide) (by decide) dX12_init_210 (fun H locs hE => ?_)
  refine lv_aload_n b.1 b.2.1 dX12_init_213 rfl (lv_at hl 0 rfl) ?_
  refine lv_bipush (v := 90) b.1 b.2.1 dX12_init_214 (by decide) ?_
  refine c_newa1 b had hu hE 43 rfl rfl (by decide) (by decide) (by decide) (by decide) (by decide) (by decide) (by decide) (Nat.le_of_ble_eq_true rfl) (Nat.le_of_ble_eq_true rfl) dX12_init_216 (fun H hE => ?_)
  refine W.widen (k := 26) (n := 13223) (Nat.le_of_ble_eq_true rfl) (Nat.le_of_ble_eq_true rfl) ?_
  refine c_putF b hin2 hE 43 rfl (in6 7 rfl rfl) rfl rfl rfl rfl (by decide) (by decide) dX12_init_218 (fun H locs hE => ?_)
  refine lv_aload_n b.1 b.2.1 dX12_init_221 rfl (lv_at hl 0 rfl) ?_
  refine lv_bipush (v := 30) b.1 b.2.1 dX12_init_222 (by decide) ?_
  refine c_newa1 b had hu hE 44 rfl rfl (by decide) (by decide) (by decide) (by decide) (by decide) (by decide) (by decide) (Nat.le_of_ble_eq_true rfl) (Nat.le_of_ble_eq_true rfl) dX12_init_224 (fun H hE => ?_)
  refine W.widen (k := 27) (n := 13253) (Nat.le_of_ble_eq_true rfl) (Nat.le_of_ble_eq_true rfl) ?_
  refine c_putF b hin2 hE 44 rfl (in6 8 rfl rfl) rfl rfl rfl rfl (by decide) (by decide) dX12_init_226 (fun H locs hE => ?_)
  refine lv_aload_n b.1 b.2.1 dX12_init_229 rfl (lv_at hl 0 rfl) ?_
  refine lv_bipush (v := 30) b.1 b.2.1 dX12_init_230 (by decide) ?_
  refine c_newa3 b had hu hE 45 rfl rfl (by decide) (by decide) (by decide) (by decide) (by decide) (by decide) (by decide) (Nat.le_of_ble_eq_true rfl) (Nat.le_of_ble_eq_true rfl) dX12_init_232 (fun H hE => ?_)
  refine W.widen (k := 28) (n := 13283) (Nat.le_of_ble_eq_true rfl) (Nat.le_of_ble_eq_true rfl) ?_
  refine c_putF b hin2 hE 45 rfl (in6 9 rfl rfl) rfl rfl rfl rfl (by decide) (by decide) dX12_init_234 (fun H locs hE => ?_)
  refine lv_aload_n b.1 b.2.1 dX12_init_237 rfl (lv_at hl 0 rfl) ?_
  refine lv_bipush (v := 30) b.1 b.2.1 dX12_init_238 (by decide) ?_
  refine c_newa1 b had hu hE 46 rfl rfl (by decide) (by decide) (by decide) (by decide) (by decide) (by decide) (by decide) (Nat.le_of_ble_eq_true rfl) (Nat.le_of_ble_eq_true rfl) dX12_init_240 (fun H hE => ?_)
  refine W.widen (k := 29) (n := 13313) (Nat.le_of_ble_eq_true rfl) (Nat.le_of_ble_eq_true rfl) ?_
  refine c_putF b hin2 hE 46 rfl (in6 10 rfl rfl) rfl rfl rfl rfl (by decide) (by decide) dX12_init_242 (fun H locs hE => ?_)
  refine lv_aload_n b.1 b.2.1 dX12_init_245 rfl (lv_at hl 0 rfl) ?_
  refine lv_bipush (v := 30) b.1 b.2.1 dX12_init_246 (by decide) ?_
  refine c_newa1 b had hu hE 47 rfl rfl (by decide) (by decide) (by decide) (by decide) (by decide) (by decide) (by decide) (Nat.le_of_ble_eq_true rfl) (Nat.le_of_ble_eq_true rfl) dX12_init_248 (fun H hE => ?_)
  refine W.widen (k := 30) (n := 13343) (Nat.le_of_ble_eq_true rfl) (Nat.le_of_ble_eq_true rfl) ?_
  refine c_putF b hin2 hE 47 rfl (in6 11 rfl rfl) rfl rfl rfl rfl (by decide) (by decide) dX12_init_250 (fun H locs hE => ?_)
  refine lv_aload_n b.1 b.2.1 dX12_init_253 rfl (lv_at hl 0 rfl) ?_
  refine lv_bipush (v := 30) b.1 b.2.1 dX12_init_254 (by decide) ?_
  refine c_newa1 b had hu hE 48 rfl rfl (by decide) (by decide) (by decide) (by decide) (by decide) (by decide) (by decide) (Nat.le_of_ble_eq_true rfl) (Nat.le_of_ble_eq_true rfl) dX12_init_256 (fun H hE => ?_)
  refine W.widen (k := 31) (n := 13373) (Nat.le_of_ble_eq_true rfl) (Nat.le_of_ble_eq_true rfl) ?_
  refine c_putF b hin2 hE 48 rfl (in6 12 rfl rfl) rfl rfl rfl rfl (by decide) (by decide) dX12_init_258 (fun H locs hE => ?_)
  refine lv_aload_n b.1 b.2.1 dX12_init_261 rfl (lv_at hl 0 rfl) ?_
  refine lv_bipush (v := 30) b.1 b.2.1 dX12_init_262 (by decide) ?_
  refine c_newa1 b had hu hE 49 rfl rfl (by decide) (by decide) (by decide) (by decide) (by decide) (by decide) (by decide) (Nat.le_of_ble_eq_true rfl) (Nat.le_of_ble_eq_true rfl) dX12_init_264 (fun H hE => ?_)
  refine W.widen (k := 32) (n := 13403) (Nat.le_of_ble_eq_true rfl) (Nat.le_of_ble_eq_true rfl) ?_
  refine c_putF b hin2 hE 49 rfl (in6 13 rfl rfl) rfl rfl rfl rfl (by decide) (by decide) dX12_init_266 (fun H locs hE => ?_)
  refine lv_aload_n b.1 b.2.1 dX12_init_269 rfl (lv_at hl 0 rfl) ?_
  refine lv_bipush (v := 30) b.1 b.2.1 dX12_init_270 (by decide) ?_
  refine c_newa1 b had hu hE 50 rfl rfl (by decide) (by decide) (by decide) (by decide) (by decide) (by decide) (by decide) (Nat.le_of_ble_eq_true rfl) (Nat.le_of_ble_eq_true rfl) dX12_init_272 (fun H hE => ?_)
  refine W.widen (k := 33) (n := 13433) (Nat.le_of_ble_eq_true rfl) (Nat.le_of_ble_eq_true rfl) ?_
  refine c_putF b hin2 hE 50 rfl (in6 14 rfl rfl) rfl rfl rfl rfl (by decide) (by decide) dX12_init_274 (fun H locs hE => ?_)
  refine lv_aload_n b.1 b.2.1 dX12_init_277 rfl (lv_at hl 0 rfl) ?_
  refine lv_sipush (v := 180) b.1 b.2.1 dX12_init_278 (by decide) ?_
  refine c_newa1 b had hu hE 51 rfl rfl (by decide) (by decide) (by decide) (by decide) (by decide) (by decide) (by decide) (Nat.le_of_ble_eq_true rfl) (Nat.le_of_ble_eq_true rfl) dX12_init_281 (fun H hE => ?_)
  refine W.widen (k := 34) (n := 13613) (Nat.le_of_ble_eq_true rfl) (Nat.le_of_ble_eq_true rfl) ?_
  refine c_putF b hin2 hE 51 rfl (in6 15 rfl rfl) rfl rfl rfl rfl (by decide) (by decide) dX12_init_283 (fun H locs hE => ?_)
  refine lv_aload_n b.1 b.2.1 dX12_init_286 rfl (lv_at hl 0 rfl) ?_
  refine lv_sipush (v := 180) b.1 b.2.1 dX12_init_287 (by decide) ?_
  refine c_newa1 b had hu hE 52 rfl rfl (by decide) (by decide) (by decide) (by decide) (by decide) (by decide) (by decide) (Nat.le_of_ble_eq_true rfl) (Nat.le_of_ble_eq_true rfl) dX12_init_290 (fun H hE => ?_)
  refine W.widen (k := 35) (n := 13793) (Nat.le_of_ble_eq_true rfl) (Nat.le_of_ble_eq_true rfl) ?_
  refine c_putF b hin2 hE 52 rfl (in6 16 rfl rfl) rfl rfl rfl rfl (by decide) (by decide) dX12_init_292 (fun H locs hE => ?_)
  refine lv_aload_n b.1 b.2.1 dX12_init_295 rfl (lv_at hl 0 rfl) ?_
  refine lv_sipush (v := 180) b.1 b.2.1 dX12_init_296 (by decide) ?_
  refine c_newa3 b had hu hE 53 rfl rfl (by decide) (by decide) (by decide) (by decide) (by decide) (by decide) (by decide) (Nat.le_of_ble_eq_true rfl) (Nat.le_of_ble_eq_true rfl) dX12_init_299 (fun H hE => ?_)
  refine W.widen (k := 36) (n := 13973) (Nat.le_of_ble_eq_true rfl) (Nat.le_of_ble_eq_true rfl) ?_
  refine c_putF b hin2 hE 53 rfl (in6 17 rfl rfl) rfl rfl rfl rfl (by decide) (by decide) dX12_init_301 (fun H locs hE => ?_)
  refine lv_aload_n b.1 b.2.1 dX12_init_304 rfl (lv_at hl 0 rfl) ?_
  refine lv_sipush (v := 180) b.1 b.2.1 dX12_init_305 (by decide) ?_
  refine c_newa1 b had hu hE 54 rfl rfl (by decide) (by decide) (by decide) (by decide) (by decide) (by decide) (by decide) (Nat.le_of_ble_eq_true rfl) (Nat.le_of_ble_eq_true rfl) dX12_init_308 (fun H hE => ?_)
  refine W.widen (k := 37) (n := 14153) (Nat.le_of_ble_eq_true rfl) (Nat.le_of_ble_eq_true rfl) ?_
  refine c_putF b hin2 hE 54 rfl (in6 18 rfl rfl) rfl rfl rfl rfl (by decide) (by decide) dX12_init_310 (fun H locs hE => ?_)
  refine lv_aload_n b.1 b.2.1 dX12_init_313 rfl (lv_at hl 0 rfl) ?_
  refine lv_sipush (v := 180) b.1 b.2.1 dX12_init_314 (by decide) ?_
  refine c_newa1 b had hu hE 55 rfl rfl (by decide) (by decide) (by decide) (by decide) (by decide) (by decide) (by decide) (Nat.le_of_ble_eq_true rfl) (Nat.le_of_ble_eq_true rfl) dX12_init_317 (fun H hE => ?_)
  refine W.widen (k := 38) (n := 14333) (Nat.le_of_ble_eq_true rfl) (Nat.le_of_ble_eq_true rfl) ?_
  refine c_putF b hin2 hE 55 rfl (in6 19 rfl rfl) rfl rfl rfl rfl (by decide) (by decide) dX12_init_319 (fun H locs hE => ?_)
  refine lv_aload_n b.1 b.2.1 dX12_init_322 rfl (lv_at hl 0 rfl) ?_
  refine lv_sipush (v := 180) b.1 b.2.1 dX12_init_323 (by decide) ?_
  refine c_newa1 b had hu hE 56 rfl rfl (by decide) (by decide) (by decide) (by decide) (by decide) (by decide) (by decide) (Nat.le_of_ble_eq_true rfl) (Nat.le_of_ble_eq_true rfl) dX12_init_326 (fun H hE => ?_)
  refine W.widen (k := 39) (n := 14513) (Nat.le_of_ble_eq_true rfl) (Nat.le_of_ble_eq_true rfl) ?_
  refine c_putF b hin2 hE 56 rfl (in6 20 rfl rfl) rfl rfl rfl rfl (by decide) (by decide) dX12_init_328 (fun H locs hE => ?_)
  refine lv_aload_n b.1 b.2.1 dX12_init_331 rfl (lv_at hl 0 rfl) ?_
  refine lv_sipush (v := 180) b.1 b.2.1 dX12_init_332 (by decide) ?_
  refine c_newa1 b had hu hE 57 rfl rfl (by decide) (by decide) (by decide) (by decide) (by decide) (by decide) (by decide) (Nat.le_of_ble_eq_true rfl) (Nat.le_of_ble_eq_true rfl) dX12_init_335 (fun H hE => ?_)
  refine W.widen (k := 40) (n := 14693) (Nat.le_of_ble_eq_true rfl) (Nat.le_of_ble_eq_true rfl) ?_
  refine c_putF b hin2 hE 57 rfl (in6 21 rfl rfl) rfl rfl rfl rfl (by decide) (by decide) dX12_init_337 (fun H locs hE => ?_)
  refine lv_aload_n b.1 b.2.1 dX12_init_340 rfl (lv_at hl 0 rfl) ?_
  refine lv_sipush (v := 180) b.1 b.2.1 dX12_init_341 (by decide) ?_
  refine c_newa1 b had hu hE 58 rfl rfl (by decide) (by decide) (by decide) (by decide) (by decide) (by decide) (by decide) (Nat.le_of_ble_eq_true rfl) (Nat.le_of_ble_eq_true rfl) dX12_init_344 (fun H hE => ?_)
  refine W.widen (k := 41) (n := 14873) (Nat.le_of_ble_eq_true rfl) (Nat.le_of_ble_eq_true rfl) ?_
  refine c_putF b hin2 hE 58 rfl (in6 22 rfl rfl) rfl rfl rfl rfl (by decide) (by decide) dX12_init_346 (fun H locs hE => ?_)
  refine lv_aload_n b.1 b.2.1 dX12_init_349 rfl (lv_at hl 0 rfl) ?_
  refine lv_sipush (v := 180) b.1 b.2.1 dX12_init_350 (by decide) ?_
  refine c_newa1 b had hu hE 59 rfl rfl (by decide) (by decide) (by decide) (by decide) (by decide) (by decide) (by decide) (Nat.le_of_ble_eq_true rfl) (Nat.le_of_ble_eq_true rfl) dX12_init_353 (fun H hE => ?_)
  refine W.widen (k := 42) (n := 15053) (Nat.le_of_ble_eq_true rfl) (Nat.le_of_ble_eq_true rfl) ?_
  refine c_putF b hin2 hE 59 rfl (in6 23 rfl rfl) rfl rfl rfl rfl (by decide) (by decide) dX12_init_355 (fun H locs hE => ?_)
  refine lv_aload_n b.1 b.2.1 dX12_init_358 rfl (lv_at hl 0 rfl) ?_
  refine k_ldc (v := 37000) b (in5 194 rfl rfl) dX12_init_359 ?_
  refine c_newa1 b had hu hE 60 rfl rfl (by decide) (by decide) (by decide) (by decide) (by decide) (by decide) (by decide) (Nat.le_of_ble_eq_true rfl) (Nat.le_of_ble_eq_true rfl) dX12_init_361 (fun H hE => ?_)
  refine W.widen (k := 43) (n := 52053) (Nat.le_of_ble_eq_true rfl) (Nat.le_of_ble_eq_true rfl) ?_
  refine c_putF b hin2 hE 60 rfl (in6 24 rfl rfl) rfl rfl rfl rfl (by decide) (by decide) dX12_init_363 (fun H locs hE => ?_)
  refine lv_aload_n b.1 b.2.1 dX12_init_366 rfl (lv_at hl 0 rfl) ?_
  refine k_ldc (v := 37000) b (in5 194 rfl rfl) dX12_init_367 ?_
  refine c_newa1 b had hu hE 61 rfl rfl (by decide) (by decide) (by decide) (by decide) (by decide) (by decide) (by decide) (Nat.le_of_ble_eq_true rfl) (Nat.le_of_ble_eq_true rfl) dX12_init_369 (fun H hE => ?_)
  refine W.widen (k := 44) (n := 89053) (Nat.le_of_ble_eq_true rfl) (Nat.le_of_ble_eq_true rfl) ?_
  refine c_putF b hin2 hE 61 rfl (in6 25 rfl rfl) rfl rfl rfl rfl (by decide) (by decide) dX12_init_371 (fun H locs hE => ?_)
  refine lv_aload_n b.1 b.2.1 dX12_init_374 rfl (lv_at hl 0 rfl) ?_
  refine k_ldc (v := 37000) b (in5 194 rfl rfl) dX12_init_375 ?_
  refine c_newa1 b had hu hE 62 rfl rfl (by decide) (by decide) (by decide) (by decide) (by decide) (by decide) (by decide) (Nat.le_of_ble_eq_true rfl) (Nat.le_of_ble_eq_true rfl) dX12_init_377 (fun H hE => ?_)
  refine W.widen (k := 45) (n := 126053) (Nat.le_of_ble_eq_true rfl) (Nat.le_of_ble_eq_true rfl) ?_
  refine c_putF b hin2 hE 62 rfl (in6 26 rfl rfl) rfl rfl rfl rfl (by decide) (by decide) dX12_init_379 (fun H locs hE => ?_)
  refine lv_aload_n b.1 b.2.1 dX12_init_382 rfl (lv_at hl 0 rfl) ?_
  refine lv_bipush (v := 44) b.1 b.2.1 dX12_init_383 (by decide) ?_
  refine c_newa1 b had hu hE 64 rfl rfl (by decide) (by decide) (by decide) (by decide) (by decide) (by decide) (by decide) (Nat.le_of_ble_eq_true rfl) (Nat.le_of_ble_eq_true rfl) dX12_init_385 (fun H hE => ?_)
  refine W.widen (k := 46) (n := 126097) (Nat.le_of_ble_eq_true rfl) (Nat.le_of_ble_eq_true rfl) ?_
  refine c_putF b hin2 hE 64 rfl (in6 28 rfl rfl) rfl rfl rfl rfl (by decide) (by decide) dX12_init_387 (fun H locs hE => ?_)
  refine lv_aload_n b.1 b.2.1 dX12_init_390 rfl (lv_at hl 0 rfl) ?_
  refine lv_bipush (v := 40) b.1 b.2.1 dX12_init_391 (by decide) ?_
  refine c_newa1 b had hu hE 71 rfl rfl (by decide) (by decide) (by decide) (by decide) (by decide) (by decide) (by decide) (Nat.le_of_ble_eq_true rfl) (Nat.le_of_ble_eq_true rfl) dX12_init_393 (fun H hE => ?_)
  refine W.widen (k := 47) (n := 126137) (Nat.le_of_ble_eq_true rfl) (Nat.le_of_ble_eq_true rfl) ?_
  refine c_putF b hin2 hE 71 rfl (in6 35 rfl rfl) rfl rfl rfl rfl (by decide) (by decide) dX12_init_395 (fun H locs hE => ?_)
  refine lv_aload_n b.1 b.2.1 dX12_init_398 rfl (lv_at hl 0 rfl) ?_
  refine lv_bipush (v := 100) b.1 b.2.1 dX12_init_399 (by decide) ?_
  refine c_newa1 b had hu hE 74 rfl rfl (by decide) (by decide) (by decide) (by decide) (by decide) (by decide) (by decide) (Nat.le_of_ble_eq_true rfl) (Nat.le_of_ble_eq_true rfl) dX12_init_401 (fun H hE => ?_)
  refine W.widen (k := 48) (n := 126237) (Nat.le_of_ble_eq_true rfl) (Nat.le_of_ble_eq_true rfl) ?_
  refine c_putF b hin2 hE 74 rfl (in6 38 rfl rfl) rfl rfl rfl rfl (by decide) (by decide) dX12_init_403 (fun H locs hE => ?_)
  refine lv_aload_n b.1 b.2.1 dX12_init_406 rfl (lv_at hl 0 rfl) ?_
  refine lv_bipush (v := 100) b.1 b.2.1 dX12_init_407 (by decide) ?_
  refine c_newa1 b had hu hE 75 rfl rfl (by decide) (by decide) (by decide) (by decide) (by decide) (by decide) (by decide) (Nat.le_of_ble_eq_true rfl) (Nat.le_of_ble_eq_true rfl) dX12_init_409 (fun H hE => ?_)
  refine W.widen (k := 49) (n := 126337) (Nat.le_of_ble_eq_true rfl) (Nat.le_of_ble_eq_true rfl) ?_
  refine c_putF b hin2 hE 75 rfl (in6 39 rfl rfl) rfl rfl rfl rfl (by decide) (by decide) dX12_init_411 (fun H locs hE => ?_)
  refine lv_aload_n b.1 b.2.1 dX12_init_414 rfl (lv_at hl 0 rfl) ?_
  refine lv_bipush (v := 100) b.1 b.2.1 dX12_init_415 (by decide) ?_
  refine c_newa1 b had hu hE 76 rfl rfl (by decide) (by decide) (by decide) (by decide) (by decide) (by decide) (by decide) (Nat.le_of_ble_eq_true rfl) (Nat.le_of_ble_eq_true rfl) dX12_init_417 (fun H hE => ?_)
  refine W.widen (k := 50) (n := 126437) (Nat.le_of_ble_eq_true rfl) (Nat.le_of_ble_eq_true rfl) ?_
  refine c_putF b hin2 hE 76 rfl (in6 40 rfl rfl) rfl rfl rfl rfl (by decide) (by decide) dX12_init_419 (fun H locs hE => ?_)
  refine lv_aload_n b.1 b.2.1 dX12_init_422 rfl (lv_at hl 0 rfl) ?_
  refine lv_bipush (v := 100) b.1 b.2.1 dX12_init_423 (by decide) ?_
  refine c_newa1 b had hu hE 77 rfl rfl (by decide) (by decide) (by decide) (by decide) (by decide) (by decide) (by decide) (Nat.le_of_ble_eq_true rfl) (Nat.le_of_ble_eq_true rfl) dX12_init_425 (fun H hE => ?_)
  refine W.widen (k := 51) (n := 126537) (Nat.le_of_ble_eq_true rfl) (Nat.le_of_ble_eq_true rfl) ?_
  refine c_putF b hin2 hE 77 rfl (in6 41 rfl rfl) rfl rfl rfl rfl (by decide) (by decide) dX12_init_427 (fun H locs hE => ?_)
  refine lv_aload_n b.1 b.2.1 dX12_init_430 rfl (lv_at hl 0 rfl) ?_
  refine lv_bipush (v := 100) b.1 b.2.1 dX12_init_431 (by decide) ?_
  refine c_newa1 b had hu hE 78 rfl rfl (by decide) (by decide) (by decide) (by decide) (by decide) (by decide) (by decide) (Nat.le_of_ble_eq_true rfl) (Nat.le_of_ble_eq_true rfl) dX12_init_433 (fun H hE => ?_)
  refine W.widen (k := 52) (n := 126637) (Nat.le_of_ble_eq_true rfl) (Nat.le_of_ble_eq_true rfl) ?_
  refine c_putF b hin2 hE 78 rfl (in6 42 rfl rfl) rfl rfl rfl rfl (by decide) (by decide) dX12_init_435 (fun H locs hE => ?_)
  refine lv_aload_n b.1 b.2.1 dX12_init_438 rfl (lv_at hl 0 rfl) ?_
  refine lv_sipush (v := 1300) b.1 b.2.1 dX12_init_439 (by decide) ?_
  refine c_newa2 b had hu hE 82 rfl rfl (by decide) (by decide) (by decide) (by decide) (by decide) (by decide) (by decide) (Nat.le_of_ble_eq_true rfl) (Nat.le_of_ble_eq_true rfl) dX12_init_442 (fun H hE => ?_)
  refine W.widen (k := 53) (n := 127937) (Nat.le_of_ble_eq_true rfl) (Nat.le_of_ble_eq_true rfl) ?_
  refine c_putF b hin2 hE 82 rfl (in6 46 rfl rfl) rfl rfl rfl rfl (by decide) (by decide) dX12_init_444 (fun H locs hE => ?_)
  refine lv_aload_n b.1 b.2.1 dX12_init_447 rfl (lv_at hl 0 rfl) ?_
  refine lv_sipush (v := 1300) b.1 b.2.1 dX12_init_448 (by decide) ?_
  refine c_newa2 b had hu hE 83 rfl rfl (by decide) (by decide) (by decide) (by decide) (by decide) (by decide) (by decide) (Nat.le_of_ble_eq_true rfl) (Nat.le_of_ble_eq_true rfl) dX12_init_451 (fun H hE => ?_)
  refine W.widen (k := 54) (n := 129237) (Nat.le_of_ble_eq_true rfl) (Nat.le_of_ble_eq_true rfl) ?_
  refine c_putF b hin2 hE 83 rfl (in6 47 rfl rfl) rfl rfl rfl rfl (by decide) (by decide) dX12_init_453 (fun H locs hE => ?_)
  refine lv_aload_n b.1 b.2.1 dX12_init_456 rfl (lv_at hl 0 rfl) ?_
  refine lv_sipush (v := 3750) b.1 b.2.1 dX12_init_457 (by decide) ?_
  refine c_newa3 b had hu hE 84 rfl rfl (by decide) (by decide) (by decide) (by decide) (by decide) (by decide) (by decide) (Nat.le_of_ble_eq_true rfl) (Nat.le_of_ble_eq_true rfl) dX12_init_460 (fun H hE => ?_)
  refine W.widen (k := 55) (n := 132987) (Nat.le_of_ble_eq_true rfl) (Nat.le_of_ble_eq_true rfl) ?_
  refine c_putF b hin2 hE 84 rfl (in6 48 rfl rfl) rfl rfl rfl rfl (by decide) (by decide) dX12_init_462 (fun H locs hE => ?_)
  refine lv_aload_n b.1 b.2.1 dX12_init_465 rfl (lv_at hl 0 rfl) ?_
  refine lv_sipush (v := 3750) b.1 b.2.1 dX12_init_466 (by decide) ?_
  refine c_newa1 b had hu hE 85 rfl rfl (by decide) (by decide) (by decide) (by decide) (by decide) (by decide) (by decide) (Nat.le_of_ble_eq_true rfl) (Nat.le_of_ble_eq_true rfl) dX12_init_469 (fun H hE => ?_)
  refine W.widen (k := 56) (n := 136737) (Nat.le_of_ble_eq_true rfl) (Nat.le_of_ble_eq_true rfl) ?_
  refine c_putF b hin2 hE 85 rfl (in6 49 rfl rfl) rfl rfl rfl rfl (by decide) (by decide) dX12_init_471 (fun H locs hE => ?_)
  refine lv_aload_n b.1 b.2.1 dX12_init_474 rfl (lv_at hl 0 rfl) ?_
  refine lv_sipush (v := 3750) b.1 b.2.1 dX12_init_475 (by decide) ?_
  refine c_newa1 b had hu hE 86 rfl rfl (by decide) (by decide) (by decide) (by decide) (by decide) (by decide) (by decide) (Nat.le_of_ble_eq_true rfl) (Nat.le_of_ble_eq_true rfl) dX12_init_478 (fun H hE => ?_)
  refine W.widen (k := 57) (n := 140487) (Nat.le_of_ble_eq_true rfl) (Nat.le_of_ble_eq_true rfl) ?_
  refine c_putF b hin2 hE 86 rfl (in6 50 rfl rfl) rfl rfl rfl rfl (by decide) (by decide) dX12_init_480 (fun H locs hE => ?_)
  refine lv_aload_n b.1 b.2.1 dX12_init_483 rfl (lv_at hl 0 rfl) ?_
  refine lv_sipush (v := 600) b.1 b.2.1 dX12_init_484 (by decide) ?_
  refine c_newa1 b had hu hE 87 rfl rfl (by decide) (by decide) (by decide) (by decide) (by decide) (by decide) (by decide) (Nat.le_of_ble_eq_true rfl) (Nat.le_of_ble_eq_true rfl) dX12_init_487 (fun H hE => ?_)
  refine W.widen (k := 58) (n := 141087) (Nat.le_of_ble_eq_true rfl) (Nat.le_of_ble_eq_true rfl) ?_
  refine c_putF b hin2 hE 87 rfl (in6 51 rfl rfl) rfl rfl rfl rfl (by decide) (by decide) dX12_init_489 (fun H locs hE => ?_)
  refine lv_aload_n b.1 b.2.1 dX12_init_492 rfl (lv_at hl 0 rfl) ?_
  refine lv_sipush (v := 600) b.1 b.2.1 dX12_init_493 (by decide) ?_
  refine c_newa1 b had hu hE 88 rfl rfl (by decide) (by decide) (by decide) (by decide) (by decide) (by decide) (by decide) (Nat.le_of_ble_eq_true rfl) (Nat.le_of_ble_eq_true rfl) dX12_init_496 (fun H hE => ?_)
  refine W.widen (k := 59) (n := 141687) (Nat.le_of_ble_eq_true rfl) (Nat.le_of_ble_eq_true rfl) ?_
  refine c_putF b hin2 hE 88 rfl (in6 52 rfl rfl) rfl rfl rfl rfl (by decide) (by decide) dX12_init_498 (fun H locs hE => ?_)
  refine lv_aload_n b.1 b.2.1 dX12_init_501 rfl (lv_at hl 0 rfl) ?_
  refine lv_sipush (v := 3750) b.1 b.2.1 dX12_init_502 (by decide) ?_
  refine c_newa3 b had hu hE 89 rfl rfl (by decide) (by decide) (by decide) (by decide) (by decide) (by decide) (by decide) (Nat.le_of_ble_eq_true rfl) (Nat.le_of_ble_eq_true rfl) dX12_init_505 (fun H hE => ?_)
  refine W.widen (k := 60) (n := 145437) (Nat.le_of_ble_eq_true rfl) (Nat.le_of_ble_eq_true rfl) ?_
  refine c_putF b hin2 hE 89 rfl (in6 53 rfl rfl) rfl rfl rfl rfl (by decide) (by decide) dX12_init_507 (fun H locs hE => ?_)
  refine lv_aload_n b.1 b.2.1 dX12_init_510 rfl (lv_at hl 0 rfl) ?_
  refine lv_sipush (v := 3750) b.1 b.2.1 dX12_init_511 (by decide) ?_
  refine c_newa3 b had hu hE 90 rfl rfl (by decide) (by decide) (by decide) (by decide) (by decide) (by decide) (by decide) (Nat.le_of_ble_eq_true rfl) (Nat.le_of_ble_eq_true rfl) dX12_init_514 (fun H hE => ?_)
  refine W.widen (k := 61) (n := 149187) (Nat.le_of_ble_eq_true rfl) (Nat.le_of_ble_eq_true rfl) ?_
  refine c_putF b hin2 hE 90 rfl (in6 54 rfl rfl) rfl rfl rfl rfl (by decide) (by decide) dX12_init_516 (fun H locs hE => ?_)
  refine lv_aload_n b.1 b.2.1 dX12_init_519 rfl (lv_at hl 0 rfl) ?_
  refine lv_sipush (v := 600) b.1 b.2.1 dX12_init_520 (by decide) ?_
  refine c_newa3 b had hu hE 91 rfl rfl (by decide) (by decide) (by decide) (by decide) (by decide) (by decide) (by decide) (Nat.le_of_ble_eq_true rfl) (Nat.le_of_ble_eq_true rfl) dX12_init_523 (fun H hE => ?_)
  refine W.widen (k := 62) (n := 149787) (Nat.le_of_ble_eq_true rfl) (Nat.le_of_ble_eq_true rfl) ?_
  refine c_putF b hin2 hE 91 rfl (in6 55 rfl rfl) rfl rfl rfl rfl (by decide) (by decide) dX12_init_525 (fun H locs hE => ?_)
  refine lv_aload_n b.1 b.2.1 dX12_init_528 rfl (lv_at hl 0 rfl) ?_
  refine lv_sipush (v := 600) b.1 b.2.1 dX12_init_529 (by decide) ?_
  refine c_newa3 b had hu hE 92 rfl rfl (by decide) (by decide) (by decide) (by decide) (by decide) (by decide) (by decide) (Nat.le_of_ble_eq_true rfl) (Nat.le_of_ble_eq_true rfl) dX12_init_532 (fun H hE => ?_)
  refine W.widen (k := 63) (n := 150387) (Nat.le_of_ble_eq_true rfl) (Nat.le_of_ble_eq_true rfl) ?_
  refine c_putF b hin2 hE 92 rfl (in6 56 rfl rfl) rfl rfl rfl rfl (by decide) (by decide) dX12_init_534 (fun H locs hE => ?_)
  refine lv_aload_n b.1 b.2.1 dX12_init_537 rfl (lv_at hl 0 rfl) ?_
  refine lv_sipush (v := 600) b.1 b.2.1 dX12_init_538 (by decide) ?_
  refine c_newa3 b had hu hE 93 rfl rfl (by decide) (by decide) (by decide) (by decide) (by decide) (by decide) (by decide) (Nat.le_of_ble_eq_true rfl) (Nat.le_of_ble_eq_true rfl) dX12_init_541 (fun H hE => ?_)
  refine W.widen (k := 64) (n := 150987) (Nat.le_of_ble_eq_true rfl) (Nat.le_of_ble_eq_true rfl) ?_
  refine c_putF b hin2 hE 93 rfl (in6 57 rfl rfl) rfl rfl rfl rfl (by decide) (by decide) dX12_init_543 (fun H locs hE => ?_)
  refine lv_aload_n b.1 b.2.1 dX12_init_546 rfl (lv_at hl 0 rfl) ?_
  refine lv_sipush (v := 900) b.1 b.2.1 dX12_init_547 (by decide) ?_
  refine c_newa3 b had hu hE 94 rfl rfl (by decide) (by decide) (by decide) (by decide) (by decide) (by decide) (by decide) (Nat.le_of_ble_eq_true rfl) (Nat.le_of_ble_eq_true rfl) dX12_init_550 (fun H hE => ?_)
  refine W.widen (k := 65) (n := 151887) (Nat.le_of_ble_eq_true rfl) (Nat.le_of_ble_eq_true rfl) ?_
  refine c_putF b hin2 hE 94 rfl (in6 58 rfl rfl) rfl rfl rfl rfl (by decide) (by decide) dX12_init_552 (fun H locs hE => ?_)
  refine lv_aload_n b.1 b.2.1 dX12_init_555 rfl (lv_at hl 0 rfl) ?_
  refine lv_iconst (v := 3) b.1 b.2.1 dX12_init_556 (by decide) ?_
  refine c_newa1 b had hu hE 95 rfl rfl (by decide) (by decide) (by decide) (by decide) (by decide) (by decide) (by decide) (Nat.le_of_ble_eq_true rfl) (Nat.le_of_ble_eq_true rfl) dX12_init_557 (fun H hE => ?_)
  refine W.widen (k := 66) (n := 151890) (Nat.le_of_ble_eq_true rfl) (Nat.le_of_ble_eq_true rfl) ?_
  refine c_putF b hin2 hE 95 rfl (in6 59 rfl rfl) rfl rfl rfl rfl (by decide) (by decide) dX12_init_559 (fun H locs hE => ?_)
  refine lv_aload_n b.1 b.2.1 dX12_init_562 rfl (lv_at hl 0 rfl) ?_
  refine lv_sipush (v := 600) b.1 b.2.1 dX12_init_563 (by decide) ?_
  refine c_newa1 b had hu hE 104 rfl rfl (by decide) (by decide) (by decide) (by decide) (by decide) (by decide) (by decide) (Nat.le_of_ble_eq_true rfl) (Nat.le_of_ble_eq_true rfl) dX12_init_566 (fun H hE => ?_)
  refine W.widen (k := 67) (n := 152490) (Nat.le_of_ble_eq_true rfl) (Nat.le_of_ble_eq_true rfl) ?_
  refine c_putF b hin2 hE 104 rfl (in6 68 rfl rfl) rfl rfl rfl rfl (by decide) (by decide) dX12_init_568 (fun H locs hE => ?_)
  refine lv_aload_n b.1 b.2.1 dX12_init_571 rfl (lv_at hl 0 rfl) ?_
  refine lv_sipush (v := 600) b.1 b.2.1 dX12_init_572 (by decide) ?_
  refine c_newa1 b had hu hE 105 rfl rfl (by decide) (by decide) (by decide) (by decide) (by decide) (by decide) (by decide) (Nat.le_of_ble_eq_true rfl) (Nat.le_of_ble_eq_true rfl) dX12_init_575 (fun H hE => ?_)
  refine W.widen (k := 68) (n := 153090) (Nat.le_of_ble_eq_true rfl) (Nat.le_of_ble_eq_true rfl) ?_
  refine c_putF b hin2 hE 105 rfl (in6 69 rfl rfl) rfl rfl rfl rfl (by decide) (by decide) dX12_init_577 (fun H locs hE => ?_)
  refine lv_aload_n b.1 b.2.1 dX12_init_580 rfl (lv_at hl 0 rfl) ?_
  refine lv_sipush (v := 600) b.1 b.2.1 dX12_init_581 (by decide) ?_
  refine c_newa1 b had hu hE 106 rfl rfl (by decide) (by decide) (by decide) (by decide) (by decide) (by decide) (by decide) (Nat.le_of_ble_eq_true rfl) (Nat.le_of_ble_eq_true rfl) dX12_init_584 (fun H hE => ?_)
  refine W.widen (k := 69) (n := 153690) (Nat.le_of_ble_eq_true rfl) (Nat.le_of_ble_eq_true rfl) ?_
  refine c_putF b hin2 hE 106 rfl (in6 70 rfl rfl) rfl rfl rfl rfl (by decide) (by decide) dX12_init_586 (fun H locs hE => ?_)
  refine lv_aload_n b.1 b.2.1 dX12_init_589 rfl (lv_at hl 0 rfl) ?_
  refine lv_sipush (v := 1800) b.1 b.2.1 dX12_init_590 (by decide) ?_
  refine c_newa1 b had hu hE 107 rfl rfl (by decide) (by decide) (by decide) (by decide) (by decide) (by decide) (by decide) (Nat.le_of_ble_eq_true rfl) (Nat.le_of_ble_eq_true rfl) dX12_init_593 (fun H hE => ?_)
  refine W.widen (k := 70) (n := 155490) (Nat.le_of_ble_eq_true rfl) (Nat.le_of_ble_eq_true rfl) ?_
  refine c_putF b hin2 hE 107 rfl (in6 71 rfl rfl) rfl rfl rfl rfl (by decide) (by decide) dX12_init_595 (fun H locs hE => ?_)
  refine lv_aload_n b.1 b.2.1 dX12_init_598 rfl (lv_at hl 0 rfl) ?_
  refine lv_bipush (v := 20) b.1 b.2.1 dX12_init_599 (by decide) ?_
  refine c_newa2 b had hu hE 108 rfl rfl (by decide) (by decide) (by decide) (by decide) (by decide) (by decide) (by decide) (Nat.le_of_ble_eq_true rfl) (Nat.le_of_ble_eq_true rfl) dX12_init_601 (fun H hE => ?_)
  refine W.widen (k := 71) (n := 155510) (Nat.le_of_ble_eq_true rfl) (Nat.le_of_ble_eq_true rfl) ?_
  refine c_putF b hin2 hE 108 rfl (in6 72 rfl rfl) rfl rfl rfl rfl (by decide) (by decide) dX12_init_603 (fun H locs hE => ?_)
  refine lv_aload_n b.1 b.2.1 dX12_init_606 rfl (lv_at hl 0 rfl) ?_
  refine lv_bipush (v := 20) b.1 b.2.1 dX12_init_607 (by decide) ?_
  refine c_newa2 b had hu hE 109 rfl rfl (by decide) (by decide) (by decide) (by decide) (by decide) (by decide) (by decide) (Nat.le_of_ble_eq_true rfl) (Nat.le_of_ble_eq_true rfl) dX12_init_609 (fun H hE => ?_)
  refine W.widen (k := 72) (n := 155530) (Nat.le_of_ble_eq_true rfl) (Nat.le_of_ble_eq_true rfl) ?_
  refine c_putF b hin2 hE 109 rfl (in6 73 rfl rfl) rfl rfl rfl rfl (by decide) (by decide) dX12_init_611 (fun H locs hE => ?_)
  refine lv_aload_n b.1 b.2.1 dX12_init_614 rfl (lv_at hl 0 rfl) ?_
  refine lv_bipush (v := 20) b.1 b.2.1 dX12_init_615 (by decide) ?_
  refine c_newa1 b had hu hE 110 rfl rfl (by decide) (by decide) (by decide) (by decide) (by decide) (by decide) (by decide) (Nat.le_of_ble_eq_true rfl) (Nat.le_of_ble_eq_true rfl) dX12_init_617 (fun H hE => ?_)
  refine W.widen (k := 73) (n := 155550) (Nat.le_of_ble_eq_true rfl) (Nat.le_of_ble_eq_true rfl) ?_
  refine c_putF b hin2 hE 110 rfl (in6 74 rfl rfl) rfl rfl rfl rfl (by decide) (by decide) dX12_init_619 (fun H locs hE => ?_)
  refine lv_aload_n b.1 b.2.1 dX12_init_622 rfl (lv_at hl 0 rfl) ?_
  refine lv_bipush (v := 20) b.1 b.2.1 dX12_init_623 (by decide) ?_
  refine c_newa3 b had hu hE 111 rfl rfl (by decide) (by decide) (by decide) (by decide) (by decide) (by decide) (by decide) (Nat.le_of_ble_eq_true rfl) (Nat.le_of_ble_eq_true rfl) dX12_init_625 (fun H hE => ?_)
  refine W.widen (k := 74) (n := 155570) (Nat.le_of_ble_eq_true rfl) (Nat.le_of_ble_eq_true rfl) ?_
  refine c_putF b hin2 hE 111 rfl (in6 75 rfl rfl) rfl rfl rfl rfl (by decide) (by decide) dX12_init_627 (fun H locs hE => ?_)
  refine lv_aload_n b.1 b.2.1 dX12_init_630 rfl (lv_at hl 0 rfl) ?_
  refine lv_sipush (v := 600) b.1 b.2.1 dX12_init_631 (by decide) ?_
  refine c_newa1 b had hu hE 112 rfl rfl (by decide) (by decide) (by decide) (by decide) (by decide) (by decide) (by decide) (Nat.le_of_ble_eq_true rfl) (Nat.le_of_ble_eq_true rfl) dX12_init_634 (fun H hE => ?_)
  refine W.widen (k := 75) (n := 156170) (Nat.le_of_ble_eq_true rfl) (Nat.le_of_ble_eq_true rfl) ?_
  refine c_putF b hin2 hE 112 rfl (in6 76 rfl rfl) rfl rfl rfl rfl (by decide) (by decide) dX12_init_636 (fun H locs hE => ?_)
  refine lv_aload_n b.1 b.2.1 dX12_init_639 rfl (lv_at hl 0 rfl) ?_
  refine lv_sipush (v := 4000) b.1 b.2.1 dX12_init_640 (by decide) ?_
  refine c_newa0 b had hu hE 114 rfl rfl (by decide) (by decide) (by decide) (by decide) (by decide) (by decide) (by decide) (Nat.le_of_ble_eq_true rfl) (Nat.le_of_ble_eq_true rfl) dX12_init_643 (fun H hE => ?_)
  refine W.widen (k := 76) (n := 160170) (Nat.le_of_ble_eq_true rfl) (Nat.le_of_ble_eq_true rfl) ?_
  refine c_putF b hin2 hE 114 rfl (in6 78 rfl rfl) rfl rfl rfl rfl (by decide) (by decide) dX12_init_645 (fun H locs hE => ?_)
  refine lv_aload_n b.1 b.2.1 dX12_init_648 rfl (lv_at hl 0 rfl) ?_
  refine lv_bipush (v := 12) b.1 b.2.1 dX12_init_649 (by decide) ?_
  refine c_newa1 b had hu hE 115 rfl rfl (by decide) (by decide) (by decide) (by decide) (by decide) (by decide) (by decide) (Nat.le_of_ble_eq_true rfl) (Nat.le_of_ble_eq_true rfl) dX12_init_651 (fun H hE => ?_)
  refine W.widen (k := 77) (n := 160182) (Nat.le_of_ble_eq_true rfl) (Nat.le_of_ble_eq_true rfl) ?_
  refine c_putF b hin2 hE 115 rfl (in6 79 rfl rfl) rfl rfl rfl rfl (by decide) (by decide) dX12_init_653 (fun H locs hE => ?_)
  have hE : CE (EM D aC ad (mSI mz 17 (-1))) (Rg ad) s _ _ := ⟨⟨by have := hE.1.1; rw [wMc_end] at this; exact this, hE.1.2.trans h117.symm⟩, hE.2⟩
  exact wfX12_init_656 b hlk hr zs zk hin2 hf (Nat.le_refl _) (Nat.le_refl _) hE (lv_sub hl [0] rfl)
end
