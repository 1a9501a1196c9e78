section MR
variable {p : Program} {l : Launch} {e : Env} {R : Room} {s : State} {m : MethodId} {args : Array Value} {below : List Frame} {meth : Method} {c : Code} {H : Heap} {locs : List Loc} {cells slots : Nat} {Q : State → Prop}
variable {cc : ByteArray} {pc nL : Nat} {ls : Array Slot} {rest : List Value} {D : va_G} {aC : Nat → ClassId} {ad : Nat → Nat} {u : MS}
theorem m_get (b : Bd p s m c cc nL RX12 D aC) (hE : CE (EM D aC ad u) (Rg ad) s H locs) {index : Nat} (k : Nat) (hk : k < 116) (hl : Cond.fieldLink RX12 index (TX12 k).1 (TX12 k).2.1 (TX12 k).2.2.1 ∈ tbl) (hdg : decode cc pc = .ok (.getfield index, 3))
    (kk : W p l e R s m args below meth c H locs cells slots Q (F0 m (pc + 3) ls (mfk u ad (mk k) k :: rest))) : W p l e R s m args below meth c H locs cells slots Q (F0 m pc ls (.ref (ad 116) :: rest)) :=
  k_get b hE.1.1 inX12 rfl k hk hl wM_o hdg kk
theorem m_putI (b : Bd p s m c cc nL RX12 D aC) (hE : CE (EM D aC ad u) (Rg ad) s H locs) {index : Nat} (k : Nat) (hk : k < 116) (hl : Cond.fieldLink RX12 index (TX12 k).1 (TX12 k).2.1 (TX12 k).2.2.1 ∈ tbl) (hfin : (TX12 k).2.2.2 = false) (hkd : mk k = 0) {v : Int32} (hn : narrow (tyX12 k) (.int v) = .int v) (hfit : fits (tyX12 k) (.int v) = true) (hdg : decode cc pc = .ok (.putfield index, 3))
    (kk : ∀ (H1 : Heap) (locs1 : List Loc), CE (EM D aC ad (mSI u k v)) (Rg ad) s H1 locs1 → W p l e R s m args below meth c H1 locs1 cells slots Q (F0 m (pc + 3) ls (rest))) : W p l e R s m args below meth c H locs cells slots Q (F0 m pc ls (.int v :: .ref (ad 116) :: rest)) :=
  k_put b hE.1.1 hE.2 inX12 rfl tyX12 tyX12_ok nmX12 k hk hl hfin wM_o hn hfit (w' := wM (mSI u k v) ad) (fun j hj => wM_sI hj) (by rw [wM_o, mfv_sI hkd]) hdg (fun H1 l1 g1 g2 z => kk H1 l1 ⟨⟨g1, z.trans hE.1.2⟩, g2⟩)
theorem m_putL (b : Bd p s m c cc nL RX12 D aC) (hE : CE (EM D aC ad u) (Rg ad) s H locs) {index : Nat} (k : Nat) (hk : k < 116) (hl : Cond.fieldLink RX12 index (TX12 k).1 (TX12 k).2.1 (TX12 k).2.2.1 ∈ tbl) (hfin : (TX12 k).2.2.2 = false) (hkd : mk k = 1) {v : Int64} (hn : narrow (tyX12 k) (.long v) = .long v) (hfit : fits (tyX12 k) (.long v) = true) (hdg : decode cc pc = .ok (.putfield index, 3))
    (kk : ∀ (H1 : Heap) (locs1 : List Loc), CE (EM D aC ad (mSL u k v)) (Rg ad) s H1 locs1 → W p l e R s m args below meth c H1 locs1 cells slots Q (F0 m (pc + 3) ls (rest))) : W p l e R s m args below meth c H locs cells slots Q (F0 m pc ls (.long v :: .ref (ad 116) :: rest)) :=
  k_put b hE.1.1 hE.2 inX12 rfl tyX12 tyX12_ok nmX12 k hk hl hfin wM_o hn hfit (w' := wM (mSL u k v) ad) (fun j hj => wM_sL hj) (by rw [wM_o, mfv_sL hkd]) hdg (fun H1 l1 g1 g2 z => kk H1 l1 ⟨⟨g1, z.trans hE.1.2⟩, g2⟩)
theorem m_iald (b : Bd p s m c cc nL RX12 D aC) (hE : CE (EM D aC ad u) (Rg ad) s H locs) {k : Nat} {i : Int32} (hk : mk k = 2) (ht : mak k = 1) (hi : ix i (mlen k) = true) (hdg : decode cc pc = .ok (.iaload, 1))
    (kk : W p l e R s m args below meth c H locs cells slots Q (F0 m (pc + 1) ls (.int (mA u k i.toNatClampNeg) :: rest))) : W p l e R s m args below meth c H locs cells slots Q (F0 m pc ls (.int i :: .ref (ad k) :: rest)) :=
  k_iald b hE.1.1 (wM_a hk ht) (ix_in hi) hdg kk
theorem m_bald (b : Bd p s m c cc nL RX12 D aC) (hE : CE (EM D aC ad u) (Rg ad) s H locs) {k : Nat} {i : Int32} (hk : mk k = 2) (ht : mak k = 0) (hi : ix i (mlen k) = true) (hdg : decode cc pc = .ok (.baload, 1))
    (kk : W p l e R s m args below meth c H locs cells slots Q (F0 m (pc + 1) ls (.int (mA u k i.toNatClampNeg) :: rest))) : W p l e R s m args below meth c H locs cells slots Q (F0 m pc ls (.int i :: .ref (ad k) :: rest)) :=
  k_bald b hE.1.1 (wM_a hk ht) (ix_in hi) hdg kk
theorem m_zald (b : Bd p s m c cc nL RX12 D aC) (hE : CE (EM D aC ad u) (Rg ad) s H locs) {k : Nat} {i : Int32} (hk : mk k = 2) (ht : mak k = 3) (hi : ix i (mlen k) = true) (hdg : decode cc pc = .ok (.baload, 1))
    (kk : W p l e R s m args below meth c H locs cells slots Q (F0 m (pc + 1) ls (.int (mA u k i.toNatClampNeg) :: rest))) : W p l e R s m args below meth c H locs cells slots Q (F0 m pc ls (.int i :: .ref (ad k) :: rest)) :=
  k_zald b hE.1.1 (wM_a hk ht) (ix_in hi) hdg kk
theorem m_lald (b : Bd p s m c cc nL RX12 D aC) (hE : CE (EM D aC ad u) (Rg ad) s H locs) {k : Nat} {i : Int32} (hk : mk k = 2) (ht : mak k = 2) (hi : ix i (mlen k) = true) (hdg : decode cc pc = .ok (.laload, 1))
    (kk : W p l e R s m args below meth c H locs cells slots Q (F0 m (pc + 1) ls (.long (mB u k i.toNatClampNeg) :: rest))) : W p l e R s m args below meth c H locs cells slots Q (F0 m pc ls (.int i :: .ref (ad k) :: rest)) :=
  k_lald b hE.1.1 (wM_a hk ht) (ix_in hi) hdg kk
theorem m_iast (b : Bd p s m c cc nL RX12 D aC) (hE : CE (EM D aC ad u) (Rg ad) s H locs) {k : Nat} {i : Int32} {x : Int32} (hk : mk k = 2) (ht : mak k = 1) (hi : ix i (mlen k) = true) (hdg : decode cc pc = .ok (.iastore, 1))
    (kk : ∀ (H1 : Heap) (locs1 : List Loc), CE (EM D aC ad (mSA u k i.toNatClampNeg (x))) (Rg ad) s H1 locs1 → W p l e R s m args below meth c H1 locs1 cells slots Q (F0 m (pc + 1) ls (rest))) : W p l e R s m args below meth c H locs cells slots Q (F0 m pc ls (.int x :: .int i :: .ref (ad k) :: rest)) := by
  refine k_iast b hE.1.1 hE.2 (wM_a hk ht) (ix_in hi) (w' := wM (mSA u k i.toNatClampNeg (x)) ad) (fun j hj => wM_sA hj) ?_ hdg (fun H1 l1 g1 g2 z => kk H1 l1 ⟨⟨g1, z.trans hE.1.2⟩, g2⟩)
  rw [wM_a hk ht]
  refine congrArg some (congrArg Sum.inr (congrArg (Prod.mk _) (congrArg (Prod.mk _) (funext fun j => ?_))))
  unfold updV
  by_cases hj : j = i.toNatClampNeg
  · rw [if_pos hj, hj]; exact congrArg _ up2_s
  · rw [if_neg hj]; exact congrArg _ (up2_2 hj)
theorem m_bast (b : Bd p s m c cc nL RX12 D aC) (hE : CE (EM D aC ad u) (Rg ad) s H locs) {k : Nat} {i : Int32} {x : Int32} (hk : mk k = 2) (ht : mak k = 0) (hi : ix i (mlen k) = true) (hdg : decode cc pc = .ok (.bastore, 1))
    (kk : ∀ (H1 : Heap) (locs1 : List Loc), CE (EM D aC ad (mSA u k i.toNatClampNeg (x.toInt8.toInt32))) (Rg ad) s H1 locs1 → W p l e R s m args below meth c H1 locs1 cells slots Q (F0 m (pc + 1) ls (rest))) : W p l e R s m args below meth c H locs cells slots Q (F0 m pc ls (.int x :: .int i :: .ref (ad k) :: rest)) := by
  refine k_bast b hE.1.1 hE.2 (wM_a hk ht) (ix_in hi) (w' := wM (mSA u k i.toNatClampNeg (x.toInt8.toInt32)) ad) (fun j hj => wM_sA hj) ?_ hdg (fun H1 l1 g1 g2 z => kk H1 l1 ⟨⟨g1, z.trans hE.1.2⟩, g2⟩)
  rw [wM_a hk ht]
  refine congrArg some (congrArg Sum.inr (congrArg (Prod.mk _) (congrArg (Prod.mk _) (funext fun j => ?_))))
  unfold updV
  by_cases hj : j = i.toNatClampNeg
  · rw [if_pos hj, hj]; exact congrArg _ up2_s
  · rw [if_neg hj]; exact congrArg _ (up2_2 hj)
theorem m_zast (b : Bd p s m c cc nL RX12 D aC) (hE : CE (EM D aC ad u) (Rg ad) s H locs) {k : Nat} {i : Int32} {x : Int32} (hx : isB x = true) (hk : mk k = 2) (ht : mak k = 3) (hi : ix i (mlen k) = true) (hdg : decode cc pc = .ok (.bastore, 1))
    (kk : ∀ (H1 : Heap) (locs1 : List Loc), CE (EM D aC ad (mSA u k i.toNatClampNeg (x))) (Rg ad) s H1 locs1 → W p l e R s m args below meth c H1 locs1 cells slots Q (F0 m (pc + 1) ls (rest))) : W p l e R s m args below meth c H locs cells slots Q (F0 m pc ls (.int x :: .int i :: .ref (ad k) :: rest)) := by
  refine k_zast b hE.1.1 hE.2 (wM_a hk ht) hx (ix_in hi) (w' := wM (mSA u k i.toNatClampNeg (x)) ad) (fun j hj => wM_sA hj) ?_ hdg (fun H1 l1 g1 g2 z => kk H1 l1 ⟨⟨g1, z.trans hE.1.2⟩, g2⟩)
  rw [wM_a hk ht]
  refine congrArg some (congrArg Sum.inr (congrArg (Prod.mk _) (congrArg (Prod.mk _) (funext fun j => ?_))))
  unfold updV
  by_cases hj : j = i.toNatClampNeg
  · rw [if_pos hj, hj]; exact congrArg _ up2_s
  · rw [if_neg hj]; exact congrArg _ (up2_2 hj)
theorem m_last (b : Bd p s m c cc nL RX12 D aC) (hE : CE (EM D aC ad u) (Rg ad) s H locs) {k : Nat} {i : Int32} {x : Int64} (hk : mk k = 2) (ht : mak k = 2) (hi : ix i (mlen k) = true) (hdg : decode cc pc = .ok (.lastore, 1))
    (kk : ∀ (H1 : Heap) (locs1 : List Loc), CE (EM D aC ad (mSB u k i.toNatClampNeg (x))) (Rg ad) s H1 locs1 → W p l e R s m args below meth c H1 locs1 cells slots Q (F0 m (pc + 1) ls (rest))) : W p l e R s m args below meth c H locs cells slots Q (F0 m pc ls (.long x :: .int i :: .ref (ad k) :: rest)) := by
  refine k_last b hE.1.1 hE.2 (wM_a hk ht) (ix_in hi) (w' := wM (mSB u k i.toNatClampNeg (x)) ad) (fun j hj => wM_sB hj) ?_ hdg (fun H1 l1 g1 g2 z => kk H1 l1 ⟨⟨g1, z.trans hE.1.2⟩, g2⟩)
  rw [wM_a hk ht]
  refine congrArg some (congrArg Sum.inr (congrArg (Prod.mk _) (congrArg (Prod.mk _) (funext fun j => ?_))))
  unfold updV
  by_cases hj : j = i.toNatClampNeg
  · rw [if_pos hj, hj]; exact congrArg _ up2_s
  · rw [if_neg hj]; exact congrArg _ (up2_2 hj)
theorem m_recv (b : Bd p s m c cc nL RX12 D aC) (hE : CE (EM D aC ad u) (Rg ad) s H locs) : ∃ cellB : Cell, H[ad 116]? = some cellB ∧ cellB.vm.isStatics = false ∧ s.vm.findClass RX12 = some cellB.cls := by
  obtain ⟨r, h1, cell, g1, g2, g3, -⟩ := hE.1.1.1 116 _ _ wM_o
  exact ⟨cell, g1, by rw [g3]; rfl, by rw [g2]; exact (b.2.2.2.2.2.1.1 12 _ rfl).2.1⟩
end MR
