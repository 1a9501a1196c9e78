/-- the whole array a -/
def stB (h : PH) (a : Nat) (l : List Int64) : PH := (h.1, h.2.1, h.2.2.1, h.2.2.2.1, fun x i => if x = a then l.getD i 0 else hB h x i, h.2.2.2.2.2)
theorem stB_sB (h : PH) (a k : Nat) (v : Int64) (l : List Int64) : stB (sB h a k v) a l = stB h a l := by
  unfold stB
  refine congrArg (Prod.mk _) (congrArg (Prod.mk _) (congrArg (Prod.mk _) (congrArg (Prod.mk _) (Prod.ext ?_ rfl))))
  funext x i
  show (if x = a then _ else hB (sB h a k v) x i) = _
  by_cases hx : x = a
  · rw [if_pos hx]; exact (if_pos hx).symm
  · rw [if_neg hx, z_hB_sB, if_neg (fun z => hx z.1)]; exact (if_neg hx).symm
theorem stB_self (h : PH) (a : Nat) (l : List Int64) (hl : hB h a = fun i => l.getD i 0) : stB h a l = h := by
  obtain ⟨h1, h2, h3, h4, h5, h6⟩ := h
  unfold stB
  refine congrArg (Prod.mk _) (congrArg (Prod.mk _) (congrArg (Prod.mk _) (congrArg (Prod.mk _) (Prod.ext ?_ rfl))))
  funext x i
  by_cases hx : x = a
  · subst hx; show (if x = x then _ else _) = _; rw [if_pos rfl]; exact (congrFun hl i).symm
  · exact if_neg hx
theorem z_hB_stB (h : PH) (a : Nat) (l : List Int64) (x i : Nat) : hB (stB h a l) x i = if x = a then l.getD i 0 else hB h x i := rfl
theorem gD_s {l : List Int64} {k : Nat} {v : Int64} (h : k < l.length) : (l.set k v).getD k 0 = v := by
  rw [List.getD_eq_getElem?_getD, List.getElem?_set_self h]
  rfl
theorem gD_n {l : List Int64} {k i : Nat} {v : Int64} (h : k ≠ i) : (l.set k v).getD i 0 = l.getD i 0 := by
  rw [List.getD_eq_getElem?_getD, List.getD_eq_getElem?_getD, List.getElem?_set_ne h]
/-- the keywords' loop on a list -/
def kwL : Nat → List Int64 → Int32 → Int32 → Option (List Int64)
  | 0, _, _, _ => none
  | n + 1, l, x1, x2 => if 87 ≤ x2 then some l else if schr 5 x2.toNatClampNeg = 32 then kwL n l (x1 + 1) (x2 + 1) else if 18 ≤ x1 then kwL n l x1 (x2 + 1) else if ix x1 18 then kwL n (l.set x1.toNatClampNeg ((l.getD x1.toNatClampNeg 0 <<< ((6 : Int32).toInt64 &&& 63)) ||| Int32.toInt64 ((schr 5 x2.toNatClampNeg - 97) + 1))) x1 (x2 + 1) else none
def KWS : List Int64 := [17268552654, 6091908, 79181, 49239, 4723595, 1647565, 356074060, 21380, 4022610, 4805381, 8274, 5247685, 3470548, 202642644, 4985669, 256934226, 582, 58324]
set_option maxRecDepth 100000 in
theorem kw_eval : kwL FU (List.replicate 18 0) 0 0 = some KWS := by decide +kernel
theorem slen5 : slen 5 = 87 := rfl
theorem ix_lt {i : Int32} {n : Nat} (h : ix i n = true) : i.toNatClampNeg < n := by
  simp only [ix, Bool.and_eq_true, decide_eq_true_eq] at h
  exact h.2
theorem kw_loop (x0 a : Nat) : ∀ (n : Nat) (l : List Int64) (x1 x2 : Int32) (h : PH) (l' : List Int64), 0 ≤ x2 → hT h x0 = 11 → hR h 1280 x0 = some a → hT h a = 102 → hN h a = 18 → l.length = 18 → hB h a = (fun i => l.getD i 0) → kwL n l x1 x2 = some l' → fX10_init_37 n h x0 x1 x2 = some (stB h a l', 0, 0) := by
  intro n
  induction n with
  | zero => intro l x1 x2 h l' _ _ _ _ _ _ _ hk; cases hk
  | succ n ih =>
    intro l x1 x2 h l' h0 t1 t2 t3 t4 t5 t6 hk
    show fX10_init_37F (fX10_init_37 n) h x0 x1 x2 = _
    unfold fX10_init_37F fX10_init_94
    have e1 : fJ0_length_8abf5 5 = some 87 := rfl
    rw [e1, oB_v]
    unfold kwL at hk
    by_cases c1 : 87 ≤ x2
    · rw [if_pos c1] at hk ⊢
      cases hk
      rw [stB_self h a l t6]
    · rw [if_neg c1] at hk ⊢
      have hlt : x2.toNatClampNeg < 87 := by
        have q1 := Int32.not_le.mp c1
        have q2 := Int32.lt_iff_toInt_lt.mp q1
        have q3 : (87 : Int32).toInt = 87 := rfl
        show x2.toInt.toNat < 87
        omega
      have hx : ix x2 (slen 5) = true := by
        simp only [ix, Bool.and_eq_true, decide_eq_true_eq]
        exact ⟨h0, hlt⟩
      have e2 : fJ0_charAt_5068e 5 x2 = some (schr 5 x2.toNatClampNeg) := by
        unfold fJ0_charAt_5068e
        rw [hx]
        rfl
      have h0' : 0 ≤ x2 + 1 := by
        have q2 := Int32.le_iff_toInt_le.mp h0
        have q1 := Int32.lt_iff_toInt_lt.mp (Int32.not_le.mp c1)
        have q3 : (87 : Int32).toInt = 87 := rfl
        have q4 : (0 : Int32).toInt = 0 := rfl
        have q5 : (1 : Int32).toInt = 1 := rfl
        rw [Int32.le_iff_toInt_le, Int32.toInt_add, q5, Int.bmod_eq_of_le] <;> omega
      rw [e2, oB_v]
      by_cases c2 : schr 5 x2.toNatClampNeg = 32
      · rw [if_pos c2] at hk ⊢
        simp only [oL_v]
        exact ih l (x1 + 1) (x2 + 1) h l' h0' t1 t2 t3 t4 t5 t6 hk
      · rw [if_neg c2] at hk ⊢
        by_cases c3 : 18 ≤ x1
        · rw [if_pos c3] at hk ⊢
          simp only [oL_v]
          exact ih l x1 (x2 + 1) h l' h0' t1 t2 t3 t4 t5 t6 hk
        · rw [if_neg c3] at hk ⊢
          by_cases c4 : ix x1 18 = true
          · rw [if_pos c4] at hk
            rw [oC_d t1, t2, oN_v, oC_d t3, t4, oC_t c4, oC_t c4]
            simp only [oL_v]
            have e3 : hB h a x1.toNatClampNeg = l.getD x1.toNatClampNeg 0 := congrFun t6 _
            rw [e3]
            have hh := ih _ x1 (x2 + 1) (sB h a x1.toNatClampNeg ((l.getD x1.toNatClampNeg 0 <<< ((6 : Int32).toInt64 &&& 63)) ||| Int32.toInt64 ((schr 5 x2.toNatClampNeg - 97) + 1))) l' h0' t1 t2 t3 t4 (by rw [List.length_set]; exact t5) ?_ hk
            · rw [hh, stB_sB]
            · funext i
              rw [z_hB_sB]
              by_cases hi : i = x1.toNatClampNeg
              · subst hi
                rw [if_pos ⟨rfl, rfl⟩]
                exact (gD_s (by rw [t5]; exact ix_lt c4)).symm
              · rw [if_neg (fun z => hi z.2), t6]
                exact (gD_n (Ne.symm hi)).symm
          · rw [if_neg c4] at hk; cases hk

theorem fX0_init_v {h : PH} {a : Nat} (ht : hT h a = 1) (ha : a ≠ hZ h) : fX0_init h a = some (sR (nA h 100 0) 0 a (some (hZ h)), 1, 0) := by
  unfold fX0_init fX0_init_0
  have e : hT (nA h 100 (Int32.toNatClampNeg 0)) a = 1 := by rw [z_hT_nA, if_neg ha, ht]
  simp only [oL_v]
  rw [oC_d e]
  rfl
theorem fX7_init_v {h : PH} {a : Nat} {x : Int32} {n : Nat} (hx : (if 0 < x then x else 0) = nI n) (hn : n ≤ 1000) (ht : hT h a = 8) (ha : a ≠ hZ h) : fX7_init h a x = some (sR (nA h 102 n) 896 a (some (hZ h)), 1, n) := by
  unfold fX7_init fX7_init_0
  rw [hx, nI_clamp (by omega)]
  have e : hT (nA h 102 n) a = 8 := by rw [z_hT_nA, if_neg ha, ht]
  simp only [oL_v]
  rw [oC_d (nI_pos' (by omega)), oC_d (show n * 8 ≤ 536870912 by omega), oC_d e]
  rfl
