def lkR : List (Nat × Nat × Nat) → Nat → Nat → Option Nat
  | [], _, _ => none
  | q :: r, f, a => if f = q.1 ∧ a = q.2.1 then some q.2.2 else lkR r f a
/-- a heap by tables: tags, lengths, references; the fault's place; the keywords at 25 -/
def tabH (T N : List Nat) (R : List (Nat × Nat × Nat)) (c : Int32) (l : List Int64) : PH := (fun f a => if f = 1415 ∧ a = 0 then c else 0, fun _ _ => 0, lkR R, fun _ _ => 0, fun a i => if a = 25 then l.getD i 0 else 0, fun _ _ => none, fun a => T.getD a 0, fun a => N.getD a 0, T.length)
def okT (T N : List Nat) (R : List (Nat × Nat × Nat)) : Bool := decide (N.length = T.length) && decide (0 < T.length) && R.all (fun q => decide (q.2.1 < T.length))
theorem lkR_none {R : List (Nat × Nat × Nat)} {z : Nat} (h : R.all (fun q => decide (q.2.1 < z)) = true) {f a : Nat} (ha : z ≤ a) : lkR R f a = none := by
  induction R with
  | nil => rfl
  | cons q r ih =>
    simp only [List.all_cons, Bool.and_eq_true, decide_eq_true_eq] at h
    unfold lkR
    rw [if_neg (fun z => by omega)]
    exact ih h.2
theorem gD_app (T : List Nat) (t a : Nat) : (T ++ [t]).getD a 0 = if a = T.length then t else T.getD a 0 := by
  rw [List.getD_eq_getElem?_getD, List.getD_eq_getElem?_getD]
  by_cases h : a < T.length
  · rw [List.getElem?_append_left h, if_neg (by omega)]
  · rw [List.getElem?_append_right (by omega)]
    by_cases h2 : a = T.length
    · rw [if_pos h2, h2, Nat.sub_self]; rfl
    · rw [if_neg h2]
      have e1 : ([t] : List Nat)[a - T.length]? = none := by rw [List.getElem?_eq_none]; show 1 ≤ _; omega
      have e2 : T[a]? = none := by rw [List.getElem?_eq_none]; omega
      rw [e1, e2]
theorem nO_tab (T N : List Nat) (R : List (Nat × Nat × Nat)) (c : Int32) (l : List Int64) (t : Nat) (h : okT T N R = true) : nO (tabH T N R c l) t = tabH (T ++ [t]) (N ++ [0]) R c l := by
  simp only [okT, Bool.and_eq_true, decide_eq_true_eq] at h
  unfold nO tabH
  refine Prod.ext ?_ (Prod.ext ?_ (Prod.ext ?_ (Prod.ext rfl (Prod.ext rfl (Prod.ext rfl (Prod.ext ?_ (Prod.ext ?_ ?_)))))))
  · funext f a
    show (if a = T.length then (0 : Int32) else (if f = 1415 ∧ a = 0 then c else 0)) = _
    by_cases ha : a = T.length
    · rw [if_pos ha]; exact (if_neg (fun z => by omega)).symm
    · rw [if_neg ha]
  · funext f a
    show (if a = T.length then (0 : Int64) else 0) = 0
    split <;> rfl
  · funext f a
    show (if a = T.length then none else lkR R f a) = lkR R f a
    by_cases ha : a = T.length
    · rw [if_pos ha, lkR_none h.2 (Nat.le_of_eq ha.symm)]
    · rw [if_neg ha]
  · funext a
    exact (gD_app T t a).symm
  · funext a
    show N.getD a 0 = (N ++ [0]).getD a 0
    rw [gD_app]
    by_cases ha : a = N.length
    · rw [if_pos ha, List.getD_eq_getElem?_getD, List.getElem?_eq_none (by omega)]; rfl
    · rw [if_neg ha]
  · show T.length + 1 = (T ++ [t]).length
    rw [List.length_append]; rfl
theorem nA_tab (T N : List Nat) (R : List (Nat × Nat × Nat)) (c : Int32) (l : List Int64) (t n : Nat) (h : okT T N R = true) (hl : l = []) : nA (tabH T N R c l) t n = tabH (T ++ [t]) (N ++ [n]) R c l := by
  subst hl
  simp only [okT, Bool.and_eq_true, decide_eq_true_eq] at h
  unfold nA tabH
  refine Prod.ext rfl (Prod.ext rfl (Prod.ext rfl (Prod.ext ?_ (Prod.ext ?_ (Prod.ext ?_ (Prod.ext ?_ (Prod.ext ?_ ?_)))))))
  · funext a i
    show (if a = T.length then (0 : Int32) else 0) = 0
    split <;> rfl
  · funext a i
    show (if a = T.length then (0 : Int64) else (if a = 25 then ([] : List Int64).getD i 0 else 0)) = (if a = 25 then ([] : List Int64).getD i 0 else 0)
    have e : ([] : List Int64).getD i 0 = 0 := rfl
    rw [e]
    split <;> split <;> rfl
  · funext a i
    show (if a = T.length then none else (none : Option Nat)) = none
    split <;> rfl
  · funext a
    exact (gD_app T t a).symm
  · funext a
    show (if a = T.length then n else N.getD a 0) = (N ++ [n]).getD a 0
    rw [gD_app, h.1.1]
  · show T.length + 1 = (T ++ [t]).length
    rw [List.length_append]; rfl
theorem sR_tab (T N : List Nat) (R : List (Nat × Nat × Nat)) (c : Int32) (l : List Int64) (f a b : Nat) : sR (tabH T N R c l) f a (some b) = tabH T N ((f, a, b) :: R) c l := rfl
theorem hZ_tab (T N : List Nat) (R : List (Nat × Nat × Nat)) (c : Int32) (l : List Int64) : hZ (tabH T N R c l) = T.length := rfl
theorem hT_tab (T N : List Nat) (R : List (Nat × Nat × Nat)) (c : Int32) (l : List Int64) (a : Nat) : hT (tabH T N R c l) a = T.getD a 0 := rfl
theorem hN_tab (T N : List Nat) (R : List (Nat × Nat × Nat)) (c : Int32) (l : List Int64) (a : Nat) : hN (tabH T N R c l) a = N.getD a 0 := rfl
theorem hR_tab (T N : List Nat) (R : List (Nat × Nat × Nat)) (c : Int32) (l : List Int64) (f a : Nat) : hR (tabH T N R c l) f a = lkR R f a := rfl
theorem stB_tab (T N : List Nat) (R : List (Nat × Nat × Nat)) (c : Int32) (l l' : List Int64) : stB (tabH T N R c l) 25 l' = tabH T N R c l' := by
  unfold stB tabH
  refine congrArg (Prod.mk _) (congrArg (Prod.mk _) (congrArg (Prod.mk _) (congrArg (Prod.mk _) (Prod.ext ?_ rfl))))
  funext x i
  by_cases hx : x = 25
  · exact (if_pos hx).trans (if_pos hx).symm
  · exact (if_neg hx).trans ((if_neg hx).trans (if_neg hx).symm)
theorem fX0_init_t (T N : List Nat) (R : List (Nat × Nat × Nat)) (c : Int32) (a : Nat) (h : okT T N R = true) (ht : T.getD a 0 = 1) : fX0_init (tabH T N R c []) a = some (tabH (T ++ [100]) (N ++ [0]) ((0, a, T.length) :: R) c [], 1, 0) := by
  have ha : a ≠ T.length := fun q => by rw [q, List.getD_eq_getElem?_getD, List.getElem?_eq_none (Nat.le_refl _)] at ht; cases ht
  rw [fX0_init_v (show hT (tabH T N R c []) a = 1 from ht) ha, nA_tab T N R c [] 100 0 h rfl, hZ_tab, sR_tab]
theorem fX7_init_t (T N : List Nat) (R : List (Nat × Nat × Nat)) (c : Int32) (a : Nat) (x : Int32) (n : Nat) (hx : (if 0 < x then x else 0) = nI n) (hn : n ≤ 1000) (h : okT T N R = true) (ht : T.getD a 0 = 8) : fX7_init (tabH T N R c []) a x = some (tabH (T ++ [102]) (N ++ [n]) ((896, a, T.length) :: R) c [], 1, n) := by
  have ha : a ≠ T.length := fun q => by rw [q, List.getD_eq_getElem?_getD, List.getElem?_eq_none (Nat.le_refl _)] at ht; cases ht
  rw [fX7_init_v hx hn (show hT (tabH T N R c []) a = 8 from ht) ha, nA_tab T N R c [] 102 n h rfl, hZ_tab, sR_tab]
theorem r7_5 (T N : List Nat) (R : List (Nat × Nat × Nat)) (c : Int32) (a : Nat) (h : okT T N R = true) (ht : T.getD a 0 = 8) : fX7_init (tabH T N R c []) a 5 = some (tabH (T ++ [102]) (N ++ [5]) ((896, a, T.length) :: R) c [], 1, 5) := fX7_init_t T N R c a 5 5 rfl (by decide) h ht
theorem r7_12 (T N : List Nat) (R : List (Nat × Nat × Nat)) (c : Int32) (a : Nat) (h : okT T N R = true) (ht : T.getD a 0 = 8) : fX7_init (tabH T N R c []) a 12 = some (tabH (T ++ [102]) (N ++ [12]) ((896, a, T.length) :: R) c [], 1, 12) := fX7_init_t T N R c a 12 12 rfl (by decide) h ht
theorem r7_4 (T N : List Nat) (R : List (Nat × Nat × Nat)) (c : Int32) (a : Nat) (h : okT T N R = true) (ht : T.getD a 0 = 8) : fX7_init (tabH T N R c []) a 4 = some (tabH (T ++ [102]) (N ++ [4]) ((896, a, T.length) :: R) c [], 1, 4) := fX7_init_t T N R c a 4 4 rfl (by decide) h ht
theorem r7_10 (T N : List Nat) (R : List (Nat × Nat × Nat)) (c : Int32) (a : Nat) (h : okT T N R = true) (ht : T.getD a 0 = 8) : fX7_init (tabH T N R c []) a 10 = some (tabH (T ++ [102]) (N ++ [10]) ((896, a, T.length) :: R) c [], 1, 10) := fX7_init_t T N R c a 10 10 rfl (by decide) h ht
theorem r7_30 (T N : List Nat) (R : List (Nat × Nat × Nat)) (c : Int32) (a : Nat) (h : okT T N R = true) (ht : T.getD a 0 = 8) : fX7_init (tabH T N R c []) a 30 = some (tabH (T ++ [102]) (N ++ [30]) ((896, a, T.length) :: R) c [], 1, 30) := fX7_init_t T N R c a 30 30 rfl (by decide) h ht
set_option maxHeartbeats 8000000 in
set_option maxRecDepth 20000 in
theorem i_code : fX1_init (tabH [12, 1, 100, 1, 100, 2] [0, 0, 0, 0, 0, 0] [(1409, 0, 3), (0, 3, 4), (1408, 0, 1), (0, 1, 2)] 0 []) 5 = some ((tabH [12, 1, 100, 1, 100, 2, 8, 102, 8, 102, 8, 102, 8, 102, 8, 102, 101, 101, 101, 104, 101, 101, 101] [0, 0, 0, 0, 0, 0, 0, 5, 0, 12, 0, 4, 0, 10, 0, 30, 12, 20, 50, 30, 20, 20, 16] [(141, 5, 22), (138, 5, 21), (137, 5, 20), (136, 5, 19), (135, 5, 18), (134, 5, 17), (133, 5, 16), (132, 5, 14), (896, 14, 15), (131, 5, 12), (896, 12, 13), (130, 5, 10), (896, 10, 11), (129, 5, 8), (896, 8, 9), (128, 5, 6), (896, 6, 7), (1409, 0, 3), (0, 3, 4), (1408, 0, 1), (0, 1, 2)] 0 []), 17, 244) := by
  unfold fX1_init fX1_init_0
  simp (decide := true) only [oL_v, oK3_v, oB3_v, nO_tab, nA_tab, sR_tab, hZ_tab, hT_tab, hR_tab, oC_d, Int32.reduceToNatClampNeg, List.cons_append, List.nil_append, List.length_cons, List.length_nil, Nat.reduceAdd, r7_5, r7_12, r7_4, r7_10, r7_30]
-- MORE
theorem nA_tabK (T N : List Nat) (R : List (Nat × Nat × Nat)) (c : Int32) (l : List Int64) (t n : Nat) (h : okT T N R = true) (hl : 26 ≤ T.length) : nA (tabH T N R c l) t n = tabH (T ++ [t]) (N ++ [n]) R c l := by
  simp only [okT, Bool.and_eq_true, decide_eq_true_eq] at h
  unfold nA tabH
  refine Prod.ext rfl (Prod.ext rfl (Prod.ext rfl (Prod.ext ?_ (Prod.ext ?_ (Prod.ext ?_ (Prod.ext ?_ (Prod.ext ?_ ?_)))))))
  · funext a i
    show (if a = T.length then (0 : Int32) else 0) = 0
    split <;> rfl
  · funext a i
    show (if a = T.length then (0 : Int64) else (if a = 25 then l.getD i 0 else 0)) = (if a = 25 then l.getD i 0 else 0)
    by_cases ha : a = T.length
    · rw [if_pos ha, if_neg (by omega)]
    · rw [if_neg ha]
  · funext a i
    show (if a = T.length then none else (none : Option Nat)) = none
    split <;> rfl
  · funext a
    exact (gD_app T t a).symm
  · funext a
    show (if a = T.length then n else N.getD a 0) = (N ++ [n]).getD a 0
    rw [gD_app, h.1.1]
  · show T.length + 1 = (T ++ [t]).length
    rw [List.length_append]; rfl
theorem sI_tab (T N : List Nat) (R : List (Nat × Nat × Nat)) (c c' : Int32) (l : List Int64) : sI (tabH T N R c l) 1415 0 c' = tabH T N R c' l := by
  unfold sI tabH
  refine Prod.ext ?_ rfl
  funext f a
  show up2 _ 1415 0 c' f a = _
  unfold up2
  by_cases h : f = 1415 ∧ a = 0
  · exact (if_pos h).trans (if_pos h).symm
  · exact (if_neg h).trans ((if_neg h).trans (if_neg h).symm)
theorem i_kw : fX10_init_37 FU (tabH [12, 1, 100, 1, 100, 2, 8, 102, 8, 102, 8, 102, 8, 102, 8, 102, 101, 101, 101, 104, 101, 101, 101, 5, 11, 102, 101, 101, 102] [0, 0, 0, 0, 0, 0, 0, 5, 0, 12, 0, 4, 0, 10, 0, 30, 12, 20, 50, 30, 20, 20, 16, 0, 0, 18, 0, 0, 0] [(1283, 24, 28), (1282, 24, 27), (1281, 24, 26), (1280, 24, 25), (1410, 0, 5), (141, 5, 22), (138, 5, 21), (137, 5, 20), (136, 5, 19), (135, 5, 18), (134, 5, 17), (133, 5, 16), (132, 5, 14), (896, 14, 15), (131, 5, 12), (896, 12, 13), (130, 5, 10), (896, 10, 11), (129, 5, 8), (896, 8, 9), (128, 5, 6), (896, 6, 7), (1409, 0, 3), (0, 3, 4), (1408, 0, 1), (0, 1, 2)] 0 []) 24 0 0 = some ((tabH [12, 1, 100, 1, 100, 2, 8, 102, 8, 102, 8, 102, 8, 102, 8, 102, 101, 101, 101, 104, 101, 101, 101, 5, 11, 102, 101, 101, 102] [0, 0, 0, 0, 0, 0, 0, 5, 0, 12, 0, 4, 0, 10, 0, 30, 12, 20, 50, 30, 20, 20, 16, 0, 0, 18, 0, 0, 0] [(1283, 24, 28), (1282, 24, 27), (1281, 24, 26), (1280, 24, 25), (1410, 0, 5), (141, 5, 22), (138, 5, 21), (137, 5, 20), (136, 5, 19), (135, 5, 18), (134, 5, 17), (133, 5, 16), (132, 5, 14), (896, 14, 15), (131, 5, 12), (896, 12, 13), (130, 5, 10), (896, 10, 11), (129, 5, 8), (896, 8, 9), (128, 5, 6), (896, 6, 7), (1409, 0, 3), (0, 3, 4), (1408, 0, 1), (0, 1, 2)] 0 KWS), 0, 0) := by
  rw [kw_loop 24 25 FU (List.replicate 18 0) 0 0 _ KWS (by decide) rfl rfl rfl rfl rfl ?_ kw_eval, stB_tab]
  funext i
  show (0 : Int64) = (List.replicate 18 (0 : Int64)).getD i 0
  rw [List.getD_eq_getElem?_getD, List.getElem?_replicate]
  split <;> rfl
theorem i_tokG (F : PH → Nat → Int32 → Int32 → Option (PH × Nat × Nat)) {y : PH} (hF : F (tabH [12, 1, 100, 1, 100, 2, 8, 102, 8, 102, 8, 102, 8, 102, 8, 102, 101, 101, 101, 104, 101, 101, 101, 5, 11, 102, 101, 101, 102] [0, 0, 0, 0, 0, 0, 0, 5, 0, 12, 0, 4, 0, 10, 0, 30, 12, 20, 50, 30, 20, 20, 16, 0, 0, 18, 0, 0, 0] [(1283, 24, 28), (1282, 24, 27), (1281, 24, 26), (1280, 24, 25), (1410, 0, 5), (141, 5, 22), (138, 5, 21), (137, 5, 20), (136, 5, 19), (135, 5, 18), (134, 5, 17), (133, 5, 16), (132, 5, 14), (896, 14, 15), (131, 5, 12), (896, 12, 13), (130, 5, 10), (896, 10, 11), (129, 5, 8), (896, 8, 9), (128, 5, 6), (896, 6, 7), (1409, 0, 3), (0, 3, 4), (1408, 0, 1), (0, 1, 2)] 0 []) 24 0 0 = some (y, 0, 0)) : oL (nA (tabH [12, 1, 100, 1, 100, 2, 8, 102, 8, 102, 8, 102, 8, 102, 8, 102, 101, 101, 101, 104, 101, 101, 101, 5, 11] [0, 0, 0, 0, 0, 0, 0, 5, 0, 12, 0, 4, 0, 10, 0, 30, 12, 20, 50, 30, 20, 20, 16, 0, 0] [(1410, 0, 5), (141, 5, 22), (138, 5, 21), (137, 5, 20), (136, 5, 19), (135, 5, 18), (134, 5, 17), (133, 5, 16), (132, 5, 14), (896, 14, 15), (131, 5, 12), (896, 12, 13), (130, 5, 10), (896, 10, 11), (129, 5, 8), (896, 8, 9), (128, 5, 6), (896, 6, 7), (1409, 0, 3), (0, 3, 4), (1408, 0, 1), (0, 1, 2)] 0 []) 102 (Int32.toNatClampNeg 18)) (fun h18 => oK3 1 (Int32.toNatClampNeg 18) (oC (decide (hT h18 24 = 11)) (oL (sR h18 1280 24 (some (hZ (tabH [12, 1, 100, 1, 100, 2, 8, 102, 8, 102, 8, 102, 8, 102, 8, 102, 101, 101, 101, 104, 101, 101, 101, 5, 11] [0, 0, 0, 0, 0, 0, 0, 5, 0, 12, 0, 4, 0, 10, 0, 30, 12, 20, 50, 30, 20, 20, 16, 0, 0] [(1410, 0, 5), (141, 5, 22), (138, 5, 21), (137, 5, 20), (136, 5, 19), (135, 5, 18), (134, 5, 17), (133, 5, 16), (132, 5, 14), (896, 14, 15), (131, 5, 12), (896, 12, 13), (130, 5, 10), (896, 10, 11), (129, 5, 8), (896, 8, 9), (128, 5, 6), (896, 6, 7), (1409, 0, 3), (0, 3, 4), (1408, 0, 1), (0, 1, 2)] 0 [])))) (fun h21 => oL (nA h21 101 (Int32.toNatClampNeg 0)) (fun h26 => oK3 1 (Int32.toNatClampNeg 0) (oL (sR h26 1281 24 (some (hZ h21))) (fun h30 => oL (nA h30 101 (Int32.toNatClampNeg 0)) (fun h36 => oK3 1 (Int32.toNatClampNeg 0) (oL (sR h36 1282 24 (some (hZ h30))) (fun h41 => oL (nA h41 102 (Int32.toNatClampNeg 0)) (fun h48 => oK3 1 (Int32.toNatClampNeg 0) (oL (sR h48 1283 24 (some (hZ h41))) (fun h54 => F h54 24 0 0))))))))))))) = some (y, 4, 18) := by
  simp (decide := true) only [oL_v, oK3_v, oB3_v, nO_tab, nA_tab, sR_tab, hZ_tab, hT_tab, hR_tab, oC_d, Int32.reduceToNatClampNeg, List.cons_append, List.nil_append, List.length_cons, List.length_nil, Nat.reduceAdd, hF]
theorem i_tok : fX10_init (tabH [12, 1, 100, 1, 100, 2, 8, 102, 8, 102, 8, 102, 8, 102, 8, 102, 101, 101, 101, 104, 101, 101, 101, 5, 11] [0, 0, 0, 0, 0, 0, 0, 5, 0, 12, 0, 4, 0, 10, 0, 30, 12, 20, 50, 30, 20, 20, 16, 0, 0] [(1410, 0, 5), (141, 5, 22), (138, 5, 21), (137, 5, 20), (136, 5, 19), (135, 5, 18), (134, 5, 17), (133, 5, 16), (132, 5, 14), (896, 14, 15), (131, 5, 12), (896, 12, 13), (130, 5, 10), (896, 10, 11), (129, 5, 8), (896, 8, 9), (128, 5, 6), (896, 6, 7), (1409, 0, 3), (0, 3, 4), (1408, 0, 1), (0, 1, 2)] 0 []) 24 = some ((tabH [12, 1, 100, 1, 100, 2, 8, 102, 8, 102, 8, 102, 8, 102, 8, 102, 101, 101, 101, 104, 101, 101, 101, 5, 11, 102, 101, 101, 102] [0, 0, 0, 0, 0, 0, 0, 5, 0, 12, 0, 4, 0, 10, 0, 30, 12, 20, 50, 30, 20, 20, 16, 0, 0, 18, 0, 0, 0] [(1283, 24, 28), (1282, 24, 27), (1281, 24, 26), (1280, 24, 25), (1410, 0, 5), (141, 5, 22), (138, 5, 21), (137, 5, 20), (136, 5, 19), (135, 5, 18), (134, 5, 17), (133, 5, 16), (132, 5, 14), (896, 14, 15), (131, 5, 12), (896, 12, 13), (130, 5, 10), (896, 10, 11), (129, 5, 8), (896, 8, 9), (128, 5, 6), (896, 6, 7), (1409, 0, 3), (0, 3, 4), (1408, 0, 1), (0, 1, 2)] 0 KWS), 4, 18) := i_tokG (fX10_init_37 FU) i_kw
set_option maxHeartbeats 8000000 in
set_option maxRecDepth 20000 in
theorem i_gram : fX4_init (tabH [12, 1, 100, 1, 100, 2, 8, 102, 8, 102, 8, 102, 8, 102, 8, 102, 101, 101, 101, 104, 101, 101, 101, 5] [0, 0, 0, 0, 0, 0, 0, 5, 0, 12, 0, 4, 0, 10, 0, 30, 12, 20, 50, 30, 20, 20, 16, 0] [(1410, 0, 5), (141, 5, 22), (138, 5, 21), (137, 5, 20), (136, 5, 19), (135, 5, 18), (134, 5, 17), (133, 5, 16), (132, 5, 14), (896, 14, 15), (131, 5, 12), (896, 12, 13), (130, 5, 10), (896, 10, 11), (129, 5, 8), (896, 8, 9), (128, 5, 6), (896, 6, 7), (1409, 0, 3), (0, 3, 4), (1408, 0, 1), (0, 1, 2)] 0 []) 23 (some 5) = some ((tabH [12, 1, 100, 1, 100, 2, 8, 102, 8, 102, 8, 102, 8, 102, 8, 102, 101, 101, 101, 104, 101, 101, 101, 5, 11, 102, 101, 101, 102, 101, 101] [0, 0, 0, 0, 0, 0, 0, 5, 0, 12, 0, 4, 0, 10, 0, 30, 12, 20, 50, 30, 20, 20, 16, 0, 0, 18, 0, 0, 0, 3, 20] [(512, 23, 5), (515, 23, 30), (514, 23, 29), (513, 23, 24), (1283, 24, 28), (1282, 24, 27), (1281, 24, 26), (1280, 24, 25), (1410, 0, 5), (141, 5, 22), (138, 5, 21), (137, 5, 20), (136, 5, 19), (135, 5, 18), (134, 5, 17), (133, 5, 16), (132, 5, 14), (896, 14, 15), (131, 5, 12), (896, 12, 13), (130, 5, 10), (896, 10, 11), (129, 5, 8), (896, 8, 9), (128, 5, 6), (896, 6, 7), (1409, 0, 3), (0, 3, 4), (1408, 0, 1), (0, 1, 2)] 0 KWS), 7, 48) := by
  unfold fX4_init fX4_init_0
  simp (decide := true) only [oL_v, oK3_v, oB3_v, nO_tab, sR_tab, hZ_tab, hT_tab, hR_tab, oC_d, Int32.reduceToNatClampNeg, List.cons_append, List.nil_append, List.length_cons, List.length_nil, Nat.reduceAdd, i_tok, nA_tabK]
set_option maxHeartbeats 8000000 in
set_option maxRecDepth 20000 in
theorem i_bench : fX11_init (tabH [12] [0] [] 0 []) 0 = some ((tabH [12, 1, 100, 1, 100, 2, 8, 102, 8, 102, 8, 102, 8, 102, 8, 102, 101, 101, 101, 104, 101, 101, 101, 5, 11, 102, 101, 101, 102, 101, 101, 106] [0, 0, 0, 0, 0, 0, 0, 5, 0, 12, 0, 4, 0, 10, 0, 30, 12, 20, 50, 30, 20, 20, 16, 0, 0, 18, 0, 0, 0, 3, 20, 100] [(1412, 0, 31), (1411, 0, 23), (512, 23, 5), (515, 23, 30), (514, 23, 29), (513, 23, 24), (1283, 24, 28), (1282, 24, 27), (1281, 24, 26), (1280, 24, 25), (1410, 0, 5), (141, 5, 22), (138, 5, 21), (137, 5, 20), (136, 5, 19), (135, 5, 18), (134, 5, 17), (133, 5, 16), (132, 5, 14), (896, 14, 15), (131, 5, 12), (896, 12, 13), (130, 5, 10), (896, 10, 11), (129, 5, 8), (896, 8, 9), (128, 5, 6), (896, 6, 7), (1409, 0, 3), (0, 3, 4), (1408, 0, 1), (0, 1, 2)] (-1) KWS), 31, 428) := by
  unfold fX11_init fX11_init_0
  simp (decide := true) only [oL_v, oK3_v, oB3_v, nO_tab, sR_tab, hZ_tab, hT_tab, hR_tab, oC_d, Int32.reduceToNatClampNeg, List.cons_append, List.nil_append, List.length_cons, List.length_nil, Nat.reduceAdd, i_code, i_gram, fX0_init_t, nA_tabK, lkR, sI_tab, if_true, if_false]
theorem hi_tab : nO hi0 12 = tabH [12] [0] [] 0 [] := by
  unfold nO hi0 tabH
  refine Prod.ext ?_ (Prod.ext ?_ (Prod.ext ?_ (Prod.ext rfl (Prod.ext ?_ (Prod.ext rfl (Prod.ext ?_ (Prod.ext ?_ rfl)))))))
  · funext f a
    show (if a = 0 then (0 : Int32) else 0) = (if f = 1415 ∧ a = 0 then 0 else 0)
    split <;> split <;> rfl
  · funext f a
    show (if a = 0 then (0 : Int64) else 0) = 0
    split <;> rfl
  · funext f a
    show (if a = 0 then none else none) = lkR [] f a
    split <;> rfl
  · funext a i
    show (0 : Int64) = (if a = 25 then ([] : List Int64).getD i 0 else 0)
    split <;> rfl
  · funext a
    show (if a = 0 then 12 else 0) = ([12] : List Nat).getD a 0
    match a with
    | 0 => rfl
    | a + 1 => rfl
  · funext a
    match a with
    | 0 => rfl
    | a + 1 => rfl
def hX1 : PH := tabH [12, 1, 100, 1, 100, 2, 8, 102, 8, 102, 8, 102, 8, 102, 8, 102, 101, 101, 101, 104, 101, 101, 101, 5, 11, 102, 101, 101, 102, 101, 101, 106] [0, 0, 0, 0, 0, 0, 0, 5, 0, 12, 0, 4, 0, 10, 0, 30, 12, 20, 50, 30, 20, 20, 16, 0, 0, 18, 0, 0, 0, 3, 20, 100] [(1412, 0, 31), (1411, 0, 23), (512, 23, 5), (515, 23, 30), (514, 23, 29), (513, 23, 24), (1283, 24, 28), (1282, 24, 27), (1281, 24, 26), (1280, 24, 25), (1410, 0, 5), (141, 5, 22), (138, 5, 21), (137, 5, 20), (136, 5, 19), (135, 5, 18), (134, 5, 17), (133, 5, 16), (132, 5, 14), (896, 14, 15), (131, 5, 12), (896, 12, 13), (130, 5, 10), (896, 10, 11), (129, 5, 8), (896, 8, 9), (128, 5, 6), (896, 6, 7), (1409, 0, 3), (0, 3, 4), (1408, 0, 1), (0, 1, 2)] (-1) KWS
theorem i_class : fX11_init (nO hi0 12) 0 = some (hX1, 31, 428) := by rw [hi_tab]; exact i_bench
theorem lkR_lt {R : List (Nat × Nat × Nat)} {z : Nat} (h : R.all (fun q => decide (q.2.2 < z)) = true) {f a b : Nat} (hb : lkR R f a = some b) : b < z := by
  induction R with
  | nil => cases hb
  | cons q r ih =>
    simp only [List.all_cons, Bool.and_eq_true, decide_eq_true_eq] at h
    unfold lkR at hb
    by_cases hq : f = q.1 ∧ a = q.2.1
    · rw [if_pos hq] at hb; cases hb; exact h.1
    · rw [if_neg hq] at hb; exact ih h.2 hb
theorem hX1_Z : hZ hX1 = 32 := rfl
theorem hX1_RL : RLo hX1 32 := ⟨fun f a b h => lkR_lt (by decide) h, fun a i b h => by cases h⟩
