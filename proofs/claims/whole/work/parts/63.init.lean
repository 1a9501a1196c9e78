def KM : List Int64 := [1119812451, 1186224, 26801, 16488, 913652, 329128, 40094248, 7367, 790116, 940952, 2793, 1014841, 964262, 29136630, 339, 19741, 679747, 22745289]
def mU (l : List Int64) : MS := (fun k => if k = 17 then -1 else 0, fun _ => 0, fun _ _ => 0, fun k i => if k = 9 then l.getD i 0 else 0)
theorem mU_set (l : List Int64) (i : Nat) (v : Int64) (h : i < l.length) : mSB (mU l) 9 i v = mU (l.set i v) := by
  unfold mSB mU
  refine Prod.ext rfl (Prod.ext rfl (Prod.ext rfl ?_))
  funext k j
  show up2 _ 9 i v k j = _
  unfold up2
  by_cases hk : k = 9
  · subst hk
    by_cases hj : j = i
    · subst hj
      show (if (9 : Nat) = 9 ∧ j = j then v else (if (9 : Nat) = 9 then l.getD j 0 else 0)) = (if (9 : Nat) = 9 then (l.set j v).getD j 0 else 0)
      rw [if_pos ⟨rfl, rfl⟩, if_pos rfl, gD_s h]
    · show (if (9 : Nat) = 9 ∧ j = i then v else (if (9 : Nat) = 9 then l.getD j 0 else 0)) = (if (9 : Nat) = 9 then (l.set i v).getD j 0 else 0)
      rw [if_neg (fun z => hj z.2), if_pos rfl, if_pos rfl, gD_n (Ne.symm hj)]
  · show (if k = 9 ∧ j = i then v else (if k = 9 then l.getD j 0 else 0)) = (if k = 9 then (l.set i v).getD j 0 else 0)
    rw [if_neg (fun z => hk z.1), if_neg hk, if_neg hk]
theorem mU_0 : mSI mz 17 (-1) = mU (List.replicate 18 0) := by
  unfold mSI mz mU
  refine Prod.ext ?_ (Prod.ext rfl (Prod.ext rfl ?_))
  · funext k
    show up1 _ 17 (-1) k = _
    rfl
  · funext k j
    show (0 : Int64) = (if k = 9 then (List.replicate 18 (0 : Int64)).getD j 0 else 0)
    rw [List.getD_eq_getElem?_getD, List.getElem?_replicate]
    split
    · split <;> rfl
    · rfl
theorem kM_0 : fX12_word 112 101 114 115 111 110 = some 1119812451 := by decide +kernel
theorem kM_1 : fX12_word 119 111 114 100 0 0 = some 1186224 := by decide +kernel
theorem kM_2 : fX12_word 115 117 109 0 0 0 = some 26801 := by decide +kernel
theorem kM_3 : fX12_word 108 97 119 0 0 0 = some 16488 := by decide +kernel
theorem kM_4 : fX12_word 114 97 110 107 0 0 = some 913652 := by decide +kernel
theorem kM_5 : fX12_word 102 114 111 109 0 0 = some 329128 := by decide +kernel
theorem kM_6 : fX12_word 117 110 116 105 108 0 = some 40094248 := by decide +kernel
theorem kM_7 : fX12_word 101 110 100 0 0 0 = some 7367 := by decide +kernel
theorem kM_8 : fX12_word 111 118 101 114 0 0 = some 790116 := by decide +kernel
theorem kM_9 : fX12_word 114 117 108 101 0 0 = some 940952 := by decide +kernel
theorem kM_10 : fX12_word 98 97 114 0 0 0 = some 2793 := by decide +kernel
theorem kM_11 : fX12_word 116 97 107 101 0 0 = some 1014841 := by decide +kernel
theorem kM_12 : fX12_word 115 97 109 101 0 0 = some 964262 := by decide +kernel
theorem kM_13 : fX12_word 111 116 104 101 114 0 = some 29136630 := by decide +kernel
theorem kM_14 : fX12_word 105 102 0 0 0 0 = some 339 := by decide +kernel
theorem kM_15 : fX12_word 110 111 116 0 0 0 = some 19741 := by decide +kernel
theorem kM_16 : fX12_word 109 111 115 116 0 0 = some 679747 := by decide +kernel
theorem kM_17 : fX12_word 108 101 97 115 116 0 = some 22745289 := by decide +kernel
theorem mlenK : mlen 9 = 18 := rfl
set_option maxHeartbeats 8000000 in
set_option maxRecDepth 20000 in
theorem i_ref : fX12_init = some (mU KM, 0, 0) := by
  unfold fX12_init fX12_init_656
  rw [mU_0]
  simp (decide := true) only [oL_v, oB_v, kM_0, kM_1, kM_2, kM_3, kM_4, kM_5, kM_6, kM_7, kM_8, kM_9, kM_10, kM_11, kM_12, kM_13, kM_14, kM_15, kM_16, kM_17, oC_t, mU_set, Int32.reduceToNatClampNeg, List.replicate_succ, List.replicate_zero, List.set_cons_zero, List.set_cons_succ, KM]
