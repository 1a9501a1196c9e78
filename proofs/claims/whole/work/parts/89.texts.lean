/-! fixed texts -/
theorem lenS (l : List Int32) (x : Int32) : (l ++ [x]).length = l.length + 1 := by rw [List.length_append, List.length_singleton]
theorem Mw.one {u0 u : MS} {l : List Int32} (W : MO u0 u l) (hl : l.length < 1000000) {x : Int32} : Mw u0 l [x] (fX12_byteOut u x) := Mw.add W (by omega) x
theorem Cw.txt {h0 h : PH} {k k' i j s : Nat} {l : List Int32} (b : WB h0 k) (W : BW h0 h 3 k k' 0 l i j) (hl : l.length < 900000) (hs : s < 5) : Cw h0 k l i j ((List.range' 0 (slen s)).map (schr s)) (fX0_addText h 3 s) := by
  have l6 : slen s < 100 := by
    rcases (show s = 0 ∨ s = 1 ∨ s = 2 ∨ s = 3 ∨ s = 4 by omega) with q | q | q | q | q <;> subst q <;> decide
  have := Cw.text b (s := s) (by omega) (slen s) 0 (FU - (slen s + 1)) (by omega) W (by omega)
  rw [show FU - (slen s + 1) + (slen s + 1) = FU from Nat.sub_add_cancel (by show slen s + 1 ≤ 100000; omega)] at this
  exact this
theorem Mw.word2 {u0 : MS} {l : List Int32} {x : Int32} {u : MS} (W : MO u0 u l) (hl : l.length < 900000) : Mw u0 l (if x ≤ 0 then [] else [x]) (fX12_wordOut_41 u x) := by
  unfold fX12_wordOut_41
  split
  · exact Mw.nil W
  · exact Mw.seq (l1 := [x]) (l2 := []) (Mc := fun h3 => some h3) (Mw.one W (by omega)) (fun u' W' => Mw.nil W')
theorem Mw.word3 {u0 : MS} {l : List Int32} {x y : Int32} {u : MS} (W : MO u0 u l) (hl : l.length < 800000) : Mw u0 l ((if x ≤ 0 then [] else [x]) ++ if y ≤ 0 then [] else [y]) (fX12_wordOut_30 u x y) := by
  unfold fX12_wordOut_30
  split
  · exact Mw.word2 W (by omega)
  · exact Mw.seq (Mw.one W (by omega)) (fun u' W' => Mw.word2 W' (by rw [lenS]; omega))
theorem Mw.word4 {u0 : MS} {l : List Int32} {w x y : Int32} {u : MS} (W : MO u0 u l) (hl : l.length < 700000) : Mw u0 l ((if w ≤ 0 then [] else [w]) ++ ((if x ≤ 0 then [] else [x]) ++ if y ≤ 0 then [] else [y])) (fX12_wordOut_19 u w x y) := by
  unfold fX12_wordOut_19
  split
  · exact Mw.word3 W (by omega)
  · exact Mw.seq (Mw.one W (by omega)) (fun u' W' => Mw.word3 W' (by rw [lenS]; omega))
theorem Mw.word5 {u0 : MS} {l : List Int32} {c w x y : Int32} {u : MS} (W : MO u0 u l) (hl : l.length < 650000) : Mw u0 l ((if c ≤ 0 then [] else [c]) ++ ((if w ≤ 0 then [] else [w]) ++ ((if x ≤ 0 then [] else [x]) ++ if y ≤ 0 then [] else [y]))) (if c ≤ 0 then fX12_wordOut_19 u w x y else oB (fX12_byteOut u c) (fun h16 => fX12_wordOut_19 h16 w x y)) := by
  have h1 : l.length < 700000 := by omega
  have h2 : l.length < 1000000 := by omega
  by_cases hc : c ≤ 0
  · rw [if_pos hc, if_pos hc, List.nil_append]
    exact Mw.word4 W h1
  · rw [if_neg hc, if_neg hc]
    refine Mw.seq (Mw.one W h2) (fun u' W' => Mw.word4 W' ?_)
    rw [lenS]
    omega
theorem Mw.word6 {u0 : MS} {l : List Int32} {b c w x y : Int32} {u : MS} (W : MO u0 u l) (hl : l.length < 640000) : Mw u0 l ([b] ++ ((if c ≤ 0 then [] else [c]) ++ ((if w ≤ 0 then [] else [w]) ++ ((if x ≤ 0 then [] else [x]) ++ if y ≤ 0 then [] else [y])))) (oB (fX12_byteOut u b) (fun u => if c ≤ 0 then fX12_wordOut_19 u w x y else oB (fX12_byteOut u c) (fun h16 => fX12_wordOut_19 h16 w x y))) :=
  Mw.seq (Mw.one W (by omega)) (fun u' W' => Mw.word5 W' (by rw [lenS]; omega))
theorem Mw.word {u0 : MS} {l : List Int32} {a b c w x y : Int32} {u : MS} (W : MO u0 u l) (hl : l.length < 600000) : Mw u0 l ([a] ++ ([b] ++ ((if c ≤ 0 then [] else [c]) ++ ((if w ≤ 0 then [] else [w]) ++ ((if x ≤ 0 then [] else [x]) ++ if y ≤ 0 then [] else [y]))))) (fX12_wordOut u a b c w x y) := by
  unfold fX12_wordOut fX12_wordOut_0
  exact Mw.seq (Mw.one W (by omega)) (fun u' W' => Mw.word6 W' (by rw [lenS]; omega))
theorem Bo.txt {h0 h : PH} {u0 u : MS} {k k' i j s : Nat} {l : List Int32} (b : WB h0 k) (W : BW h0 h 3 k k' 0 l i j) (V : MO u0 u l) (hl : l.length < 500000) (hs : s < 5) {x1 x2 x3 x4 x5 x6 : Int32} (e : (List.range' 0 (slen s)).map (schr s) = [x1] ++ ([x2] ++ ((if x3 ≤ 0 then [] else [x3]) ++ ((if x4 ≤ 0 then [] else [x4]) ++ ((if x5 ≤ 0 then [] else [x5]) ++ if x6 ≤ 0 then [] else [x6]))))) (hp : ((List.range' 0 (slen s)).map (schr s)).all (fun x => decide (0 ≤ by8 x)) = true) (hn : slen s ≤ 6) : Bo h0 u0 k l i j 6 (fX0_addText h 3 s) (fX12_wordOut u x1 x2 x3 x4 x5 x6) :=
  ⟨(List.range' 0 (slen s)).map (schr s), by rw [List.length_map, List.length_range']; exact hn, fun x hx => of_decide_eq_true (List.all_eq_true.mp hp x hx), Cw.txt b W (by omega) hs, by rw [e]; exact Mw.word V (by omega)⟩
theorem Bo.t0 {h0 h : PH} {u0 u : MS} {k k' i j : Nat} {l : List Int32} (b : WB h0 k) (W : BW h0 h 3 k k' 0 l i j) (V : MO u0 u l) (hl : l.length < 500000) : Bo h0 u0 k l i j 6 (fX0_addText h 3 0) (fX12_wordOut u 110 111 116 32 0 0) := Bo.txt b W V hl (by omega) (by decide +kernel) (by decide +kernel) (by decide)
theorem Bo.t1 {h0 h : PH} {u0 u : MS} {k k' i j : Nat} {l : List Int32} (b : WB h0 k) (W : BW h0 h 3 k k' 0 l i j) (V : MO u0 u l) (hl : l.length < 500000) : Bo h0 u0 k l i j 6 (fX0_addText h 3 1) (fX12_wordOut u 32 102 97 99 116 0) := Bo.txt b W V hl (by omega) (by decide +kernel) (by decide +kernel) (by decide)
theorem Bo.t2 {h0 h : PH} {u0 u : MS} {k k' i j : Nat} {l : List Int32} (b : WB h0 k) (W : BW h0 h 3 k k' 0 l i j) (V : MO u0 u l) (hl : l.length < 500000) : Bo h0 u0 k l i j 6 (fX0_addText h 3 2) (fX12_wordOut u 32 98 121 32 0 0) := Bo.txt b W V hl (by omega) (by decide +kernel) (by decide +kernel) (by decide)
theorem Bo.t4 {h0 h : PH} {u0 u : MS} {k k' i j : Nat} {l : List Int32} (b : WB h0 k) (W : BW h0 h 3 k k' 0 l i j) (V : MO u0 u l) (hl : l.length < 500000) : Bo h0 u0 k l i j 6 (fX0_addText h 3 4) (fX12_wordOut u 98 114 111 107 101 110) := Bo.txt b W V hl (by omega) (by decide +kernel) (by decide +kernel) (by decide)
theorem Bo.t3 {h0 h : PH} {u0 u : MS} {k k' i j : Nat} {l : List Int32} (b : WB h0 k) (W : BW h0 h 3 k k' 0 l i j) (V : MO u0 u l) (hl : l.length < 500000) : Bo h0 u0 k l i j 2 (fX0_addText h 3 3) (oB (fX12_byteOut u 41) (fun u1 => fX12_byteOut u1 32)) := by
  refine ⟨[41, 32], by decide, fun x hx => ?_, ?_, ?_⟩
  · rcases List.mem_cons.mp hx with q | q
    · subst q; decide
    · rw [List.mem_singleton.mp q]; decide
  · have := Cw.txt b W (by omega) (show 3 < 5 by omega)
    rw [show (List.range' 0 (slen 3)).map (schr 3) = [41, 32] by decide +kernel] at this
    exact this
  · exact Mw.seq (l1 := [41]) (l2 := [32]) (Mw.one V (by omega)) (fun u' W' => Mw.one W' (by rw [lenS]; omega))
