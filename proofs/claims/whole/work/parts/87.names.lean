/-! names and numbers, written by both -/
def chr (x : Nat) : Int32 := if x ≤ 26 then nI (96 + x) else nI (21 + x)
theorem chr_p' : ∀ x, x < 37 → 0 ≤ by8 (chr x) := by decide +kernel
theorem pk_from (b : Nat) (l : List Nat) : ∀ v, l.foldl (fun v x => b * v + x) v = v * b ^ l.length + pk b l := by
  induction l with
  | nil => intro v; simp [pk]
  | cons x l ih =>
    intro v
    show l.foldl (fun v x => b * v + x) (b * v + x) = _
    have e : pk b (x :: l) = l.foldl (fun v x => b * v + x) (b * 0 + x) := rfl
    rw [e, ih, ih, List.length_cons, Nat.pow_succ, Nat.add_mul, Nat.mul_zero, Nat.zero_add, Nat.add_assoc, Nat.mul_comm b v, Nat.mul_assoc, Nat.mul_comm b]
theorem pk_cons (b x : Nat) (l : List Nat) : pk b (x :: l) = x * b ^ l.length + pk b l := by
  have e : pk b (x :: l) = l.foldl (fun v x => b * v + x) (b * 0 + x) := rfl
  rw [e, pk_from, Nat.mul_zero, Nat.zero_add]
theorem pk_snoc (b x : Nat) (l : List Nat) : pk b (l ++ [x]) = b * pk b l + x := by
  unfold pk
  rw [List.foldl_append]
  rfl
theorem pkl_lt (b : Nat) (l : List Nat) (h : ∀ x, x ∈ l → x < b) : pk b l < b ^ l.length := by
  induction l with
  | nil => exact Nat.one_pos
  | cons x l ih =>
    rw [pk_cons, List.length_cons, Nat.pow_succ]
    have h1 := ih fun y hy => h y (List.mem_cons_of_mem _ hy)
    have h2 : x + 1 ≤ b := h x List.mem_cons_self
    calc x * b ^ l.length + pk b l < x * b ^ l.length + b ^ l.length := by omega
      _ = (x + 1) * b ^ l.length := by rw [Nat.add_mul, Nat.one_mul]
      _ ≤ b * b ^ l.length := Nat.mul_le_mul_right _ h2
      _ = b ^ l.length * b := Nat.mul_comm _ _
theorem pow64 : ∀ n, n ≤ 10 → 64 ^ n ≤ 1152921504606846976 := by decide +kernel
theorem pow37 : ∀ n, n ≤ 10 → 37 ^ n ≤ 4808584372417849 := by decide +kernel
theorem sh6 : ∀ t, t < 10 → (((nI (6 * t)).toInt64 &&& 63).toBitVec.smod 64#64).toNat = 6 * t := by decide +kernel
theorem p26 (t : Nat) : 2 ^ (6 * t) = 64 ^ t := by rw [Nat.pow_mul]
theorem six (t : Nat) : nI (6 * (t + 1)) + -6 = nI (6 * t) := by
  rw [show 6 * (t + 1) = 6 * t + 6 by omega, ← nI_add]
  show nI (6 * t) + 6 + -6 = nI (6 * t)
  grind
/-- the letter at place t -/
theorem let_v {v t : Nat} (hv : v < 9223372036854775808) (ht : t < 10) : Int64.toInt32 (nL v >>> ((nI (6 * t)).toInt64 &&& 63)) &&& 63 = nI (v / 64 ^ t % 64) := by
  rw [nL_shr hv (sh6 t ht), nL_32, nI_and63, p26]
theorem chr1 {x : Nat} (h : x ≤ 26) : 97 + nI x - 1 = chr x := by
  unfold chr
  rw [if_pos h, show (97 : Int32) = nI 97 from rfl, nI_add, show (1 : Int32) = nI 1 from rfl, nI_sub (by omega)]
  congr 1
  omega
theorem chr2 {x : Nat} (h : ¬ x ≤ 26) : 48 + nI x - 26 - 1 = chr x := by
  unfold chr
  rw [if_neg h, show (48 : Int32) = nI 48 from rfl, nI_add, show (26 : Int32) = nI 26 from rfl, nI_sub (by omega), show (1 : Int32) = nI 1 from rfl, nI_sub (by omega)]
  congr 1
  omega
theorem chr3 {x : Nat} (h : ¬ x ≤ 26) : 48 + nI x - 27 = chr x := by
  unfold chr
  rw [if_neg h, show (48 : Int32) = nI 48 from rfl, nI_add, show (27 : Int32) = nI 27 from rfl, nI_sub (by omega)]
  congr 1
  omega
theorem Cw.name1 {h0 : PH} {k v : Nat} (b : WB h0 k) (hv : v < 9223372036854775808) : ∀ (ls : List Nat) (f : Nat) {h : PH} {k' i j : Nat} {l : List Int32}, (∀ x, x ∈ ls → 1 ≤ x ∧ x ≤ 36) → v % 64 ^ ls.length = pk 64 ls → ls.length ≤ 10 → BW h0 h 3 k k' 0 l i j → l.length + ls.length < 1000000 → Cw h0 k l i j (ls.map chr) (fX0_addName_3 (f + (ls.length + 1)) h 3 (nL v) (nI (6 * ls.length) + -6)) := by
  intro ls
  induction ls with
  | nil =>
    intro f h k' i j l _ _ _ W hl
    show Cw h0 k l i j [] (fX0_addName_3F (fX0_addName_3 f) h 3 (nL v) (nI 0 + -6))
    unfold fX0_addName_3F
    rw [if_pos (by decide)]
    exact Cw.nil W
  | cons x ls ih =>
    intro f h k' i j l hx hm hn W hl
    have x1 := hx x List.mem_cons_self
    have hp : 0 < 64 ^ ls.length := Nat.pow_pos (by omega)
    have hlt := pkl_lt 64 ls fun y hy => by have := hx y (List.mem_cons_of_mem _ hy); omega
    have hlen : (x :: ls).length = ls.length + 1 := rfl
    rw [hlen, Nat.pow_succ, Nat.mod_mul, pk_cons] at hm
    have hr : v % 64 ^ ls.length < 64 ^ ls.length := Nat.mod_lt _ hp
    have q1 : v / 64 ^ ls.length % 64 = x := by
      have := congrArg (· / 64 ^ ls.length) hm
      simp only [Nat.add_mul_div_left _ _ hp, Nat.div_eq_of_lt hr, Nat.zero_add] at this
      rw [Nat.add_comm, Nat.mul_comm, Nat.add_mul_div_left _ _ hp, Nat.div_eq_of_lt hlt, Nat.zero_add] at this
      exact this
    have q2 : v % 64 ^ ls.length = pk 64 ls := by
      rw [q1, Nat.mul_comm] at hm
      omega
    rw [hlen, six]
    show Cw h0 k l i j ([chr x] ++ ls.map chr) (fX0_addName_3F (fX0_addName_3 (f + (ls.length + 1))) h 3 (nL v) (nI (6 * ls.length)))
    have hlen' : ls.length < 10 := by rw [hlen] at hn; omega
    have nn : ¬ nI (6 * ls.length) < 0 := nI_pos (by omega)
    have cont : ∀ h' k2 i' j', BW h0 h' 3 k k2 0 (l ++ [chr x]) (i + i') (j + j') → Cw h0 k (l ++ [chr x]) (i + i') (j + j') (ls.map chr) (fX0_addName_56 (fX0_addName_3 (f + (ls.length + 1))) h' 3 (nL v) (nI (6 * ls.length))) := by
      intro h' k2 i' j' W'
      unfold fX0_addName_56
      rw [oL_v]
      exact ih f (fun y hy => hx y (List.mem_cons_of_mem _ hy)) q2 (by omega) W' (by rw [List.length_append, List.length_singleton]; rw [hlen] at hl; omega)
    by_cases c : x ≤ 26
    · have c1 : nI x ≤ 26 := nI_le (b := 26) c (by omega)
      have c2 : ¬ nI x ≤ 0 := nI_ge (a := 0) (b := x) (by omega) (by omega)
      simp only [fX0_addName_3F, if_neg nn, let_v hv hlen', q1, oN_v, oC_v, oB_v, oB2_v, oB3_v, oB4_v, oK3_v, oK4_v, oL_v, if_pos c1, if_neg c2, W.bs.ta, if_true, if_false, and_false, false_and, and_true, true_and, and_self, decide_true, decide_false, reduceCtorEq, not_false_eq_true, not_true_eq_false, Nat.reduceEqDiff, Nat.reduceAdd, Nat.reduceMul, Nat.add_zero, Nat.zero_add, chr1 c]
      exact Cw.seq (Cw.add b W (by omega) _) cont
    · have c1 : ¬ nI x ≤ 26 := nI_ge (a := 26) (b := x) (by omega) (by omega)
      simp only [fX0_addName_3F, if_neg nn, let_v hv hlen', q1, oN_v, oC_v, oB_v, oB2_v, oB3_v, oB4_v, oK3_v, oK4_v, oL_v, if_neg c1, W.bs.ta, if_true, if_false, and_false, false_and, and_true, true_and, and_self, decide_true, decide_false, reduceCtorEq, not_false_eq_true, not_true_eq_false, Nat.reduceEqDiff, Nat.reduceAdd, Nat.reduceMul, Nat.add_zero, Nat.zero_add, chr2 c]
      exact Cw.seq (Cw.add b W (by omega) _) cont
theorem Cw.name2 {h0 : PH} {k v : Nat} (b : WB h0 k) (hv : v < 9223372036854775808) (ls : List Nat) (hx : ∀ x, x ∈ ls → 1 ≤ x ∧ x ≤ 36) (ev : v = pk 64 ls) (f : Nat) {h : PH} {k' i j : Nat} {l : List Int32} (W : BW h0 h 3 k k' 0 l i j) (hl : l.length + ls.length < 1000000) : ∀ d, ls.length + d ≤ 10 → Cw h0 k l i j (ls.map chr) (fX0_addName_3 (f + (ls.length + d + 1)) h 3 (nL v) (nI (6 * (ls.length + d)) + -6)) := by
  have hlt := pkl_lt 64 ls fun y hy => by have := hx y hy; omega
  intro d
  induction d with
  | zero => intro hd; exact Cw.name1 b hv ls f hx (by rw [ev]; exact Nat.mod_eq_of_lt hlt) (by omega) W hl
  | succ d ih =>
    intro hd
    rw [show ls.length + (d + 1) = ls.length + d + 1 by omega, six]
    show Cw h0 k l i j (ls.map chr) (fX0_addName_3F (fX0_addName_3 (f + (ls.length + d + 1))) h 3 (nL v) (nI (6 * (ls.length + d))))
    have nn : ¬ nI (6 * (ls.length + d)) < 0 := nI_pos (by omega)
    have q : v / 64 ^ (ls.length + d) = 0 := by
      apply Nat.div_eq_of_lt
      rw [ev]
      exact Nat.lt_of_lt_of_le hlt (Nat.pow_le_pow_right (by omega) (by omega))
    have c1 : nI 0 ≤ 26 := nI_le (a := 0) (b := 26) (by omega) (by omega)
    have c2 : nI 0 ≤ 0 := nI_le (a := 0) (b := 0) (by omega) (by omega)
    have e := let_v hv (show ls.length + d < 10 by omega)
    rw [q, Nat.zero_mod] at e
    unfold fX0_addName_3F
    rw [if_neg nn, oL_v, e, if_pos c1, if_pos c2]
    unfold fX0_addName_56
    rw [oL_v]
    exact ih (by omega)
theorem Cw.name {h0 : PH} {k : Nat} (b : WB h0 k) {ls : List Nat} (ok : okN ls) {h : PH} {k' i j : Nat} {l : List Int32} (W : BW h0 h 3 k k' 0 l i j) (hl : l.length < 900000) : Cw h0 k l i j (ls.map chr) (fX0_addName h 3 (nL (pk 64 ls))) := by
  obtain ⟨o1, o2, o3⟩ := ok
  have hlt := pkl_lt 64 ls fun y hy => by have := o3 y hy; omega
  have h64 := pow64 ls.length o2
  have := Cw.name2 b (v := pk 64 ls) (by omega) ls o3 rfl (FU - 11) W (by omega) (10 - ls.length) (by omega)
  rw [show ls.length + (10 - ls.length) = 10 by omega, show FU - 11 + (10 + 1) = FU by have : FU = 100000 := rfl; omega] at this
  exact this
theorem byteOut_115 {u u' : MS} {x : Int32} (h : fX12_byteOut u x = some u') : ∀ i, mA u' 115 i = mA u 115 i := by
  intro i
  unfold fX12_byteOut fX12_byteOut_0 fX12_byteOut_21 at h
  split at h
  · rw [oL_v] at h
    cases h; rfl
  · cases c : ix (mI u 113) (mlen 114)
    · rw [c] at h; cases h
    · rw [c, oC_v, oL_v, oL_v] at h
      cases h
      simp only [z_mI_mSI, z_mL_mSI, z_mA_mSI, z_mB_mSI, z_mI_mSL, z_mL_mSL, z_mA_mSL, z_mB_mSL, z_mI_mSA, z_mL_mSA, z_mA_mSA, z_mB_mSA, z_mI_mSB, z_mL_mSB, z_mA_mSB, z_mB_mSB, if_true, if_false, and_false, false_and, and_true, true_and, and_self, decide_true, decide_false, reduceCtorEq, not_false_eq_true, not_true_eq_false, Nat.reduceEqDiff, Nat.reduceAdd, Nat.reduceMul, Nat.add_zero, Nat.zero_add, show ¬ (115 = 114) by decide]
theorem m1_v (m : Nat) : nI (m + 1) + -1 = nI m := by
  rw [← nI_add]
  show nI m + 1 + -1 = nI m
  grind
theorem dr_v {ds : List Nat} {m : Nat} (hm : m + 1 ≤ ds.length) : ds.drop (ds.length - (m + 1)) = [ds.getD (ds.length - 1 - m) 0] ++ ds.drop (ds.length - m) := by
  rw [List.drop_eq_getElem_cons (show ds.length - (m + 1) < ds.length by omega), show ds.length - (m + 1) + 1 = ds.length - m by omega, List.getD_eq_getElem?_getD, List.getElem?_eq_getElem (show ds.length - 1 - m < ds.length by omega)]
  simp only [Option.getD_some, List.cons_append, List.nil_append, Nat.sub_sub, Nat.add_comm 1 m]
theorem Mw.name1 {u0 : MS} {ds : List Nat} (hd : ds.length ≤ 12) : ∀ (m f : Nat) {u : MS} {l : List Int32}, m ≤ ds.length → MO u0 u l → l.length + m < 1000000 → (∀ q, q < ds.length → mA u 115 q = chr (ds.getD (ds.length - 1 - q) 0)) → Mw u0 l ((ds.drop (ds.length - m)).map chr) (fX12_nameOut_71 (f + (m + 1)) u (nI m + -1)) := by
  intro m
  induction m with
  | zero =>
    intro f u l _ W _ _
    show Mw u0 l _ (fX12_nameOut_71F (fX12_nameOut_71 f) u (nI 0 + -1))
    unfold fX12_nameOut_71F
    rw [if_pos (by decide), Nat.sub_zero, List.drop_length]
    exact Mw.nil W
  | succ m ih =>
    intro f u l hm W hl A
    rw [m1_v]
    show Mw u0 l _ (fX12_nameOut_71F (fX12_nameOut_71 (f + (m + 1))) u (nI m))
    rw [dr_v hm, List.map_append]
    have im : ix (nI m) (mlen 115) = true := ix_n (show m < mlen 115 by show m < 12; omega) (by show 12 < 2147483648; omega)
    unfold fX12_nameOut_71F
    rw [if_neg (nI_pos (n := m) (by omega)), oC_t im, nI_clamp (show m < 2147483648 by omega), A m (by omega)]
    obtain ⟨u', e, W'⟩ := Mw.add W (by omega) (chr (ds.getD (ds.length - 1 - m) 0))
    obtain ⟨u2, e', W2⟩ := ih f (by omega) W' (by rw [List.length_append, List.length_singleton]; omega) (fun q hq => (byteOut_115 e q).trans (A q hq))
    refine ⟨u2, by rw [e, oB_v, oL_v, e'], ?_⟩
    rw [List.append_assoc] at W2
    exact W2
theorem Mw.name2 {u0 : MS} : ∀ (n : Nat) (ls ds : List Nat) (f : Nat) {u : MS} {l : List Int32}, ls.length = n → ls.length + ds.length ≤ 12 → (∀ x, x ∈ ls → 1 ≤ x ∧ x ≤ 36) → pk 37 ls < 9223372036854775808 → MO u0 u l → l.length < 900000 → (∀ q, q < ds.length → mA u 115 q = chr (ds.getD (ds.length - 1 - q) 0)) → Mw u0 l ((ls ++ ds).map chr) (fX12_nameOut_5 (f + (n + 1)) u (nI ds.length) (nL (pk 37 ls))) := by
  intro n
  induction n with
  | zero =>
    intro ls ds f u l hn hd _ _ W hl A
    have : ls = [] := List.eq_nil_of_length_eq_zero hn
    subst this
    show Mw u0 l _ (fX12_nameOut_5F (fX12_nameOut_5 f) u (nI ds.length) (nL 0))
    simp only [fX12_nameOut_5F, if_pos (show lg_cmp (nL 0) 0 ≤ 0 by decide), oN_v, oC_v, oB_v, oB2_v, oB3_v, oB4_v, oK3_v, oK4_v, oL_v, List.nil_append]
    rw [List.length_nil, Nat.zero_add] at hd
    have := Mw.name1 (ds := ds) (u0 := u0) hd ds.length (FU - (ds.length + 1)) (Nat.le_refl _) W (by omega) A
    rw [Nat.sub_self, List.drop_zero, show FU - (ds.length + 1) + (ds.length + 1) = FU from Nat.sub_add_cancel (by show ds.length + 1 ≤ 100000; omega)] at this
    rw [show nI ds.length - 1 = nI ds.length + -1 by grind]
    exact this
  | succ n ih =>
    intro ls ds f u l hn hd hx hp W hl A
    obtain ⟨ls', x, e⟩ : ∃ ls' x, ls = ls' ++ [x] := ⟨ls.dropLast, ls.getLast (by intro q; rw [q] at hn; cases hn), (List.dropLast_concat_getLast _).symm⟩
    subst e
    have x1 := hx x (by simp)
    rw [List.length_append, List.length_singleton] at hn hd
    rw [pk_snoc] at hp ⊢
    have g1 : ¬ lg_cmp (nL (37 * pk 37 ls' + x)) 0 ≤ 0 := fun q => by
      have := (lgc_le (a := 37 * pk 37 ls' + x) (b := 0) hp (by omega)).mp q
      omega
    have g2 : nL (37 * pk 37 ls' + x) / 37 = nL (pk 37 ls') := by
      rw [show (37 : Int64) = nL 37 from rfl, nL_div hp (by omega)]
      congr 1
      omega
    have g3 : Int64.toInt32 (nL (37 * pk 37 ls' + x) - nL (37 * pk 37 ls' + x) / 37 * 37) = nI x := by
      rw [g2, show (37 : Int64) = nL 37 from rfl, nL_mul, nL_sub (by omega), nL_32]
      congr 1
      omega
    show Mw u0 l _ (fX12_nameOut_5F (fX12_nameOut_5 (f + (n + 1))) u (nI ds.length) (nL (37 * pk 37 ls' + x)))
    have key : Mw u0 l ((ls' ++ [x] ++ ds).map chr) (fX12_nameOut_51 (fX12_nameOut_5 (f + (n + 1))) u (nI ds.length) (nL (37 * pk 37 ls' + x)) (chr x) (nI ds.length)) := by
      unfold fX12_nameOut_51
      simp only [oC_t (ix_n (show ds.length < mlen 115 by show ds.length < 12; omega) (by decide)), nI_clamp (show ds.length < 2147483648 by omega), oN_v, oC_v, oB_v, oB2_v, oB3_v, oB4_v, oK3_v, oK4_v, oL_v, g2, nI_1]
      have := ih ls' (x :: ds) f (u := mSA u 115 ds.length (chr x)) (l := l) (by omega) (by rw [List.length_cons]; omega) (fun y hy => hx y (by simp [hy])) (by omega) ⟨W.le, fun i hi h4 => by simp only [z_mI_mSI, z_mL_mSI, z_mA_mSI, z_mB_mSI, z_mI_mSL, z_mL_mSL, z_mA_mSL, z_mB_mSL, z_mI_mSA, z_mL_mSA, z_mA_mSA, z_mB_mSA, z_mI_mSB, z_mL_mSB, z_mA_mSB, z_mB_mSB, if_true, if_false, and_false, false_and, and_true, true_and, and_self, decide_true, decide_false, reduceCtorEq, not_false_eq_true, not_true_eq_false, Nat.reduceEqDiff, Nat.reduceAdd, Nat.reduceMul, Nat.add_zero, Nat.zero_add, show ¬ (114 = 115) by decide]; exact W.da i hi h4, W.ag.sA (by omega)⟩ hl (by
        intro q hq
        rw [List.length_cons] at hq
        simp only [z_mI_mSI, z_mL_mSI, z_mA_mSI, z_mB_mSI, z_mI_mSL, z_mL_mSL, z_mA_mSL, z_mB_mSL, z_mI_mSA, z_mL_mSA, z_mA_mSA, z_mB_mSA, z_mI_mSB, z_mL_mSB, z_mA_mSB, z_mB_mSB, if_true, if_false, and_false, false_and, and_true, true_and, and_self, decide_true, decide_false, reduceCtorEq, not_false_eq_true, not_true_eq_false, Nat.reduceEqDiff, Nat.reduceAdd, Nat.reduceMul, Nat.add_zero, Nat.zero_add, List.length_cons]
        by_cases c : q = ds.length
        · subst c
          simp
        · rw [if_neg c, show ds.length + 1 - 1 - q = (ds.length - 1 - q) + 1 by omega, List.getD_cons_succ]
          exact A q (by omega))
      rw [List.append_assoc]
      exact this
    by_cases c : x ≤ 26
    · have c1 : nI x ≤ 26 := nI_le (b := 26) c (by omega)
      simp only [fX12_nameOut_5F, if_neg g1, g3, oN_v, oC_v, oB_v, oB2_v, oB3_v, oB4_v, oK3_v, oK4_v, oL_v, if_pos c1, chr1 c]
      exact key
    · have c1 : ¬ nI x ≤ 26 := nI_ge (a := 26) (b := x) (by omega) (by omega)
      simp only [fX12_nameOut_5F, if_neg g1, g3, oN_v, oC_v, oB_v, oB2_v, oB3_v, oB4_v, oK3_v, oK4_v, oL_v, if_neg c1, chr3 c]
      exact key
theorem Mw.name {u0 : MS} {ls : List Nat} (ok : okN ls) {u : MS} {l : List Int32} (W : MO u0 u l) (hl : l.length < 900000) : Mw u0 l (ls.map chr) (fX12_nameOut u (nL (pk 37 ls))) := by
  obtain ⟨o1, o2, o3⟩ := ok
  have hlt := pkl_lt 37 ls fun y hy => by have := o3 y hy; omega
  have h37 := pow37 ls.length o2
  have := Mw.name2 (u0 := u0) ls.length ls [] (FU - (ls.length + 1)) rfl (by rw [List.length_nil]; omega) o3 (by omega) W hl (fun q hq => absurd hq (by simp))
  rw [List.append_nil, show FU - (ls.length + 1) + (ls.length + 1) = FU from Nat.sub_add_cancel (by show ls.length + 1 ≤ 100000; omega)] at this
  exact this
theorem Bo.name {h0 h : PH} {u0 u : MS} {k k' i j : Nat} {l : List Int32} (b : WB h0 k) (W : BW h0 h 3 k k' 0 l i j) (V : MO u0 u l) (hl : l.length < 900000) {x y : Int64} (N : NR x y) : Bo h0 u0 k l i j 10 (fX0_addName h 3 x) (fX12_nameOut u y) := by
  obtain ⟨ls, ok, ex, ey⟩ := N
  subst ex ey
  refine ⟨ls.map chr, by rw [List.length_map]; exact ok.2.1, fun z hz => ?_, Cw.name b ok W hl, Mw.name ok V hl⟩
  obtain ⟨q, hq, e⟩ := List.mem_map.mp hz
  subst e
  have := ok.2.2 q hq
  exact chr_p' q (by omega)
