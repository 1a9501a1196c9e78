/-! the reference's tokens -/
def tokU (u : MS) (i : Nat) (k pl v : Int32) (nm : Int64) : MS := mSI (mSB (mSA (mSA (mSA u 5 i k) 6 i pl) 7 i v) 8 i nm) 10 (nI (i + 1))
theorem token_v {u : MS} {i : Nat} (h : mI u 10 = nI i) (hi : i < 1203) (k pl v : Int32) (nm : Int64) : fX12_token u k pl v nm = some (tokU u i k pl v nm) := by
  unfold fX12_token fX12_token_0 tokU
  simp only [z_mI_mSI, z_mL_mSI, z_mA_mSI, z_mB_mSI, z_mI_mSL, z_mL_mSL, z_mA_mSL, z_mB_mSL, z_mI_mSA, z_mL_mSA, z_mA_mSA, z_mB_mSA, z_mI_mSB, z_mL_mSB, z_mA_mSB, z_mB_mSB, if_true, if_false, and_false, false_and, and_true, true_and, and_self, decide_true, decide_false, reduceCtorEq, not_false_eq_true, not_true_eq_false, Nat.reduceEqDiff, Nat.reduceAdd, Nat.reduceMul, Nat.add_zero, Nat.zero_add, h, oN_v, oC_v, oB_v, oB2_v, oB3_v, oB4_v, oK3_v, oK4_v, oL_v, oC_t (ix_n (show i < mlen 5 from hi) (by decide)), oC_t (ix_n (show i < mlen 6 from hi) (by decide)), oC_t (ix_n (show i < mlen 7 from hi) (by decide)), oC_t (ix_n (show i < mlen 8 from hi) (by decide)), nI_clamp (show i < 2147483648 by omega), nI_1]
def ME (u : MS) (L : Nat) (b : Nat → Nat) : Prop := (mI u 4 = nI L) ∧ (∀ q, q < L → mA u 3 q &&& 255 = nI (b q)) ∧ (∀ q, b q < 256) ∧ (∀ i, i < 18 → mB u 9 i = KM.getD i 0)
theorem ME.len {u : MS} {L : Nat} {b : Nat → Nat} (X_ : ME u L b) : mI u 4 = nI L := X_.1
theorem ME.bt {u : MS} {L : Nat} {b : Nat → Nat} (X_ : ME u L b) : ∀ q, q < L → mA u 3 q &&& 255 = nI (b q) := X_.2.1
theorem ME.bb {u : MS} {L : Nat} {b : Nat → Nat} (X_ : ME u L b) : ∀ q, b q < 256 := X_.2.2.1
theorem ME.kw {u : MS} {L : Nat} {b : Nat → Nat} (X_ : ME u L b) : ∀ i, i < 18 → mB u 9 i = KM.getD i 0 := X_.2.2.2
theorem ME.mk {u : MS} {L : Nat} {b : Nat → Nat} (len_ : mI u 4 = nI L) (bt_ : ∀ q, q < L → mA u 3 q &&& 255 = nI (b q)) (bb_ : ∀ q, b q < 256) (kw_ : ∀ i, i < 18 → mB u 9 i = KM.getD i 0) : ME u L b := ⟨len_, bt_, bb_, kw_⟩
theorem at_v {u : MS} {L q : Nat} {b : Nat → Nat} (E : ME u L b) (hL : L ≤ 4000) (hq : q < 2147483648) : fX12_at u (nI q) = some (nI (if q < L then b q else 0)) := by
  unfold fX12_at fX12_at_0
  rw [E.len]
  by_cases c : q < L
  · rw [if_neg (nI_ge c (by omega)), oC_t (ix_n (show q < mlen 3 by show q < 4000; omega) (by decide)), nI_clamp hq, E.bt q c, if_pos c]
  · rw [if_pos (nI_le (by omega) (by omega)), if_neg c]
    rfl
theorem ME.tok {u : MS} {L : Nat} {b : Nat → Nat} (E : ME u L b) (i : Nat) (k pl v : Int32) (nm : Int64) : ME (tokU u i k pl v nm) L b := by
  unfold tokU
  refine ⟨by simp only [z_mI_mSI, z_mL_mSI, z_mA_mSI, z_mB_mSI, z_mI_mSL, z_mL_mSL, z_mA_mSL, z_mB_mSL, z_mI_mSA, z_mL_mSA, z_mA_mSA, z_mB_mSA, z_mI_mSB, z_mL_mSB, z_mA_mSB, z_mB_mSB, if_true, if_false, and_false, false_and, and_true, true_and, and_self, decide_true, decide_false, reduceCtorEq, not_false_eq_true, not_true_eq_false, Nat.reduceEqDiff, Nat.reduceAdd, Nat.reduceMul, Nat.add_zero, Nat.zero_add]; exact E.len, fun q hq => by simp only [z_mI_mSI, z_mL_mSI, z_mA_mSI, z_mB_mSI, z_mI_mSL, z_mL_mSL, z_mA_mSL, z_mB_mSL, z_mI_mSA, z_mL_mSA, z_mA_mSA, z_mB_mSA, z_mI_mSB, z_mL_mSB, z_mA_mSB, z_mB_mSB, if_true, if_false, and_false, false_and, and_true, true_and, and_self, decide_true, decide_false, reduceCtorEq, not_false_eq_true, not_true_eq_false, Nat.reduceEqDiff, Nat.reduceAdd, Nat.reduceMul, Nat.add_zero, Nat.zero_add]; exact E.bt q hq, E.bb, fun j hj => by simp only [z_mI_mSI, z_mL_mSI, z_mA_mSI, z_mB_mSI, z_mI_mSL, z_mL_mSL, z_mA_mSL, z_mB_mSL, z_mI_mSA, z_mL_mSA, z_mA_mSA, z_mB_mSA, z_mI_mSB, z_mL_mSB, z_mA_mSB, z_mB_mSB, if_true, if_false, and_false, false_and, and_true, true_and, and_self, decide_true, decide_false, reduceCtorEq, not_false_eq_true, not_true_eq_false, Nat.reduceEqDiff, Nat.reduceAdd, Nat.reduceMul, Nat.add_zero, Nat.zero_add]; exact E.kw j hj⟩
section MC
variable {u : MS} {L : Nat} {b : Nat → Nat} {k7 : MS → Int32 → Option MS}
theorem m_kw (E : ME u L b) {p n : Int32} {x : Int64} : ∀ d j s f, j + d = 18 → fX12_cut_159 k7 (f + (d + 1)) u p n x (nI s) (nI j) = fX12_cut_192 k7 u p n x (nI (kmF x d j s)) := by
  intro d
  induction d with
  | zero =>
    intro j s f hj
    show fX12_cut_159F k7 (fX12_cut_159 k7 f) u p n x (nI s) (nI j) = _
    unfold fX12_cut_159F
    rw [if_pos (show (18 : Int32) ≤ nI j from nI_le (a := 18) (by omega) (by omega))]
    rfl
  | succ d ih =>
    intro j s f hj
    show fX12_cut_159F k7 (fX12_cut_159 k7 (f + (d + 1))) u p n x (nI s) (nI j) = fX12_cut_192 k7 u p n x (nI (kmF x d (j + 1) (if KM.getD j 0 = x then 20 + j else s)))
    unfold fX12_cut_159F fX12_cut_186
    rw [if_neg (show ¬ (18 : Int32) ≤ nI j from nI_ge (b := 18) (by omega) (by omega)), oC_t (ix_n (show j < mlen 9 by show j < 18; omega) (by decide)), nI_clamp (show j < 2147483648 by omega), E.kw j (by omega)]
    by_cases c : KM.getD j 0 = x
    · rw [if_pos ((lgc0_v _ _).mpr c), if_pos c, oL_v, oL_v, nI_1, show (20 : Int32) = nI 20 from rfl, nI_add, ih (j + 1) (20 + j) f (by omega)]
    · rw [if_neg (fun q => c ((lgc0_v _ _).mp q)), if_neg c, oL_v, nI_1, ih (j + 1) s f (by omega)]
theorem more_v {c v : Nat} (h : isAn c) (hc : c < 256) : fX12_more (nL v) (nI c) = some (nL (37 * v + ltr c)) := by
  have l := ltr_ok h
  unfold fX12_more fX12_more_0
  rw [if_neg (fun q => by have := (nI_eq (a := c) (b := 0) (by omega) (by omega)).mp q; omega), digitM_v, digit_v hc, oB_v]
  by_cases dg : isDg c
  · have e : nI c - 48 + 27 = nI (ltr c) := by
      unfold ltr
      rw [if_neg (by omega), show (48 : Int32) = nI 48 from rfl, nI_sub (by omega), show (27 : Int32) = nI 27 from rfl, nI_add]
      congr 1; omega
    rw [if_pos dg, if_neg (by decide), e]
    unfold fX12_more_36
    rw [nI_64 (by omega), show (37 : Int64) = nL 37 from rfl, nL_mul, nL_add]
  · rw [if_neg dg, if_pos rfl, ltr1 dg h hc]
    unfold fX12_more_36
    rw [nI_64 (by omega), show (37 : Int64) = nL 37 from rfl, nL_mul, nL_add]
theorem m_name_e (E : ME u L b) (hL : L ≤ 4000) {p i : Nat} (hp : p < L) (hi : mI u 10 = nI i) (i2 : i < 1203) (hN : 1 ≤ rn aln b L 5000 p) {x : Int64} (hx : rn aln b L 5000 p ≤ 10 → x = nL (pk 37 (nmL b p (rn aln b L 5000 p)))) : ∃ NM, (if nI (rn aln b L 5000 p) ≤ 10 then fX12_cut_148 k7 u (nI p) (nI (rn aln b L 5000 p)) x 1 else fX12_cut_148 k7 u (nI p) (nI (rn aln b L 5000 p)) x 4) = k7 (tokU u i (nI (if rn aln b L 5000 p ≤ 10 then kwK (nmL b p (rn aln b L 5000 p)) else 4)) (nI p) 0 NM) (nI (p + rn aln b L 5000 p)) ∧ (rn aln b L 5000 p ≤ 10 → NM = nL (pk 37 (nmL b p (rn aln b L 5000 p)))) := by
  have hle := rn_le aln b L 5000 p (by omega)
  have hin := rn_in aln b L 5000 p
  generalize rn aln b L 5000 p = n at *
  have fin : ∀ k, fX12_cut_192 k7 u (nI p) (nI n) x k = k7 (tokU u i k (nI p) 0 x) (nI (p + n)) := fun k => by
    unfold fX12_cut_192
    rw [token_v hi i2, oB_v, oL_v, nI_add]
  refine ⟨x, ?_, hx⟩
  by_cases c : n ≤ 10
  · rw [if_pos (show nI n ≤ 10 from nI_le (b := 10) c (by omega)), if_pos c]
    have ok : okN (nmL b p n) := nmL_ok hN c (fun q h1 h2 => of_decide_eq_true (hin q h1 h2))
    unfold fX12_cut_148
    by_cases c6 : n ≤ 6
    · have := m_kw (k7 := k7) E (p := nI p) (n := nI n) (x := x) 18 0 1 (FU - 19) (by omega)
      rw [show FU - 19 + (18 + 1) = FU by have : FU = 100000 := rfl; omega] at this
      rw [if_neg (show ¬ (6 : Int32) < nI n from nI_nlt (a := 6) (by omega) (by omega))]
      refine (show fX12_cut_159 k7 FU u (nI p) (nI n) x 1 0 = _ from this).trans ?_
      rw [fin, hx c, kmF_v ok]
    · rw [if_pos (show (6 : Int32) < nI n from nI_lt (a := 6) (by omega) (by omega)), fin, kwK_long (by rw [nmL_len]; omega)]
      rfl
  · rw [if_neg (show ¬ nI n ≤ 10 from nI_ge (a := 10) (b := n) (by omega) (by omega)), if_neg c]
    unfold fX12_cut_148
    rw [if_pos (show (6 : Int32) < nI n from nI_lt (a := 6) (by omega) (by omega)), fin]
    rfl
theorem m_name_l (E : ME u L b) (hL : L ≤ 4000) {p i : Nat} (hp : p < L) (hi : mI u 10 = nI i) (i2 : i < 1203) (hN : 1 ≤ rn aln b L 5000 p) : ∀ d n f {x : Int64}, n + d = rn aln b L 5000 p → (n ≤ 10 → x = nL (pk 37 (nmL b p n))) → ∃ NM, fX12_cut_85 k7 (f + (d + 1)) u (nI p) (nI n) x = k7 (tokU u i (nI (if rn aln b L 5000 p ≤ 10 then kwK (nmL b p (rn aln b L 5000 p)) else 4)) (nI p) 0 NM) (nI (p + rn aln b L 5000 p)) ∧ (rn aln b L 5000 p ≤ 10 → NM = nL (pk 37 (nmL b p (rn aln b L 5000 p)))) := by
  have hle := rn_le aln b L 5000 p (by omega)
  intro d
  induction d with
  | zero =>
    intro n f x hn hx
    have en : n = rn aln b L 5000 p := by omega
    obtain ⟨NM, e, hM⟩ := m_name_e (k7 := k7) E hL hp hi i2 hN (x := x) (fun q => by rw [hx (by omega), en])
    refine ⟨NM, ?_, hM⟩
    rw [← e, ← en]
    show fX12_cut_85F k7 (fX12_cut_85 k7 f) u (nI p) (nI n) x = _
    have o1 : ¬ isAn (if p + n < L then b (p + n) else 0) := by
      by_cases c : p + n < L
      · have o := rn_out aln b L 5000 p (by omega) (by omega)
        rw [← en] at o
        rw [if_pos c]
        exact of_decide_eq_false o
      · rw [if_neg c]; omega
    have hb : (if p + n < L then b (p + n) else 0) < 256 := by
      split
      · exact E.bb _
      · omega
    unfold fX12_cut_85F
    rw [nI_add, at_v E hL (by omega), oB_v, letterM_v, small_v hb, if_neg (by omega), oB_v, if_pos rfl, oB_v, digitM_v, digit_v hb, if_neg (by omega), oB_v, if_pos rfl]
  | succ d ih =>
    intro n f x hn hx
    have c : p + n < L := by omega
    have an : isAn (b (p + n)) := of_decide_eq_true (rn_in aln b L 5000 p (p + n) (by omega) (by omega))
    have hc := E.bb (p + n)
    have st : ∃ y, fX12_cut_111 k7 (fX12_cut_85 k7 (f + (d + 1))) u (nI p) (nI n) x = fX12_cut_85 k7 (f + (d + 1)) u (nI p) (nI (n + 1)) y ∧ (n + 1 ≤ 10 → y = nL (pk 37 (nmL b p (n + 1)))) := by
      unfold fX12_cut_111 fX12_cut_131
      by_cases q : n < 10
      · refine ⟨_, ?_, fun _ => rfl⟩
        rw [if_neg (show ¬ (10 : Int32) ≤ nI n from nI_ge (b := 10) q (by omega)), nI_add, at_v E hL (by omega), if_pos c, oB_v, hx (by omega), more_v an hc, oB_v, oL_v, nI_1, nmL_s, pk_snoc]
      · refine ⟨x, ?_, fun q2 => by omega⟩
        rw [if_pos (show (10 : Int32) ≤ nI n from nI_le (a := 10) (by omega) (by omega)), oL_v, nI_1]
    obtain ⟨y, ey, hy⟩ := st
    obtain ⟨NM, e, hM⟩ := ih (n + 1) f (x := y) (by omega) hy
    refine ⟨NM, ?_, hM⟩
    rw [← e, ← ey]
    show fX12_cut_85F k7 (fX12_cut_85 k7 (f + (d + 1))) u (nI p) (nI n) x = _
    unfold fX12_cut_85F
    rw [nI_add, at_v E hL (by omega), if_pos c, oB_v, letterM_v, small_v hc, oB_v]
    by_cases sm : isSm (b (p + n))
    · rw [if_pos sm, if_neg (by decide)]
    · rw [if_neg sm, if_pos rfl, oB_v, digitM_v, digit_v hc, if_pos (by omega), oB_v, if_neg (by decide)]
theorem m_int_l (E : ME u L b) (hL : L ≤ 4000) {p i : Nat} (hp : p < L) (hi : mI u 10 = nI i) (i2 : i < 1203) : ∀ d n f {x : Int32}, n + d = rn dgt b L 5000 p → (n ≤ 6 → x = nI (dgV b p n)) → ∃ V, fX12_cut_247 k7 (f + (d + 1)) u (nI p) (nI n) x = k7 (tokU u i (nI (if rn dgt b L 5000 p ≤ 6 then 3 else 4)) (nI p) V 0) (nI (p + rn dgt b L 5000 p)) ∧ (rn dgt b L 5000 p ≤ 6 → V = nI (dgV b p (rn dgt b L 5000 p))) := by
  have hle := rn_le dgt b L 5000 p (by omega)
  intro d
  induction d with
  | zero =>
    intro n f x hn hx
    have en : n = rn dgt b L 5000 p := by omega
    refine ⟨x, ?_, fun q => by rw [hx (by omega), en]⟩
    rw [← en]
    show fX12_cut_247F k7 (fX12_cut_247 k7 f) u (nI p) (nI n) x = _
    have o1 : ¬ isDg (if p + n < L then b (p + n) else 0) := by
      by_cases c : p + n < L
      · have o := rn_out dgt b L 5000 p (by omega) (by omega)
        rw [← en] at o
        rw [if_pos c]
        exact of_decide_eq_false o
      · rw [if_neg c]; omega
    have hb : (if p + n < L then b (p + n) else 0) < 256 := by
      split
      · exact E.bb _
      · omega
    unfold fX12_cut_247F fX12_cut_302
    rw [nI_add, at_v E hL (by omega), oB_v, digitM_v, digit_v hb, if_neg o1, oB_v, if_pos rfl, token_v hi i2, token_v hi i2, oB_v, oB_v, oL_v]
    by_cases c : n ≤ 6
    · rw [if_pos (show nI n ≤ 6 from nI_le (b := 6) c (by omega)), if_pos c]
      rfl
    · rw [if_neg (show ¬ nI n ≤ 6 from nI_ge (a := 6) (b := n) (by omega) (by omega)), if_neg c, oL_v]
      rfl
  | succ d ih =>
    intro n f x hn hx
    have c : p + n < L := by omega
    have dg : isDg (b (p + n)) := of_decide_eq_true (rn_in dgt b L 5000 p (p + n) (by omega) (by omega))
    have hc := E.bb (p + n)
    have st : ∃ y, fX12_cut_247 k7 (f + (d + 1 + 1)) u (nI p) (nI n) x = fX12_cut_247 k7 (f + (d + 1)) u (nI p) (nI (n + 1)) y ∧ (n + 1 ≤ 6 → y = nI (dgV b p (n + 1))) := by
      show ∃ y, fX12_cut_247F k7 (fX12_cut_247 k7 (f + (d + 1))) u (nI p) (nI n) x = _ ∧ _
      unfold fX12_cut_247F fX12_cut_284
      rw [nI_add, at_v E hL (by omega), if_pos c, oB_v, digitM_v, digit_v hc, if_pos dg, oB_v, if_neg (by decide)]
      by_cases q : n < 6
      · refine ⟨_, by rw [if_neg (show ¬ (6 : Int32) ≤ nI n from nI_ge (b := 6) q (by omega)), oB_v, oL_v, oL_v, nI_1], fun _ => ?_⟩
        rw [hx (by omega), show (10 : Int32) = nI 10 from rfl, nI_mul, nI_add, show (48 : Int32) = nI 48 from rfl, nI_sub (by omega), show dgV b p (n + 1) = 10 * dgV b p n + (b (p + n) - 48) from rfl]
        congr 1
        omega
      · exact ⟨x, by rw [if_pos (show (6 : Int32) ≤ nI n from nI_le (a := 6) (by omega) (by omega)), oL_v, nI_1], fun q2 => by omega⟩
    obtain ⟨y, ey, hy⟩ := st
    obtain ⟨V, e, hM⟩ := ih (n + 1) f (x := y) (by omega) hy
    exact ⟨V, ey.trans e, hM⟩
theorem m_sign {p i c d : Nat} (hi : mI u 10 = nI i) (i2 : i < 1203) (hc : c < 256) (hd : d < 256) : fX12_sign u (nI p) (nI c) (nI d) = some (tokU u i (nI (sgK c d).1) (nI p) 0 0, nI (sgK c d).2) := by
  have e : ∀ k, k < 256 → (nI c = nI k ↔ c = k) := fun k hk => nI_eq (by omega) (by omega)
  have f : ∀ k, k < 256 → (nI d = nI k ↔ d = k) := fun k hk => nI_eq (by omega) (by omega)
  have e61 : nI c = 61 ↔ c = 61 := e 61 (by omega)
  have e33 : nI c = 33 ↔ c = 33 := e 33 (by omega)
  have e60 : nI c = 60 ↔ c = 60 := e 60 (by omega)
  have d61 : nI d = 61 ↔ d = 61 := f 61 (by omega)
  have d62 : nI d = 62 ↔ d = 62 := f 62 (by omega)
  have two : ∀ k, 1 ≤ k → k < 20 → fX12_sign_61 u (nI p) (nI c) (nI k) = some (tokU u i (nI k) (nI p) 0 0, nI 2) := fun k h1 h2 => by
    unfold fX12_sign_61 fX12_sign_217
    rw [if_neg (show ¬ nI k ≤ 0 from nI_ge (a := 0) (b := k) (by omega) (by omega)), token_v hi i2, oB_v, if_neg (show ¬ nI k ≤ 0 from nI_ge (a := 0) (b := k) (by omega) (by omega))]
    rfl
  have one : fX12_sign_61 u (nI p) (nI c) 0 = some (tokU u i (nI (sg1 c)) (nI p) 0 0, nI 1) := by
    have t : ∀ k, fX12_sign_217 u (nI p) 0 k = some (tokU u i k (nI p) 0 0, nI 1) := fun k => by
      unfold fX12_sign_217
      rw [token_v hi i2, oB_v, if_pos (by decide)]
      rfl
    unfold fX12_sign_61
    rw [if_pos (by decide)]
    simp only [t]
    have g59 : nI c = 59 ↔ c = 59 := e 59 (by omega)
    have g58 : nI c = 58 ↔ c = 58 := e 58 (by omega)
    have g44 : nI c = 44 ↔ c = 44 := e 44 (by omega)
    have g46 : nI c = 46 ↔ c = 46 := e 46 (by omega)
    have g40 : nI c = 40 ↔ c = 40 := e 40 (by omega)
    have g41 : nI c = 41 ↔ c = 41 := e 41 (by omega)
    have g43 : nI c = 43 ↔ c = 43 := e 43 (by omega)
    have g45 : nI c = 45 ↔ c = 45 := e 45 (by omega)
    have g42 : nI c = 42 ↔ c = 42 := e 42 (by omega)
    have g47 : nI c = 47 ↔ c = 47 := e 47 (by omega)
    simp only [g59, g58, g44, g46, g40, g41, g43, g45, g42, g47, e60]
    unfold sg1
    by_cases q59 : c = 59
    · rw [if_pos q59, if_pos q59]; rfl
    · rw [if_neg q59, if_neg q59]
      by_cases q58 : c = 58
      · rw [if_pos q58, if_pos q58]; rfl
      · rw [if_neg q58, if_neg q58]
        by_cases q44 : c = 44
        · rw [if_pos q44, if_pos q44]; rfl
        · rw [if_neg q44, if_neg q44]
          by_cases q46 : c = 46
          · rw [if_pos q46, if_pos q46]; rfl
          · rw [if_neg q46, if_neg q46]
            by_cases q40 : c = 40
            · rw [if_pos q40, if_pos q40]; rfl
            · rw [if_neg q40, if_neg q40]
              by_cases q41 : c = 41
              · rw [if_pos q41, if_pos q41]; rfl
              · rw [if_neg q41, if_neg q41]
                by_cases q43 : c = 43
                · rw [if_pos q43, if_pos q43]; rfl
                · rw [if_neg q43, if_neg q43]
                  by_cases q45 : c = 45
                  · rw [if_pos q45, if_pos q45]; rfl
                  · rw [if_neg q45, if_neg q45]
                    by_cases q42 : c = 42
                    · rw [if_pos q42, if_pos q42]; rfl
                    · rw [if_neg q42, if_neg q42]
                      by_cases q47 : c = 47
                      · rw [if_pos q47, if_pos q47]; rfl
                      · rw [if_neg q47, if_neg q47]
                        by_cases q60 : c = 60
                        · rw [if_pos q60, if_pos q60]; rfl
                        · rw [if_neg q60, if_neg q60]
                          rfl
  unfold fX12_sign fX12_sign_0 fX12_sign_17 sgK
  simp only [e61, e33, e60, d61, d62]
  by_cases a1 : c = 61
  · by_cases a2 : d = 62
    · rw [if_pos a1, if_pos a2, if_pos (show c = 61 ∧ d = 62 from ⟨a1, a2⟩)]
      exact two 15 (by omega) (by omega)
    · by_cases a3 : d = 61
      · rw [if_pos a1, if_neg a2, if_pos a3, if_pos a1, if_neg (show ¬ (c = 61 ∧ d = 62) by omega), if_pos (show c = 61 ∧ d = 61 from ⟨a1, a3⟩)]
        exact two 16 (by omega) (by omega)
      · rw [if_pos a1, if_neg a2, if_neg a3, if_neg (show ¬ (c = 61 ∧ d = 62) by omega), if_neg (show ¬ (c = 61 ∧ d = 61) by omega), if_neg (show ¬ (c = 33 ∧ d = 61) by omega), if_neg (show ¬ (c = 60 ∧ d = 61) by omega)]
        exact one
  · rw [if_neg a1, if_neg (show ¬ (c = 61 ∧ d = 62) by omega), if_neg (show ¬ (c = 61 ∧ d = 61) by omega)]
    by_cases a3 : d = 61
    · rw [if_pos a3, if_neg a1]
      by_cases a4 : c = 33
      · rw [if_pos a4, if_pos (show c = 33 ∧ d = 61 from ⟨a4, a3⟩)]
        exact two 17 (by omega) (by omega)
      · rw [if_neg a4, if_neg (show ¬ (c = 33 ∧ d = 61) by omega)]
        by_cases a5 : c = 60
        · rw [if_pos a5, if_pos (show c = 60 ∧ d = 61 from ⟨a5, a3⟩)]
          exact two 19 (by omega) (by omega)
        · rw [if_neg a5, if_neg (show ¬ (c = 60 ∧ d = 61) by omega)]
          exact one
    · rw [if_neg a3, if_neg (show ¬ (c = 33 ∧ d = 61) by omega), if_neg (show ¬ (c = 60 ∧ d = 61) by omega)]
      exact one
end MC
/-- one token of the reference -/
theorem cut_s {u : MS} {L : Nat} {b : Nat → Nat} (E : ME u L b) (hL : L ≤ 4000) {p i : Nat} (hp : p < L) (nb : ¬ isBl (b p)) (hi : mI u 10 = nI i) (i2 : i ≤ 1200) (f : Nat) : ∃ V NM, fX12_cut_7 (f + 1) u (nI p) = fX12_cut_7 f (tokU u i (nI (tk b L p).1) (nI p) V NM) (nI (tk b L p).2.1) ∧ ((tk b L p).1 = 2 ∨ (tk b L p).1 = 3 → V = nI (tk b L p).2.2.1) ∧ ((tk b L p).1 = 1 ∨ 20 ≤ (tk b L p).1 → NM = nL (pk 37 (tk b L p).2.2.2)) := by
  have hc := E.bb p
  have e : ∀ k, k < 256 → (nI (b p) = nI k ↔ b p = k) := fun k hk => nI_eq (by omega) (by omega)
  have i1 : nI (b p) < 65 ↔ b p < 65 := nI_ltI (b := 65) (by omega) (by omega)
  have i9 : 90 < nI (b p) ↔ 90 < b p := nI_ltI (a := 90) (by omega) (by omega)
  have pre : fX12_cut_7 (f + 1) u (nI p) = (if isSm (b p) then fX12_cut_85 (fX12_cut_7 f) FU u (nI p) 0 0 else if b p < 65 then fX12_cut_235 (fX12_cut_7 f) u (nI p) (nI (b p)) else if 90 < b p then fX12_cut_235 (fX12_cut_7 f) u (nI p) (nI (b p)) else fX12_cut_7 f (tokU u i 2 (nI p) (nI (b p)) 0) (nI (p + 1))) := by
    show fX12_cut_7F (fX12_cut_7 f) u (nI p) = _
    unfold fX12_cut_7F
    rw [hi, if_neg (show ¬ (1200 : Int32) < nI i from nI_nlt (a := 1200) (by omega) (by omega)), at_v E hL (by omega), if_pos hp, oB_v, E.len, if_pos (nI_lt hp (by omega)), if_neg (show ¬ nI (b p) = 9 from fun q => nb (.inl ((e 9 (by omega)).mp q))), if_neg (show ¬ nI (b p) = 10 from fun q => nb (.inr (.inl ((e 10 (by omega)).mp q)))), if_neg (show ¬ nI (b p) = 13 from fun q => nb (.inr (.inr (.inl ((e 13 (by omega)).mp q))))), if_neg (show ¬ nI (b p) = 32 from fun q => nb (.inr (.inr (.inr ((e 32 (by omega)).mp q))))), letterM_v, small_v hc, oB_v, token_v hi (by omega), oB_v, oL_v, nI_1]
    by_cases sm : isSm (b p)
    · rw [if_pos sm, if_pos sm, if_neg (by decide)]
    · rw [if_neg sm, if_neg sm, if_pos rfl]
      simp only [i1, i9]
  rw [pre]
  by_cases sm : isSm (b p)
  · rw [if_pos sm]
    have hN : 1 ≤ rn aln b L 5000 p := by
      show 1 ≤ (if p < L then (if aln (b p) then rn aln b L 4999 (p + 1) + 1 else 0) else 0)
      rw [if_pos hp, if_pos (show aln (b p) = true from decide_eq_true (Or.inl sm))]
      omega
    have hle := rn_le aln b L 5000 p (by omega)
    obtain ⟨NM, e1, hM⟩ := m_name_l (k7 := fX12_cut_7 f) E hL hp hi (by omega) hN (rn aln b L 5000 p) 0 (FU - (rn aln b L 5000 p + 1)) (x := 0) (by omega) (fun _ => rfl)
    rw [show FU - (rn aln b L 5000 p + 1) + (rn aln b L 5000 p + 1) = FU by have : FU = 100000 := rfl; omega] at e1
    have et : tk b L p = if rn aln b L 5000 p ≤ 10 then (kwK (nmL b p (rn aln b L 5000 p)), p + rn aln b L 5000 p, 0, nmL b p (rn aln b L 5000 p)) else (4, p + rn aln b L 5000 p, 0, []) := by
      unfold tk
      rw [if_neg (by omega), if_pos sm]
    refine ⟨0, NM, ?_, ?_, ?_⟩
    · refine e1.trans ?_
      rw [et]
      by_cases q : rn aln b L 5000 p ≤ 10
      · simp only [if_pos q]
      · simp only [if_neg q]
    · rw [et]
      by_cases q : rn aln b L 5000 p ≤ 10
      · simp only [if_pos q]
        intro _; rfl
      · simp only [if_neg q]
        intro _; rfl
    · rw [et]
      by_cases q : rn aln b L 5000 p ≤ 10
      · simp only [if_pos q]
        intro _; exact hM q
      · simp only [if_neg q]
        intro q2; omega
  · rw [if_neg sm]
    by_cases dg : isDg (b p)
    · rw [if_pos (show b p < 65 by omega)]
      have hle := rn_le dgt b L 5000 p (by omega)
      obtain ⟨V, e1, hV⟩ := m_int_l (k7 := fX12_cut_7 f) E hL hp hi (by omega) (rn dgt b L 5000 p) 0 (FU - (rn dgt b L 5000 p + 1)) (x := 0) (by omega) (fun _ => rfl)
      rw [show FU - (rn dgt b L 5000 p + 1) + (rn dgt b L 5000 p + 1) = FU by have : FU = 100000 := rfl; omega] at e1
      have et : tk b L p = if rn dgt b L 5000 p ≤ 6 then (3, p + rn dgt b L 5000 p, dgV b p (rn dgt b L 5000 p), []) else (4, p + rn dgt b L 5000 p, 0, []) := by
        unfold tk
        rw [if_neg (by omega), if_neg sm, if_pos dg]
      refine ⟨V, 0, ?_, ?_, ?_⟩
      · unfold fX12_cut_235
        rw [digitM_v, digit_v hc, if_pos dg, oB_v, if_neg (by decide)]
        refine e1.trans ?_
        rw [et]
        by_cases q : rn dgt b L 5000 p ≤ 6
        · simp only [if_pos q]
        · simp only [if_neg q]
      · rw [et]
        by_cases q : rn dgt b L 5000 p ≤ 6
        · simp only [if_pos q]
          intro _; exact hV q
        · simp only [if_neg q]
          intro q2; omega
      · rw [et]
        by_cases q : rn dgt b L 5000 p ≤ 6
        · simp only [if_pos q]
          intro q2; omega
        · simp only [if_neg q]
          intro q2; omega
    · by_cases cp : 65 ≤ b p ∧ b p ≤ 90
      · rw [if_neg (by omega), if_neg (by omega)]
        have et : tk b L p = (2, p + 1, b p, []) := by
          unfold tk
          rw [if_neg (by omega), if_neg sm, if_neg dg, if_pos cp]
        rw [et]
        exact ⟨nI (b p), 0, rfl, fun _ => rfl, fun q => by simp only at q; omega⟩
      · have et : tk b L p = ((sgK (b p) (if p + 1 < L then b (p + 1) else 0)).1, p + (sgK (b p) (if p + 1 < L then b (p + 1) else 0)).2, 0, []) := by
          unfold tk
          rw [if_neg (by omega), if_neg sm, if_neg dg, if_neg cp]
        have hd : (if p + 1 < L then b (p + 1) else 0) < 256 := by
          split
          · exact E.bb _
          · omega
        have kb : (sgK (b p) (if p + 1 < L then b (p + 1) else 0)).1 ≠ 1 ∧ (sgK (b p) (if p + 1 < L then b (p + 1) else 0)).1 < 20 := by
          generalize (if p + 1 < L then b (p + 1) else 0) = d
          unfold sgK
          repeat' split
          all_goals first | (constructor <;> decide) | skip
          unfold sg1
          repeat' split
          all_goals (constructor <;> decide)
        have e2 : fX12_cut_235 (fX12_cut_7 f) u (nI p) (nI (b p)) = fX12_cut_7 f (tokU u i (nI (sgK (b p) (if p + 1 < L then b (p + 1) else 0)).1) (nI p) 0 0) (nI (p + (sgK (b p) (if p + 1 < L then b (p + 1) else 0)).2)) := by
          unfold fX12_cut_235
          rw [digitM_v, digit_v hc, if_neg dg, oB_v, if_pos rfl, nI_1, at_v E hL (by omega), oB_v, m_sign hi (by omega) hc hd, oB2_v, oL_v, nI_add]
        refine ⟨0, 0, ?_, ?_, ?_⟩
        · rw [et]
          by_cases q : b p < 65
          · rw [if_pos q]; exact e2
          · rw [if_neg q, if_pos (by omega)]; exact e2
        · rw [et]; intro _; rfl
        · rw [et]; intro q; simp only at q; omega
