/-- the first of a row -/
def hd1 (l : List (Option Qq)) : Option Qq := match l with
  | v :: _ => v
  | [] => none
theorem evT_len {β : Nat → Nat} {nu : Nat → Int32} {t : Tok} {st : List (Option Qq)} (d0 : if t.1 ≤ 2 then st.length < 20 else if t.1 = 3 then 1 ≤ st.length else 2 ≤ st.length) : (evT β nu t st).length = dpt t st.length := by
  unfold evT dpt
  by_cases a0 : t.1 = 0
  · simp only [if_pos a0, if_pos (show t.1 ≤ 2 by omega), List.length_cons]
  by_cases a1 : t.1 = 1
  · simp only [if_neg a0, if_pos a1, if_pos (show t.1 ≤ 2 by omega), List.length_cons]
  by_cases a2 : t.1 = 2
  · simp only [if_neg a0, if_neg a1, if_pos a2, if_pos (show t.1 ≤ 2 by omega), List.length_cons]
  rw [if_neg (show ¬ t.1 ≤ 2 by omega)] at d0
  by_cases a3 : t.1 = 3
  · simp only [if_neg a0, if_neg a1, if_neg a2, if_pos a3, if_neg (show ¬ t.1 ≤ 2 by omega)]
    rw [if_pos a3] at d0
    cases st with
    | nil => simp at d0
    | cons a s => rfl
  · simp only [if_neg a0, if_neg a1, if_neg a2, if_neg a3, if_neg (show ¬ t.1 ≤ 2 by omega)]
    rw [if_neg a3] at d0
    cases st with
    | nil => simp at d0
    | cons a s =>
      cases s with
      | nil => simp at d0
      | cons b s => rfl
theorem q2_none_l {f : Qq → Qq → Option Qq} {b : Option Qq} : q2 f none b = none := rfl
theorem q2_none_r {f : Qq → Qq → Option Qq} {a : Option Qq} : q2 f a none = none := by cases a <;> rfl
/-- beyond once, beyond for ever -/
theorem evT_none {β : Nat → Nat} {nu : Nat → Int32} {t : Tok} {st : List (Option Qq)} (d0 : if t.1 ≤ 2 then st.length < 20 else if t.1 = 3 then 1 ≤ st.length else 2 ≤ st.length) (m : none ∈ st) : none ∈ evT β nu t st := by
  unfold evT
  by_cases a0 : t.1 = 0
  · rw [if_pos a0]; exact List.mem_cons_of_mem _ m
  by_cases a1 : t.1 = 1
  · rw [if_neg a0, if_pos a1]; exact List.mem_cons_of_mem _ m
  by_cases a2 : t.1 = 2
  · rw [if_neg a0, if_neg a1, if_pos a2]; exact List.mem_cons_of_mem _ m
  rw [if_neg (by omega)] at d0
  by_cases a3 : t.1 = 3
  · rw [if_neg a0, if_neg a1, if_neg a2, if_pos a3]
    cases st with
    | nil => cases m
    | cons a s =>
      rcases List.mem_cons.mp m with e | e
      · rw [← e]; exact List.mem_cons_self ..
      · exact List.mem_cons_of_mem _ e
  · rw [if_neg a0, if_neg a1, if_neg a2, if_neg a3]
    rw [if_neg a3] at d0
    cases st with
    | nil => cases m
    | cons b s =>
      cases s with
      | nil => simp at d0
      | cons a s =>
        rcases List.mem_cons.mp m with e | e
        · rw [← e]
          show none ∈ q2 _ a none :: s
          rw [q2_none_r]; exact List.mem_cons_self ..
        · rcases List.mem_cons.mp e with e | e
          · rw [← e]; exact List.mem_cons_self ..
          · exact List.mem_cons_of_mem _ e
theorem evs_none {β : Nat → Nat} {nu : Nat → Int32} : ∀ (e : List Tok) (st : List (Option Qq)) (d' : Nat), okD e st.length d' → none ∈ st → none ∈ evs β nu e st
  | [], _, _, _, m => m
  | t :: e, st, d', od, m => evs_none e _ d' (by rw [evT_len od.1]; exact od.2) (evT_none od.1 m)
theorem evs_len {β : Nat → Nat} {nu : Nat → Int32} : ∀ (e : List Tok) (st : List (Option Qq)) (d' : Nat), okD e st.length d' → (evs β nu e st).length = d'
  | [], _, _, od => od
  | t :: e, st, d', od => evs_len e _ d' (by rw [evT_len od.1]; exact od.2)
def sm (st : List Qq) : List (Option Qq) := st.map some
theorem sm_len (st : List Qq) : (sm st).length = st.length := List.length_map ..
def okR (st : List Qq) : Prop := ∀ q, q ∈ st → okQ q
/-- a token in the reference: the rest of the row, what is behind -/
def tl1 (t : Tok) (st : List Qq) : List Qq := if t.1 ≤ 2 then st else if t.1 = 3 then st.tail else st.tail.tail
theorem join_v {u : MS} {op : Int32} {x y : Qq} (f : MS → Option MS) : oB (fX12_join u op x.1 x.2 y.1 y.2) f = if op = 5 then oB (fX12_lowest u (x.1 * y.1) (x.2 * y.2)) f else if op = 3 then oB (fX12_lowest u (x.1 * y.2 + y.1 * x.2) (x.2 * y.2)) f else oB (fX12_lowest u (x.1 * y.2 - y.1 * x.2) (x.2 * y.2)) f := by
  unfold fX12_join fX12_join_0 fX12_join_50
  split
  · rw [oB_as]; rfl
  · split
    · rw [oB_as]; rfl
    · rw [oB_as]; rfl
theorem nI_down {k : Nat} : nI (k + 1) + -1 = nI k := by
  rw [show nI (k + 1) = nI k + 1 from (nI_add k 1).symm, Int32.add_assoc, show (1 : Int32) + -1 = 0 from rfl, Int32.add_zero]
theorem nI_down2 {k : Nat} : nI (k + 1 + 1) + -2 = nI k := by
  rw [show nI (k + 1 + 1) = nI k + 2 from (nI_add k 2).symm, Int32.add_assoc, show (2 : Int32) + -2 = 0 from rfl, Int32.add_zero]
theorem wor_in {u : MS} {n E d j op : Nat} (hj : j < E) (hE : E ≤ 37000) (e0 : mA u 60 j = nI op) : fX12_worth_11 95 (n + 1) u (nI E) (nI d) (nI j) = (if nI op = 0 then (oC (ix (nI j) (mlen 61)) (oC (ix (nI j) (mlen 62)) (oB (fX12_lowest u (Int32.toInt64 (mA u 61 (Int32.toNatClampNeg (nI j)))) (Int32.toInt64 (mA u 62 (Int32.toNatClampNeg (nI j))))) (fun h36 => fX12_worth_167 95 (fX12_worth_11 95 n) h36 (nI E) (nI d) (nI j))))) else (if nI op = 1 then (oC (ix (nI j) (mlen 61)) (oB (fX12_personOf u (mA u 61 (Int32.toNatClampNeg (nI j))) 95) (fun r28 => oC (ix (nI j) (mlen 62)) (oC (ix ((4 * r28) + (mA u 62 (Int32.toNatClampNeg (nI j)))) (mlen 26)) (oB (fX12_lowest u (Int32.toInt64 (mA u 26 (Int32.toNatClampNeg ((4 * r28) + (mA u 62 (Int32.toNatClampNeg (nI j))))))) 1) (fun h32 => fX12_worth_167 95 (fX12_worth_11 95 n) h32 (nI E) (nI d) (nI j))))))) else (if nI op = 2 then (oL (nI d + (-1)) (fun y21 => oC (ix y21 (mlen 82)) (oC (ix y21 (mlen 83)) (oB (fX12_lowest u (-(mB u 82 (Int32.toNatClampNeg y21))) (mB u 83 (Int32.toNatClampNeg y21))) (fun h25 => fX12_worth_167 95 (fX12_worth_11 95 n) h25 (nI E) y21 (nI j)))))) else (oL (nI d + (-2)) (fun y14 => oC (ix y14 (mlen 82)) (oC (ix y14 (mlen 83)) (oC (ix (y14 + 1) (mlen 82)) (oC (ix (y14 + 1) (mlen 83)) (oB (fX12_join u (nI op) (mB u 82 (Int32.toNatClampNeg y14)) (mB u 83 (Int32.toNatClampNeg y14)) (mB u 82 (Int32.toNatClampNeg (y14 + 1))) (mB u 83 (Int32.toNatClampNeg (y14 + 1)))) (fun h20 => fX12_worth_167 95 (fX12_worth_11 95 n) h20 (nI E) y14 (nI j))))))))))) := by
  have ul : fX12_worth_11 95 (n + 1) u (nI E) (nI d) (nI j) = fX12_worth_11F 95 (fX12_worth_11 95 n) u (nI E) (nI d) (nI j) := rfl
  rw [ul, fX12_worth_11F, if_neg (nI_ge hj (show E < 2147483648 by omega)), oC_t (ix_n (show j < mlen 60 by show _ < 37000; omega) (by decide)), nI_clamp (show j < 2147483648 by omega), e0, oL_v]
theorem MG.l0 {u : MS} {n E j x y : Nat} {st : List Qq} (hj : j < E) (hE : E ≤ 37000) (e0 : mA u 60 j = nI 0) (e1 : mA u 61 j = nI x) (e2 : mA u 62 j = nI y) (hx : x ≤ 999999) (hy : 1 ≤ y ∧ y ≤ 999999) (z : mI u 79 = 0) (d0 : st.length < 20) (R : RV u st) : MG u (nI E) j n (fX12_worth_11 95 (n + 1) u (nI E) (nI st.length) (nI j)) (low (nL x) (nL y)) st := by
  have ob : okND (nL x) (nL y) := ⟨by rw [nL_toInt (by omega)]; omega, by rw [nL_toInt (by omega)]; omega, by rw [nL_toInt (by omega)]; omega⟩
  rw [wor_in hj hE e0, if_pos (show nI 0 = 0 from rfl), oC_t (ix_n (show j < mlen 61 by show _ < 37000; omega) (by decide)), oC_t (ix_n (show j < mlen 62 by show _ < 37000; omega) (by decide)), nI_clamp (show j < 2147483648 by omega), e1, e2, nI_64 (show x < 2147483648 by omega), nI_64 (show y < 2147483648 by omega)]
  exact MG.lw (k := 0) ob z d0 R
theorem MG.l1 {u : MS} {β : Nat → Nat} {nv np n E j x y : Nat} {nu : Nat → Int32} {st : List Qq} (M : MC u β nv np nu) (hj : j < E) (hE : E ≤ 37000) (e0 : mA u 60 j = nI 1) (e1 : mA u 61 j = nI (tmr x)) (e2 : mA u 62 j = nI y) (l1 : okTm nv np x) (l2 : y < 4) (z : mI u 79 = 0) (d0 : st.length < 20) (R : RV u st) : MG u (nI E) j n (fX12_worth_11 95 (n + 1) u (nI E) (nI st.length) (nI j)) (low (Int32.toInt64 (nu (4 * pe β x + y))) 1) st := by
  have lp := pe_lt (fun v hv => (M.b v hv).2) l1
  have p5 := M.p5
  have ob : (Int32.toInt64 (nu (4 * pe β x + y))).toInt.natAbs ≤ 4000000000000000000 := by
    have := (M.nm (4 * pe β x + y) (by omega)).2
    rw [i32_64]; omega
  have ei : 4 * nI (pe β x) + nI y = nI (4 * pe β x + y) := by
    rw [show (4 : Int32) = nI 4 from rfl, nI_mul, nI_add]
  rw [wor_in hj hE e0, if_neg (show ¬ nI 1 = 0 by decide), if_pos (show nI 1 = 1 from rfl), oC_t (ix_n (show j < mlen 61 by show _ < 37000; omega) (by decide)), nI_clamp (show j < 2147483648 by omega), e1, personM M l1, oB_v, oC_t (ix_n (show j < mlen 62 by show _ < 37000; omega) (by decide)), e2, ei, oC_t (ix_n (show 4 * pe β x + y < mlen 26 by show _ < 20; omega) (by decide)), nI_clamp (show 4 * pe β x + y < 2147483648 by omega), (M.nm _ (by omega)).1]
  exact MG.lw (k := 0) (okND_1 ob) z d0 R
theorem MG.l2 {u : MS} {n E j : Nat} {a : Qq} {s : List Qq} (hj : j < E) (hE : E ≤ 37000) (e0 : mA u 60 j = nI 2) (z : mI u 79 = 0) (d0 : s.length < 20) (R : RV u (a :: s)) (oa : okQ a) : MG u (nI E) j n (fX12_worth_11 95 (n + 1) u (nI E) (nI (s.length + 1)) (nI j)) (some (-a.1, a.2)) s := by
  have on : okQ (-a.1, a.2) := okQ_neg oa
  rw [wor_in hj hE e0, if_neg (show ¬ nI 2 = 0 by decide), if_neg (show ¬ nI 2 = 1 by decide), if_pos (show nI 2 = 2 from rfl), oL_v, nI_down, oC_t (ix_n (show s.length < mlen 82 by show _ < 1300; omega) (by decide)), oC_t (ix_n (show s.length < mlen 83 by show _ < 1300; omega) (by decide)), nI_clamp (show s.length < 2147483648 by omega), R.1, R.2.1, ← low_self on]
  exact MG.lw (k := 0) (okND_q on) z d0 R.2.2
theorem MG.l3 {u : MS} {n E j q : Nat} {a b : Qq} {s : List Qq} (hj : j < E) (hE : E ≤ 37000) (w : q = 4 ∨ q = 5 ∨ q = 6) (e0 : mA u 60 j = nI (q - 1)) (z : mI u 79 = 0) (d0 : s.length < 20) (R : RV u (b :: a :: s)) (oa : okQ a) (ob : okQ b) : MG u (nI E) j n (fX12_worth_11 95 (n + 1) u (nI E) (nI (s.length + 1 + 1)) (nI j)) (q2 (if q = 4 then fadd else if q = 5 then fsub else fmul) (some a) (some b)) s := by
  have e4 : nI s.length + 1 = nI (s.length + 1) := nI_add _ 1
  have r1 : mB u 82 (s.length + 1) = b.1 := R.1
  have r2 : mB u 83 (s.length + 1) = b.2 := R.2.1
  have r3 : mB u 82 s.length = a.1 := R.2.2.1
  have r4 : mB u 83 s.length = a.2 := R.2.2.2.1
  have RS : RV u s := R.2.2.2.2
  have nn : ¬ nI (q - 1) = 0 ∧ ¬ nI (q - 1) = 1 ∧ ¬ nI (q - 1) = 2 := by
    rcases w with w | w | w <;> subst w <;> decide
  rw [wor_in hj hE e0, if_neg nn.1, if_neg nn.2.1, if_neg nn.2.2, oL_v, nI_down2, e4, oC_t (ix_n (show s.length < mlen 82 by show _ < 1300; omega) (by decide)), oC_t (ix_n (show s.length < mlen 83 by show _ < 1300; omega) (by decide)), oC_t (ix_n (show s.length + 1 < mlen 82 by show _ < 1300; omega) (by decide)), oC_t (ix_n (show s.length + 1 < mlen 83 by show _ < 1300; omega) (by decide)), nI_clamp (show s.length < 2147483648 by omega), nI_clamp (show s.length + 1 < 2147483648 by omega), r1, r2, r3, r4, join_v]
  rcases w with w | w | w <;> subst w
  · rw [if_neg (show ¬ nI (4 - 1) = 5 by decide), if_pos (show nI (4 - 1) = 3 from rfl), if_pos rfl]
    exact MG.lw (k := 0) (okND_add oa ob) z d0 RS
  · rw [if_neg (show ¬ nI (5 - 1) = 5 by decide), if_neg (show ¬ nI (5 - 1) = 3 by decide), if_neg (show ¬ 5 = 4 by decide), if_pos rfl]
    exact MG.lw (k := 0) (okND_sub oa ob) z d0 RS
  · rw [if_pos (show nI (6 - 1) = 5 from rfl), if_neg (show ¬ 6 = 4 by decide), if_neg (show ¬ 6 = 5 by decide)]
    exact MG.lw (k := 0) (okND_mul oa ob) z d0 RS
theorem rt_op {q x y : Nat} (h : 3 ≤ q) : rt (q, x, y) = (q - 1, 0, 1) := by
  unfold rt
  simp only [if_neg (show ¬ q = 0 by omega), if_neg (show ¬ q = 1 by omega), if_neg (show ¬ q = 2 by omega)]
theorem MG.tok {u : MS} {β : Nat → Nat} {nv np n E j : Nat} {nu : Nat → Int32} {st : List Qq} {t : Tok} (M : MC u β nv np nu) (ok : okK nv np t) (hj : j < E) (hE : E ≤ 37000) (e0 : mA u 60 j = nI (rt t).1) (e1 : mA u 61 j = nI (rt t).2.1) (e2 : mA u 62 j = nI (rt t).2.2) (z : mI u 79 = 0) (d0 : if t.1 ≤ 2 then st.length < 20 else if t.1 = 3 then 1 ≤ st.length else 2 ≤ st.length) (d1 : st.length ≤ 20) (R : RV u st) (os : okR st) : ∃ v, evT β nu t (sm st) = v :: sm (tl1 t st) ∧ okV v ∧ MG u (nI E) j n (fX12_worth_11 95 (n + 1) u (nI E) (nI st.length) (nI j)) v (tl1 t st) := by
  obtain ⟨q, x, y⟩ := t
  obtain ⟨o1, o2, o3, o4⟩ := ok
  simp only at o1 o2 o3 o4 d0
  by_cases w : q ≤ 2
  · have et : tl1 (q, x, y) st = st := if_pos w
    rw [if_pos w] at d0
    rw [et]
    rcases (show q = 0 ∨ q = 1 ∨ q = 2 by omega) with w | w | w
    · subst w
      have l := o2 rfl
      have ob : (nL x).toInt.natAbs ≤ 4000000000000000000 := by rw [nL_toInt (by omega)]; omega
      exact ⟨low (nL x) (nL 1), rfl, okV_low1 ob, MG.l0 hj hE e0 e1 e2 l ⟨by omega, by omega⟩ z d0 R⟩
    · subst w
      obtain ⟨l1, l2, l3⟩ := o3 rfl
      have ob : okND (nL x) (nL y) := ⟨by rw [nL_toInt (by omega)]; omega, by rw [nL_toInt (by omega)]; omega, by rw [nL_toInt (by omega)]; omega⟩
      exact ⟨low (nL x) (nL y), rfl, low_ok ob, MG.l0 hj hE e0 e1 e2 l1 ⟨l2, l3⟩ z d0 R⟩
    · subst w
      obtain ⟨l1, l2⟩ := o4 rfl
      have lp := pe_lt (fun v hv => (M.b v hv).2) l1
      have p5 := M.p5
      have ob : (Int32.toInt64 (nu (4 * pe β x + y))).toInt.natAbs ≤ 4000000000000000000 := by
        have := (M.nm (4 * pe β x + y) (by omega)).2
        rw [i32_64]; omega
      exact ⟨low (Int32.toInt64 (nu (4 * pe β x + y))) 1, rfl, okV_low1 ob, MG.l1 M hj hE e0 e1 e2 l1 l2 z d0 R⟩
  · rw [if_neg w] at d0
    rw [rt_op (by omega)] at e0
    by_cases w3 : q = 3
    · subst w3
      cases st with
      | nil => simp at d0
      | cons a s =>
        rw [List.length_cons] at d1 ⊢
        have oa : okQ a := os a (List.mem_cons_self ..)
        exact ⟨some (-a.1, a.2), rfl, fun q e => (by cases e; exact okQ_neg oa), MG.l2 hj hE e0 z (by omega) R oa⟩
    · rw [if_neg w3] at d0
      cases st with
      | nil => simp at d0
      | cons b s =>
        cases s with
        | nil => simp at d0
        | cons a s =>
          rw [List.length_cons, List.length_cons] at d1 ⊢
          have ob : okQ b := os b (List.mem_cons_self ..)
          have oa : okQ a := os a (List.mem_cons_of_mem _ (List.mem_cons_self ..))
          have w4 : q = 4 ∨ q = 5 ∨ q = 6 := by omega
          have et : tl1 (q, x, y) (b :: a :: s) = s := by
            unfold tl1
            simp only [if_neg w, if_neg w3, List.tail_cons]
          rw [et]
          refine ⟨q2 (if q = 4 then fadd else if q = 5 then fsub else fmul) (some a) (some b), ?_, ?_, MG.l3 hj hE w4 e0 z (by omega) R oa ob⟩
          · unfold evT
            simp only [if_neg (show ¬ q = 0 by omega), if_neg (show ¬ q = 1 by omega), if_neg (show ¬ q = 2 by omega), if_neg w3]
            rfl
          · rcases w4 with w | w | w <;> subst w
            · exact fadd_ok a b oa ob
            · exact fsub_ok a b oa ob
            · exact fmul_ok a b oa ob
