/-! the loops of a text -/
theorem FU_v : FU = 100000 := rfl
theorem FU_s {k : Nat} (h : k ≤ 1000) : FU - (k + 1) + k + 1 = FU := by rw [FU_v]; omega

def To (h0 : PH) (u0 : MS) (k : Nat) (l : List Int32) (i j n : Nat) (F : Option (PH × Int32 × Nat × Nat)) (M : Option (MS × Int32)) : Prop := ∃ h' u' k' l' i' j', F = some (h', nI (l ++ l').length, i', j') ∧ M = some (u', nI (l ++ l').length) ∧ BW h0 h' 3 k k' 0 (l ++ l') (i + i') (j + j') ∧ MO u0 u' (l ++ l') ∧ (∀ x, x ∈ l' → 0 ≤ by8 x) ∧ l'.length ≤ n
theorem To.mono {h0 : PH} {u0 : MS} {k : Nat} {l : List Int32} {i j n m : Nat} {F : Option (PH × Int32 × Nat × Nat)} {M : Option (MS × Int32)} (X : To h0 u0 k l i j n F M) (h : n ≤ m) : To h0 u0 k l i j m F M := by
  obtain ⟨a, b, c, d, e, f, q1, q2, q3, q4, q5, q6⟩ := X
  exact ⟨a, b, c, d, e, f, q1, q2, q3, q4, q5, by omega⟩
theorem To.fin {h0 h : PH} {u0 u : MS} {k k' i j : Nat} {l : List Int32} (W : BW h0 h 3 k k' 0 l i j) (M : MO u0 u l) : To h0 u0 k l i j 0 (some (h, hI h 1 3, 0, 0)) (some (u, mI u 113)) := by
  refine ⟨h, u, k', [], 0, 0, ?_, ?_, ?_, ?_, fun x hx => absurd hx (by simp), Nat.le_refl _⟩
  · rw [List.append_nil, W.bs.le, Nat.zero_add]
  · rw [List.append_nil, M.le]
  · rw [List.append_nil]; exact W
  · rw [List.append_nil]; exact M
theorem To.seq {h0 : PH} {u0 : MS} {k i j n m : Nat} {l : List Int32} {F : Option (PH × Nat × Nat)} {M : Option MS} {Fc : PH → Option (PH × Int32 × Nat × Nat)} {Mc : MS → Option (MS × Int32)} (X : Bo h0 u0 k l i j n F M) (Y : ∀ h' k' l' i' j' u', BW h0 h' 3 k k' 0 (l ++ l') (i + i') (j + j') → MO u0 u' (l ++ l') → l'.length ≤ n → To h0 u0 k (l ++ l') (i + i') (j + j') m (Fc h') (Mc u')) : To h0 u0 k l i j (n + m) (oB3 F (fun h' i j => oK4 i j (Fc h'))) (oB M Mc) := by
  obtain ⟨l1, n1, p1, ⟨h', k', i', j', e, W⟩, ⟨u', e', W'⟩⟩ := X
  obtain ⟨h2, u2, k2, l2, i2, j2, q1, q2, q3, q4, q5, q6⟩ := Y h' k' l1 i' j' u' W W' n1
  rw [List.append_assoc] at q1 q2 q3 q4
  refine ⟨h2, u2, k2, l1 ++ l2, i' + i2, j' + j2, ?_, ?_, ?_, q4, fun x hx => ?_, by rw [List.length_append]; omega⟩
  · rw [e, oB3_v, q1, oK4_v]
  · rw [e', oB_v, q2]
  · rw [← Nat.add_assoc, ← Nat.add_assoc]; exact q3
  · rcases List.mem_append.mp hx with q | q
    · exact p1 x q
    · exact q5 x q
theorem To.skip {h0 h : PH} {u0 : MS} {k i j n : Nat} {l : List Int32} {F : Option (PH × Nat × Nat)} {M : Option (MS × Int32)} {Fc : PH → Option (PH × Int32 × Nat × Nat)} (e : F = some (h, 0, 0)) (Y : To h0 u0 k l i j n (Fc h) M) : To h0 u0 k l i j n (oB3 F (fun h' i j => oK4 i j (Fc h'))) M := by
  obtain ⟨h2, u2, k2, l2, i2, j2, q1, q2⟩ := Y
  exact ⟨h2, u2, k2, l2, i2, j2, by rw [e, oB3_v, q1, oK4_v, Nat.zero_add, Nat.zero_add], q2⟩
theorem t46_s {h h0 : PH} {G : Gh} {c : Nat} (V : TV h h0 G) (hc : c < 20) (f : Nat) : fX11_text_46 (f + 1) h 0 (nI c) = oB3 (fX5_writeSum h (G.jd 0) (nI c) (some 3)) (fun h' i j => oK4 i j (fX11_text_46 f h' 0 (nI (c + 1)))) := by
  show fX11_text_46F (fX11_text_46 f) h 0 (nI c) = _
  simp only [fX11_text_46F, if_neg (show ¬ (20 : Int32) ≤ nI c from nI_ge (b := 20) hc (by omega)), V.t0, V.t5, V.t6, V.t8, V.t10, V.t14, V.t7, V.t9, V.t11, V.t15, V.t16, V.t3, V.n7, V.n9, V.n11, V.n15, V.n16, V.r128_5, V.r129_5, V.r130_5, V.r132_5, V.r133_5, V.r896_6, V.r896_8, V.r896_10, V.r896_14, V.r1409_0, V.r1410_0, V.r1416_0, V.tj0, V.tj10, V.tj11, V.tj19, V.tj20, V.nj10, V.nj11, V.nj19, V.nj20, V.rj640, V.rj646, V.rj647, V.rj657, V.rj658, oN_v, oC_v, oB_v, oB2_v, oB3_v, oB4_v, oK3_v, oK4_v, oL_v, if_true, if_false, and_false, false_and, and_true, true_and, and_self, decide_true, decide_false, reduceCtorEq, not_false_eq_true, not_true_eq_false, Nat.reduceEqDiff, Nat.reduceAdd, Nat.reduceMul, Nat.add_zero, Nat.zero_add, nI_1]
theorem t46_e {h h0 : PH} {G : Gh} (V : TV h h0 G) (f : Nat) : fX11_text_46 (f + 1) h 0 (nI 20) = some (h, hI h 1 3, 0, 0) := by
  show fX11_text_46F (fX11_text_46 f) h 0 (nI 20) = _
  simp only [fX11_text_46F, if_pos (show (20 : Int32) ≤ nI 20 by decide), V.t0, V.t5, V.t6, V.t8, V.t10, V.t14, V.t7, V.t9, V.t11, V.t15, V.t16, V.t3, V.n7, V.n9, V.n11, V.n15, V.n16, V.r128_5, V.r129_5, V.r130_5, V.r132_5, V.r133_5, V.r896_6, V.r896_8, V.r896_10, V.r896_14, V.r1409_0, V.r1410_0, V.r1416_0, V.tj0, V.tj10, V.tj11, V.tj19, V.tj20, V.nj10, V.nj11, V.nj19, V.nj20, V.rj640, V.rj646, V.rj647, V.rj657, V.rj658, oN_v, oC_v, oB_v, oB2_v, oB3_v, oB4_v, oK3_v, oK4_v, oL_v, if_true, if_false, and_false, false_and, and_true, true_and, and_self, decide_true, decide_false, reduceCtorEq, not_false_eq_true, not_true_eq_false, Nat.reduceEqDiff, Nat.reduceAdd, Nat.reduceMul, Nat.add_zero, Nat.zero_add]
theorem t19_s {h h0 : PH} {G : Gh} {c : Nat} (V : TV h h0 G) (hc : c < 600) (f : Nat) : fX11_text_19 (f + 1) h 0 (nI c) = oB3 (fX5_writeLiteral h (G.jd 0) (nI c) (some 3)) (fun h' i j => oK4 i j (fX11_text_19 f h' 0 (nI (c + 1)))) := by
  show fX11_text_19F (fX11_text_19 f) h 0 (nI c) = _
  simp only [fX11_text_19F, if_neg (show ¬ (600 : Int32) ≤ nI c from nI_ge (b := 600) hc (by omega)), V.t0, V.t5, V.t6, V.t8, V.t10, V.t14, V.t7, V.t9, V.t11, V.t15, V.t16, V.t3, V.n7, V.n9, V.n11, V.n15, V.n16, V.r128_5, V.r129_5, V.r130_5, V.r132_5, V.r133_5, V.r896_6, V.r896_8, V.r896_10, V.r896_14, V.r1409_0, V.r1410_0, V.r1416_0, V.tj0, V.tj10, V.tj11, V.tj19, V.tj20, V.nj10, V.nj11, V.nj19, V.nj20, V.rj640, V.rj646, V.rj647, V.rj657, V.rj658, oN_v, oC_v, oB_v, oB2_v, oB3_v, oB4_v, oK3_v, oK4_v, oL_v, if_true, if_false, and_false, false_and, and_true, true_and, and_self, decide_true, decide_false, reduceCtorEq, not_false_eq_true, not_true_eq_false, Nat.reduceEqDiff, Nat.reduceAdd, Nat.reduceMul, Nat.add_zero, Nat.zero_add, nI_1]
theorem t19_e {h : PH} (f : Nat) : fX11_text_19 (f + 1) h 0 (nI 600) = fX11_text_46 FU h 0 0 := by
  show fX11_text_19F (fX11_text_19 f) h 0 (nI 600) = _
  simp only [fX11_text_19F, if_pos (show (600 : Int32) ≤ nI 600 by decide)]
section TEXT
variable {h0 : PH} {u0 : MS} {G : Gh} {z : Sz} {jp jw js : Nat}
theorem To.skips (S : SX h0 G) (J : G.jj = true) (K : MK h0 u0 G z jp jw js) {h : PH} {k' i j n : Nat} {l : List Int32} (W : BW h0 h 3 G.wk k' 0 l i j) {M : Option (MS × Int32)} : ∀ d c f, c + d ≤ 20 → (∀ q, c ≤ q → q < c + d → ¬ (q / 5 < js ∧ q % 5 < jp)) → To h0 u0 G.wk l i j n (fX11_text_46 f h 0 (nI (c + d))) M → To h0 u0 G.wk l i j n (fX11_text_46 (f + d) h 0 (nI c)) M := by
  intro d
  induction d with
  | zero => intro c f _ _ Y; exact Y
  | succ d ih =>
    intro c f hc hq Y
    rw [← Nat.add_assoc, t46_s (TV.of S J W) (by omega)]
    refine To.skip (ws_no S J K W (by omega) (hq c (by omega) (by omega))) ?_
    exact ih (c + 1) f (by omega) (fun q h1 h2 => hq q (by omega) (by omega)) (by rw [show c + 1 + d = c + (d + 1) by omega]; exact Y)
theorem To.sums (S : SX h0 G) (J : G.jj = true) (A : NA h0 u0 z) (K : MK h0 u0 G z jp jw js) (b : WB h0 G.wk) : ∀ e s f f' {h : PH} {u : MS} {k' i j : Nat} {l : List Int32}, s + e = js → BW h0 h 3 G.wk k' 0 l i j → MO u0 u l → l.length < 100000 - 250 * e → To h0 u0 G.wk l i j (250 * e) (fX11_text_46 (f + (20 - 5 * s) + 1) h 0 (nI (5 * s))) (fX12_text_40 (f' + e + 1) u (nI s)) := by
  obtain ⟨o1, o2, o3, o4, o5, o6⟩ := A.zo
  have ls := K.ls
  have lp := K.lp
  intro e
  induction e with
  | zero =>
    intro s f f' h u k' i j l es W M hl
    show To h0 u0 G.wk l i j 0 _ (fX12_text_40F (fX12_text_40 f') u (nI s))
    have q : mI u 99 ≤ nI s := by rw [M.i 99 (by omega), K.s2]; exact nI_le (by omega) (by omega)
    unfold fX12_text_40F
    rw [if_pos q, show f + (20 - 5 * s) + 1 = (f + 1) + (20 - 5 * s) by omega]
    refine To.skips S J K W (20 - 5 * s) (5 * s) (f + 1) (by omega) (fun q h1 h2 => by omega) ?_
    rw [show 5 * s + (20 - 5 * s) = 20 by omega, t46_e (TV.of S J W)]
    exact To.fin W M
  | succ e ih =>
    intro s f f' h u k' i j l es W M hl
    show To h0 u0 G.wk l i j (250 * (e + 1)) _ (fX12_text_40F (fX12_text_40 (f' + e + 1)) u (nI s))
    have q : ¬ mI u 99 ≤ nI s := by rw [M.i 99 (by omega), K.s2]; exact nI_ge (by omega) (by omega)
    unfold fX12_text_40F
    rw [if_neg q]
    have inner : ∀ d p f2 {h : PH} {u : MS} {k' i j : Nat} {l : List Int32}, p + d = jp → BW h0 h 3 G.wk k' 0 l i j → MO u0 u l → l.length < 100000 - 250 * e - 50 * d → To h0 u0 G.wk l i j (250 * e + 50 * d) (fX11_text_46 (f + (20 - (5 * s + p)) + 1) h 0 (nI (5 * s + p))) (fX12_text_50 (fX12_text_40 (f' + e + 1)) (f2 + d + 1) u (nI s) (nI p)) := by
      intro d
      induction d with
      | zero =>
        intro p f2 h u k' i j l ep W M hl
        have ep' : p = jp := by omega
        subst ep'
        show To h0 u0 G.wk l i j (250 * e) _ (fX12_text_50F (fX12_text_40 (f' + e + 1)) (fX12_text_50 (fX12_text_40 (f' + e + 1)) f2) u (nI s) (nI p))
        have q : mI u 97 ≤ nI p := by rw [M.i 97 (by omega), K.p2]; exact nI_le (by omega) (by omega)
        unfold fX12_text_50F
        rw [if_pos q, oL_v, nI_1, show f + (20 - (5 * s + p)) + 1 = (f + (20 - 5 * (s + 1)) + 1) + (5 - p) by omega]
        refine To.skips S J K W (5 - p) (5 * s + p) _ (by omega) (fun q h1 h2 => by omega) ?_
        rw [show 5 * s + p + (5 - p) = 5 * (s + 1) by omega]
        exact ih (s + 1) f f' (by omega) W M (by omega)
      | succ d ihd =>
        intro p f2 h u k' i j l ep W M hl
        show To h0 u0 G.wk l i j _ _ (fX12_text_50F (fX12_text_40 (f' + e + 1)) (fX12_text_50 (fX12_text_40 (f' + e + 1)) (f2 + d + 1)) u (nI s) (nI p))
        rw [sumLine_v (M.i 97 (by omega) |>.trans K.p2) (show p < jp by omega) (by omega) (by omega), show f + (20 - (5 * s + p)) + 1 = (f + (20 - (5 * s + (p + 1))) + 1) + 1 by omega, t46_s (TV.of S J W) (by omega)]
        refine To.mono (To.seq (n := 50) (m := 250 * e + 50 * d) (Bo.sum S J A K b W M (by omega) (show s < js by omega) (show p < jp by omega)) fun h' k2 l' i' j' u' W' M' hn => ?_) (by omega)
        exact ihd (p + 1) f2 (by omega) W' M' (by rw [List.length_append]; omega)
    have := inner jp 0 (FU - (jp + 1)) (by omega) W M (by omega)
    rw [Nat.add_zero, FU_s (show jp ≤ 1000 by omega)] at this
    exact this.mono (by omega)
theorem To.skipl (S : SX h0 G) (J : G.jj = true) (K : MK h0 u0 G z jp jw js) {h : PH} {k' i j n : Nat} {l : List Int32} (W : BW h0 h 3 G.wk k' 0 l i j) {M : Option (MS × Int32)} : ∀ d c f, c + d ≤ 600 → 50 * jw ≤ c → To h0 u0 G.wk l i j n (fX11_text_19 f h 0 (nI (c + d))) M → To h0 u0 G.wk l i j n (fX11_text_19 (f + d) h 0 (nI c)) M := by
  intro d
  induction d with
  | zero => intro c f _ _ Y; exact Y
  | succ d ih =>
    intro c f hc hq Y
    rw [← Nat.add_assoc, t19_s (TV.of S J W) (by omega)]
    refine To.skip (wl_no S J K W (by omega) (fun q => by have := q.1; omega)) ?_
    exact ih (c + 1) f (by omega) (by omega) (by rw [show c + 1 + d = c + (d + 1) by omega]; exact Y)
theorem To.lits (S : SX h0 G) (J : G.jj = true) (A : NA h0 u0 z) (K : MK h0 u0 G z jp jw js) (b : WB h0 G.wk) : ∀ d p f f' {h : PH} {u : MS} {k' i j : Nat} {l : List Int32}, p + d = 50 * jw → BW h0 h 3 G.wk k' 0 l i j → MO u0 u l → l.length < 90000 - 56 * d → To h0 u0 G.wk l i j (1000 + 56 * d) (fX11_text_19 (f + (600 - p) + 1) h 0 (nI p)) (fX12_text_16 (f' + d + 1) u (nI p)) := by
  obtain ⟨o1, o2, o3, o4, o5, o6⟩ := A.zo
  have lw := K.lw
  have ls := K.ls
  intro d
  have ew : ∀ {u : MS} {l : List Int32}, MO u0 u l → 50 * mI u 98 = nI (50 * jw) := fun M => by
    rw [M.i 98 (by omega), K.w2, show (50 : Int32) = nI 50 from rfl, nI_mul]
  induction d with
  | zero =>
    intro p f f' h u k' i j l ep W M hl
    show To h0 u0 G.wk l i j _ _ (fX12_text_16F (fX12_text_16 f') u (nI p))
    unfold fX12_text_16F
    rw [ew M, if_pos (nI_le (by omega) (by omega)), show f + (600 - p) + 1 = (f + 1) + (600 - p) by omega]
    refine To.skipl S J K W (600 - p) p (f + 1) (by omega) (by omega) ?_
    rw [show p + (600 - p) = 600 by omega, t19_e]
    have := To.sums S J A K b js 0 (FU - 21) (FU - (js + 1)) (by omega) W M (by omega)
    rw [show FU - 21 + (20 - 5 * 0) + 1 = FU from FU_s (k := 20) (by omega), FU_s (show js ≤ 1000 by omega)] at this
    exact this.mono (by omega)
  | succ d ih =>
    intro p f f' h u k' i j l ep W M hl
    show To h0 u0 G.wk l i j _ _ (fX12_text_16F (fX12_text_16 (f' + d + 1)) u (nI p))
    unfold fX12_text_16F
    rw [ew M, if_neg (nI_ge (show p < 50 * jw by omega) (by omega)), show f + (600 - p) + 1 = (f + (600 - (p + 1)) + 1) + 1 by omega, t19_s (TV.of S J W) (by omega)]
    simp only [oL_v, nI_1]
    refine To.mono (To.seq (n := 56) (m := 1000 + 56 * d) (Bo.lit S J A K b W M (by omega) (show p < 50 * jw by omega)) fun h' k2 l' i' j' u' W' M' hn => ?_) (by omega)
    exact ih (p + 1) f f' (by omega) W' M' (by rw [List.length_append]; omega)
end TEXT
theorem Iv.text {h h' : PH} {u u' : MS} {G : Gh} {z : Sz} {k' i j : Nat} {l : List Int32} (I : Iv h u G z) (hL4 : l.length ≤ 1000000) (hnn : ∀ x, x ∈ l → 0 ≤ by8 x) (W : BW (sI h 1 3 0) h' 3 G.wk k' 0 l i j) (M : MO (mSI u 113 0) u' l) : Iv h' u' (G.wK G.tk k' (upO G.ow k' 200002)) z := by
  have S := I.sx
  have zz := S.zz
  have Wag : Ag (fun b => b < hZ h ∧ b ≠ 3 ∧ b ≠ G.wk) h h' := ((Ag.refl h).sI (fun q => q.2.1 rfl)).trans W.ag
  have Mag : MAg (fun k => k ≠ 113 ∧ k ≠ 114 ∧ k ≠ 115) u u' := ((MAg.refl u).sI (by omega)).trans M.ag
  have ho : ∀ a, a < hZ h → upO G.ow k' 200002 a = G.ow a := fun a ha => upO_eq fun e => by
    subst e
    rcases W.kk with q | q
    · rw [q]; exact S.owk
    · have : hZ h ≤ a := q
      omega
  have hR' : ∀ f a, a < hZ h → ¬ (f = 0 ∧ a = 3) → hR h' f a = hR h f a := W.R
  have A : ∀ n, n ≠ 2 → Ag (gr (hZ h) G n) h h' := fun n hn => Wag.mono fun a ha => ⟨ha.1, fun q => by rw [q] at ha; have := ha.2; rw [S.o3] at this; omega, fun q => by rw [q] at ha; have := ha.2; rw [S.owk] at this; omega⟩
  have ag : ∀ a x, a < hZ h → G.ow a = x → x ≠ 200001 → x ≠ 200002 → (∀ f, hI h' f a = hI h f a) ∧ (∀ f, hL h' f a = hL h f a) ∧ (∀ i, hA h' a i = hA h a i) ∧ ∀ i, hB h' a i = hB h a i := fun a x ha ho h1 h2 => Wag a ⟨ha, ne_ow ho S.o3 h1, ne_ow ho S.owk h2⟩
  have i0 := (ag 0 _ (by omega) S.o0 (by omega) (by omega)).1
  have i5 := (ag 5 _ (by omega) S.o5 (by omega) (by omega)).1
  have i6 := (ag 6 _ (by omega) S.o6 (by omega) (by omega)).1
  have i8 := (ag 8 _ (by omega) S.o8 (by omega) (by omega)).1
  have i10 := (ag 10 _ (by omega) S.o10 (by omega) (by omega)).1
  have i12 := (ag 12 _ (by omega) S.o12 (by omega) (by omega)).1
  have i14 := (ag 14 _ (by omega) S.o14 (by omega) (by omega)).1
  have mi : ∀ k, k ≠ 113 ∧ k ≠ 114 ∧ k ≠ 115 → mI u' k = mI u k := fun k hk => (Mag k hk).1
  have ma : ∀ k, k ≠ 113 ∧ k ≠ 114 ∧ k ≠ 115 → ∀ i, mA u' k i = mA u k i := fun k hk => (Mag k hk).2.2.1
  have nj : ∀ J : G.jj = true, ∀ a, a < 21 → hN h' (G.jd a) = hN h (G.jd a) := fun J a ha => W.N _ (jd_lt J S a ha)
  exact Iv.mk
    (sx_ := SX'.mk
      (ss_ := SS'.step S.ss W.T W.N ho (fun f' a ha hf => hR' f' a ha (fun q => hf.1 q.1)) W.hz W.bs.fr)
      (ru_ := RU'.step S.ru S.fr zz W.T W.N ho (fun f' a ha hf => hR' f' a ha (fun q => hf.1 q.1)) (fun a i ha _ => W.C a i ha))
      (te_ := TE'.step (SX'.te (G := G) S) S.fr W.T W.N ho (fun f' a ha hf => hR' f' a ha (fun q => hf.1 q.1)) (fun i _ => W.C 31 i (show 31 < hZ h by omega)))
      (ju_ := JU'.step S.ju S.fr W.T W.N ho (fun f' a ha hf => hR' f' a ha (fun q => hf.1 q.1)) (hR' _ _ (by omega) (by omega)) (fun f' hf a ha => hR' f' a ha (by omega)) (fun a i ha _ => W.C a i ha))
      (tk_ := P6.step (SX'.tk (G := G) S) (by omega) S.fr W.T ho (hR' _ _ (by omega) (by omega)))
      (wk_ := ⟨W.bs.rk, W.bs.tk, upO_s⟩)
      (kd_ := P6.step (SX'.kd (G := G) S) (by omega) S.fr W.T ho (hR' _ _ (by omega) (by omega)))
      (st_ := P6.step (SX'.st (G := G) S) (by omega) S.fr W.T ho (hR' _ _ (by omega) (by omega)))
      (vl_ := P6.step (SX'.vl (G := G) S) (by omega) S.fr W.T ho (hR' _ _ (by omega) (by omega)))
      (pg_ := P6.step (SX'.pg (G := G) S) (by omega) S.fr W.T ho (hR' _ _ (by omega) (by omega))))
    (zo_ := I.zo)
    (zc_ := by
      have := I.zc
      unfold SzC at *
      simp only [i5, i6, i8, i10, i12, i14]
      exact this)
    (zk_ := by
      have := I.zk
      unfold SzK at *
      simp only [i5, i6, i8, i10, i12, i14]
      exact this)
    (zm_ := by
      have := I.zm
      unfold SzM at *
      simp only [mi 18 (by omega), mi 19 (by omega), mi 20 (by omega), mi 21 (by omega), mi 22 (by omega), mi 23 (by omega), mi 24 (by omega)]
      exact this)
    (kr_ := KR.cg (G := G) rfl rfl rfl rfl rfl rfl (I.kr.fr S (A 3 (by omega)) (Mag.mono fun k hk => by unfold kS at hk; omega)))
    (rm_ := by
      have K := I.rm
      have n1 := W.N G.kd (S.lt S.tkd (by omega))
      have n2 := W.N G.st (S.lt S.tst (by omega))
      have n3 := W.N G.vl (S.lt S.tvl (by omega))
      have n4 := W.N G.pg (S.lt S.tpg (by omega))
      have e25 := (ag 25 _ (by omega) S.o25 (by omega) (by omega)).2.2.2
      exact ⟨n2.trans (K.k1.trans n1.symm), n3.trans (K.k2.trans n1.symm), by show hN h' G.kd ≤ 1201; rw [n1]; exact K.k3, by show _ ≤ hN h' G.pg; rw [n4]; exact K.p1, by show _ ≤ hN h' G.pg; rw [n4]; exact K.p2, by show hN h' G.pg ≤ _; rw [n4]; exact K.p3, K.p4, K.p5, fun i hi => (e25 i).trans (K.kc i hi), fun i hi => ((Mag 9 (by omega)).2.2.2 i).trans (K.km i hi)⟩)
    (tp_ := TpR.cg (G := G) rfl (I.tp.fr (h := h) (u := u) (W.N _ (S.lt S.ttk (by omega))) ((ag 1 _ (by omega) S.o1 (by omega) (by omega)).1 1) (ag G.tk _ (S.lt S.ttk (by omega)) S.otk (by omega) (by omega)).2.2.1 (mi 2 (by omega)) (ma 1 (by omega))))
    (ou_ := by
      refine ⟨⟨l.length, hL4, ?_, W.bs.le.trans (by rw [Nat.zero_add]), M.le, ?_⟩, W.bs.bt, W.bs.nk, W.bs.ok⟩
      · rcases W.bs.lk with q | q
        · exact .inl (by show _ ≤ hN h' k'; omega)
        · exact .inr q
      · intro i hi h4
        show hA h' k' i = _ ∧ _
        rw [W.da i (by omega) h4, M.da i hi h4, if_neg (by omega), Nat.sub_zero]
        refine ⟨rfl, hnn _ ?_⟩
        rw [List.getD_eq_getElem?_getD, List.getElem?_eq_getElem hi]
        exact List.getElem_mem hi)
    (dy_ := by
      have := I.dy
      unfold DyR at *
      rw [i0, mi 72 (by omega)]
      exact this)
    (nu_ := I.nu.fr (h := h) (u := u) (ag 17 _ (by omega) S.o17 (by omega) (by omega)).2.2.1 (ma 26 (by omega)))
    (te_ := TeR.cg (G := G) rfl rfl (I.te.fr S (i0 1413) (A 4 (by omega)) (Mag.mono fun k hk => by unfold tS at hk; omega) (fun i _ => ma 28 (by omega) i)))
    (pl_ := by rw [i0, mi 17 (by omega)]; exact I.pl)
    (ju_ := by
      refine IvJ.cg (G := G) rfl rfl ?_
      have K := I.ju
      unfold IvJ at *
      simp only [mi 96 (by omega), mi 100 (by omega), mi 101 (by omega), mi 102 (by omega), mi 103 (by omega)]
      rcases K with K | ⟨J, k, js, a, b', c, K⟩
      · exact .inl K
      · have g2 := (ag (G.jd 2) _ (jd_lt J S 2 (by omega)) (S.jo J 2 (by omega)) (by omega) (by omega)).2.2.1
        have g17 := (ag (G.jd 17) _ (jd_lt J S 17 (by omega)) (S.jo J 17 (by omega)) (by omega) (by omega)).2.2.1
        have n15 := nj J 15 (by omega)
        have n16 := nj J 16 (by omega)
        have n17 := nj J 17 (by omega)
        refine .inr ⟨J, k, ⟨fun p hp => (g2 p).trans (js.wh p hp), by rw [n15, n16]; exact js.k1, by rw [n15, n17]; exact js.k2, by rw [n15]; exact js.k3, by rw [n15]; exact js.k4, fun i => by rw [g17]; exact js.bt i⟩, a, b', c, K.fr ((A 5 (by omega)).mono fun a p => jP_gr J S p) (Mag.mono fun k hk => by unfold jS at hk; omega) (fun i _ => ma 28 (by omega) i) (fun i _ => ma 42 (by omega) i)⟩)
theorem sp_text : SP_text Inv := by
  intro n c s h u ⟨G, z, I, B⟩
  have S := I.sx
  have zz := S.zz
  rcases I.ju with ⟨J, m0, _⟩ | ⟨J, m0, js', jp, jw, js, K⟩
  · refine ⟨h, -1, 0, 0, u, ?_, ?_, G, z, I, B.dn⟩
    · simp only [fX11_text, fX11_text_0, S.t0, S.t1, S.t3, S.t5, S.t6, S.t8, S.t10, S.t12, S.t14, S.t23, S.t24, S.t7, S.t9, S.t11, S.t13, S.t15, S.t16, S.t17, S.t18, S.t19, S.t20, S.t21, S.t25, S.t29, S.t30, S.t31, S.n7, S.n9, S.n11, S.n13, S.n15, S.n16, S.n17, S.n18, S.n19, S.n20, S.n21, S.n25, S.n29, S.n30, S.n31, S.r1408_0, S.r1409_0, S.r1410_0, S.r1411_0, S.r1412_0, S.r128_5, S.r129_5, S.r130_5, S.r131_5, S.r132_5, S.r133_5, S.r134_5, S.r135_5, S.r136_5, S.r137_5, S.r138_5, S.r512_23, S.r513_23, S.r514_23, S.r515_23, S.r896_6, S.r896_8, S.r896_10, S.r896_12, S.r896_14, S.r1280_24, S.r0_1, S.ttk, S.otk, S.r0_3, S.twk, S.owk, S.r141_5, S.tpg, S.opg, S.r1281_24, S.tkd, S.okd, S.r1282_24, S.tst, S.ost, S.r1283_24, S.tvl, S.ovl, S.o0, S.o1, S.o3, S.o31, S.o5, S.o6, S.o7, S.o8, S.o9, S.o10, S.o11, S.o12, S.o13, S.o14, S.o15, S.o16, S.o17, S.o18, S.o19, S.o20, S.o21, S.o23, S.o24, S.o25, S.o29, S.o30, oN_v, oC_v, oB_v, oB2_v, oB3_v, oB4_v, oK3_v, oK4_v, oL_v, if_true, if_false, and_false, false_and, and_true, true_and, and_self, decide_true, decide_false, reduceCtorEq, not_false_eq_true, not_true_eq_false, Nat.reduceEqDiff, Nat.reduceAdd, Nat.reduceMul, Nat.add_zero, Nat.zero_add, S.jN J]
    · simp only [fX12_text, fX12_text_0, m0, if_true]
  · have S0 : SX (sI h 1 3 0) G := S
    have bs : BS (sI h 1 3 0) 3 G.wk 0 := ⟨S.t3, S.r0_3, S.twk, by simp only [z_hI_sI, z_hL_sI, z_hR_sI, z_hA_sI, z_hB_sI, z_hC_sI, z_hT_sI, z_hN_sI, z_hZ_sI, z_hI_sL, z_hL_sL, z_hR_sL, z_hA_sL, z_hB_sL, z_hC_sL, z_hT_sL, z_hN_sL, z_hZ_sL, z_hI_sR, z_hL_sR, z_hR_sR, z_hA_sR, z_hB_sR, z_hC_sR, z_hT_sR, z_hN_sR, z_hZ_sR, z_hI_sA, z_hL_sA, z_hR_sA, z_hA_sA, z_hB_sA, z_hC_sA, z_hT_sA, z_hN_sA, z_hZ_sA, z_hI_sB, z_hL_sB, z_hR_sB, z_hA_sB, z_hB_sB, z_hC_sB, z_hT_sB, z_hN_sB, z_hZ_sB, z_hI_sC, z_hL_sC, z_hR_sC, z_hA_sC, z_hB_sC, z_hC_sC, z_hT_sC, z_hN_sC, z_hZ_sC, z_hI_sY, z_hL_sY, z_hR_sY, z_hA_sY, z_hB_sY, z_hC_sY, z_hT_sY, z_hN_sY, z_hZ_sY, z_hI_nO, z_hL_nO, z_hR_nO, z_hA_nO, z_hB_nO, z_hC_nO, z_hT_nO, z_hN_nO, z_hZ_nO, z_hI_nA, z_hL_nA, z_hR_nA, z_hA_nA, z_hB_nA, z_hC_nA, z_hT_nA, z_hN_nA, z_hZ_nA, if_true, if_false, and_false, false_and, and_true, true_and, and_self, decide_true, decide_false, reduceCtorEq, not_false_eq_true, not_true_eq_false, Nat.reduceEqDiff, Nat.reduceAdd, Nat.reduceMul, Nat.add_zero, Nat.zero_add]; rfl, I.ou.hn, I.ou.ok, .inl (Nat.zero_le _), I.ou.bt, S.fr⟩
    have M0 : MO (mSI u 113 0) (mSI u 113 0) [] := ⟨by simp only [z_mI_mSI, z_mL_mSI, z_mA_mSI, z_mB_mSI, z_mI_mSL, z_mL_mSL, z_mA_mSL, z_mB_mSL, z_mI_mSA, z_mL_mSA, z_mA_mSA, z_mB_mSA, z_mI_mSB, z_mL_mSB, z_mA_mSB, z_mB_mSB, if_true, if_false, and_false, false_and, and_true, true_and, and_self, decide_true, decide_false, reduceCtorEq, not_false_eq_true, not_true_eq_false, Nat.reduceEqDiff, Nat.reduceAdd, Nat.reduceMul, Nat.add_zero, Nat.zero_add]; rfl, fun i hi => absurd hi (by simp), MAg.refl _⟩
    have lk := S.lt S.twk (by omega)
    have b : WB (sI h 1 3 0) G.wk := ⟨ne_ow S.o3 S.owk (by omega), by show 3 < hZ h; omega, lk⟩
    obtain ⟨c1, c2, c3, c4, c5, c6, c7⟩ := I.zc
    have A : NA (sI h 1 3 0) (mSI u 113 0) z := ⟨I.zo, I.kr.pn, I.kr.wn, I.kr.pl, I.kr.sn, I.kr.rn, by simp only [z_hI_sI, z_hL_sI, z_hR_sI, z_hA_sI, z_hB_sI, z_hC_sI, z_hT_sI, z_hN_sI, z_hZ_sI, z_hI_sL, z_hL_sL, z_hR_sL, z_hA_sL, z_hB_sL, z_hC_sL, z_hT_sL, z_hN_sL, z_hZ_sL, z_hI_sR, z_hL_sR, z_hR_sR, z_hA_sR, z_hB_sR, z_hC_sR, z_hT_sR, z_hN_sR, z_hZ_sR, z_hI_sA, z_hL_sA, z_hR_sA, z_hA_sA, z_hB_sA, z_hC_sA, z_hT_sA, z_hN_sA, z_hZ_sA, z_hI_sB, z_hL_sB, z_hR_sB, z_hA_sB, z_hB_sB, z_hC_sB, z_hT_sB, z_hN_sB, z_hZ_sB, z_hI_sC, z_hL_sC, z_hR_sC, z_hA_sC, z_hB_sC, z_hC_sC, z_hT_sC, z_hN_sC, z_hZ_sC, z_hI_sY, z_hL_sY, z_hR_sY, z_hA_sY, z_hB_sY, z_hC_sY, z_hT_sY, z_hN_sY, z_hZ_sY, z_hI_nO, z_hL_nO, z_hR_nO, z_hA_nO, z_hB_nO, z_hC_nO, z_hT_nO, z_hN_nO, z_hZ_nO, z_hI_nA, z_hL_nA, z_hR_nA, z_hA_nA, z_hB_nA, z_hC_nA, z_hT_nA, z_hN_nA, z_hZ_nA, if_true, if_false, and_false, false_and, and_true, true_and, and_self, decide_true, decide_false, reduceCtorEq, not_false_eq_true, not_true_eq_false, Nat.reduceEqDiff, Nat.reduceAdd, Nat.reduceMul, Nat.add_zero, Nat.zero_add]; exact c1, by simp only [z_hI_sI, z_hL_sI, z_hR_sI, z_hA_sI, z_hB_sI, z_hC_sI, z_hT_sI, z_hN_sI, z_hZ_sI, z_hI_sL, z_hL_sL, z_hR_sL, z_hA_sL, z_hB_sL, z_hC_sL, z_hT_sL, z_hN_sL, z_hZ_sL, z_hI_sR, z_hL_sR, z_hR_sR, z_hA_sR, z_hB_sR, z_hC_sR, z_hT_sR, z_hN_sR, z_hZ_sR, z_hI_sA, z_hL_sA, z_hR_sA, z_hA_sA, z_hB_sA, z_hC_sA, z_hT_sA, z_hN_sA, z_hZ_sA, z_hI_sB, z_hL_sB, z_hR_sB, z_hA_sB, z_hB_sB, z_hC_sB, z_hT_sB, z_hN_sB, z_hZ_sB, z_hI_sC, z_hL_sC, z_hR_sC, z_hA_sC, z_hB_sC, z_hC_sC, z_hT_sC, z_hN_sC, z_hZ_sC, z_hI_sY, z_hL_sY, z_hR_sY, z_hA_sY, z_hB_sY, z_hC_sY, z_hT_sY, z_hN_sY, z_hZ_sY, z_hI_nO, z_hL_nO, z_hR_nO, z_hA_nO, z_hB_nO, z_hC_nO, z_hT_nO, z_hN_nO, z_hZ_nO, z_hI_nA, z_hL_nA, z_hR_nA, z_hA_nA, z_hB_nA, z_hC_nA, z_hT_nA, z_hN_nA, z_hZ_nA, if_true, if_false, and_false, false_and, and_true, true_and, and_self, decide_true, decide_false, reduceCtorEq, not_false_eq_true, not_true_eq_false, Nat.reduceEqDiff, Nat.reduceAdd, Nat.reduceMul, Nat.add_zero, Nat.zero_add]; exact c2, by simp only [z_hI_sI, z_hL_sI, z_hR_sI, z_hA_sI, z_hB_sI, z_hC_sI, z_hT_sI, z_hN_sI, z_hZ_sI, z_hI_sL, z_hL_sL, z_hR_sL, z_hA_sL, z_hB_sL, z_hC_sL, z_hT_sL, z_hN_sL, z_hZ_sL, z_hI_sR, z_hL_sR, z_hR_sR, z_hA_sR, z_hB_sR, z_hC_sR, z_hT_sR, z_hN_sR, z_hZ_sR, z_hI_sA, z_hL_sA, z_hR_sA, z_hA_sA, z_hB_sA, z_hC_sA, z_hT_sA, z_hN_sA, z_hZ_sA, z_hI_sB, z_hL_sB, z_hR_sB, z_hA_sB, z_hB_sB, z_hC_sB, z_hT_sB, z_hN_sB, z_hZ_sB, z_hI_sC, z_hL_sC, z_hR_sC, z_hA_sC, z_hB_sC, z_hC_sC, z_hT_sC, z_hN_sC, z_hZ_sC, z_hI_sY, z_hL_sY, z_hR_sY, z_hA_sY, z_hB_sY, z_hC_sY, z_hT_sY, z_hN_sY, z_hZ_sY, z_hI_nO, z_hL_nO, z_hR_nO, z_hA_nO, z_hB_nO, z_hC_nO, z_hT_nO, z_hN_nO, z_hZ_nO, z_hI_nA, z_hL_nA, z_hR_nA, z_hA_nA, z_hB_nA, z_hC_nA, z_hT_nA, z_hN_nA, z_hZ_nA, if_true, if_false, and_false, false_and, and_true, true_and, and_self, decide_true, decide_false, reduceCtorEq, not_false_eq_true, not_true_eq_false, Nat.reduceEqDiff, Nat.reduceAdd, Nat.reduceMul, Nat.add_zero, Nat.zero_add]; exact c3, by simp only [z_hI_sI, z_hL_sI, z_hR_sI, z_hA_sI, z_hB_sI, z_hC_sI, z_hT_sI, z_hN_sI, z_hZ_sI, z_hI_sL, z_hL_sL, z_hR_sL, z_hA_sL, z_hB_sL, z_hC_sL, z_hT_sL, z_hN_sL, z_hZ_sL, z_hI_sR, z_hL_sR, z_hR_sR, z_hA_sR, z_hB_sR, z_hC_sR, z_hT_sR, z_hN_sR, z_hZ_sR, z_hI_sA, z_hL_sA, z_hR_sA, z_hA_sA, z_hB_sA, z_hC_sA, z_hT_sA, z_hN_sA, z_hZ_sA, z_hI_sB, z_hL_sB, z_hR_sB, z_hA_sB, z_hB_sB, z_hC_sB, z_hT_sB, z_hN_sB, z_hZ_sB, z_hI_sC, z_hL_sC, z_hR_sC, z_hA_sC, z_hB_sC, z_hC_sC, z_hT_sC, z_hN_sC, z_hZ_sC, z_hI_sY, z_hL_sY, z_hR_sY, z_hA_sY, z_hB_sY, z_hC_sY, z_hT_sY, z_hN_sY, z_hZ_sY, z_hI_nO, z_hL_nO, z_hR_nO, z_hA_nO, z_hB_nO, z_hC_nO, z_hT_nO, z_hN_nO, z_hZ_nO, z_hI_nA, z_hL_nA, z_hR_nA, z_hA_nA, z_hB_nA, z_hC_nA, z_hT_nA, z_hN_nA, z_hZ_nA, if_true, if_false, and_false, false_and, and_true, true_and, and_self, decide_true, decide_false, reduceCtorEq, not_false_eq_true, not_true_eq_false, Nat.reduceEqDiff, Nat.reduceAdd, Nat.reduceMul, Nat.add_zero, Nat.zero_add]; exact c5⟩
    have K0 : MK (sI h 1 3 0) (mSI u 113 0) G z jp jw js := by
      refine ⟨K.lp, K.lw, K.ls, by simp only [z_mI_mSI, z_mL_mSI, z_mA_mSI, z_mB_mSI, z_mI_mSL, z_mL_mSL, z_mA_mSL, z_mB_mSL, z_mI_mSA, z_mL_mSA, z_mA_mSA, z_mB_mSA, z_mI_mSB, z_mL_mSB, z_mA_mSB, z_mB_mSB, if_true, if_false, and_false, false_and, and_true, true_and, and_self, decide_true, decide_false, reduceCtorEq, not_false_eq_true, not_true_eq_false, Nat.reduceEqDiff, Nat.reduceAdd, Nat.reduceMul, Nat.add_zero, Nat.zero_add]; exact K.p2, by simp only [z_mI_mSI, z_mL_mSI, z_mA_mSI, z_mB_mSI, z_mI_mSL, z_mL_mSL, z_mA_mSL, z_mB_mSL, z_mI_mSA, z_mL_mSA, z_mA_mSA, z_mB_mSA, z_mI_mSB, z_mL_mSB, z_mA_mSB, z_mB_mSB, if_true, if_false, and_false, false_and, and_true, true_and, and_self, decide_true, decide_false, reduceCtorEq, not_false_eq_true, not_true_eq_false, Nat.reduceEqDiff, Nat.reduceAdd, Nat.reduceMul, Nat.add_zero, Nat.zero_add]; exact K.w2, by simp only [z_mI_mSI, z_mL_mSI, z_mA_mSI, z_mB_mSI, z_mI_mSL, z_mL_mSL, z_mA_mSL, z_mB_mSL, z_mI_mSA, z_mL_mSA, z_mA_mSA, z_mB_mSA, z_mI_mSB, z_mL_mSB, z_mA_mSB, z_mB_mSB, if_true, if_false, and_false, false_and, and_true, true_and, and_self, decide_true, decide_false, reduceCtorEq, not_false_eq_true, not_true_eq_false, Nat.reduceEqDiff, Nat.reduceAdd, Nat.reduceMul, Nat.add_zero, Nat.zero_add]; exact K.s2, fun p hp Y => (K.mr p hp Y).1, K.nm, ?_, K.su, K.sz⟩
      intro p hp Y m1
      have m1' : mA u 104 p = 1 := m1
      rcases K.rs p hp Y with ⟨r1, r2, r3, _⟩ | ⟨r1, r2, _⟩ | ⟨r, c, r1, r2, r3, _, _, r4, r5, _⟩
      · exact .inl ⟨r1, r3⟩
      · exact absurd m1' r2
      · exact .inr ⟨r, c, r1, r2, r3, r4, r5⟩
    have lw := K.lw
    have o2 := I.zo.2.1
    obtain ⟨h', u', k', l, i, j, q1, q2, q3, q4, q5, q6⟩ := To.lits S0 J A K0 b (50 * jw) 0 (FU - 601) (FU - (50 * jw + 1)) (by omega) (BW.nil bs) M0 (by rw [List.length_nil]; omega)
    rw [show FU - 601 + (600 - 0) + 1 = FU from FU_s (k := 600) (by omega)] at q1
    rw [FU_s (show 50 * jw ≤ 1000 by omega)] at q2
    rw [List.nil_append] at q1 q2 q3 q4
    rw [Nat.zero_add, Nat.zero_add] at q3
    refine ⟨h', nI l.length, i, j, u', ?_, ?_, _, z, I.text (by omega) q5 q3 q4, ?_⟩
    · simp only [fX11_text, fX11_text_0, S.t0, S.t1, S.t3, S.t5, S.t6, S.t8, S.t10, S.t12, S.t14, S.t23, S.t24, S.t7, S.t9, S.t11, S.t13, S.t15, S.t16, S.t17, S.t18, S.t19, S.t20, S.t21, S.t25, S.t29, S.t30, S.t31, S.n7, S.n9, S.n11, S.n13, S.n15, S.n16, S.n17, S.n18, S.n19, S.n20, S.n21, S.n25, S.n29, S.n30, S.n31, S.r1408_0, S.r1409_0, S.r1410_0, S.r1411_0, S.r1412_0, S.r128_5, S.r129_5, S.r130_5, S.r131_5, S.r132_5, S.r133_5, S.r134_5, S.r135_5, S.r136_5, S.r137_5, S.r138_5, S.r512_23, S.r513_23, S.r514_23, S.r515_23, S.r896_6, S.r896_8, S.r896_10, S.r896_12, S.r896_14, S.r1280_24, S.r0_1, S.ttk, S.otk, S.r0_3, S.twk, S.owk, S.r141_5, S.tpg, S.opg, S.r1281_24, S.tkd, S.okd, S.r1282_24, S.tst, S.ost, S.r1283_24, S.tvl, S.ovl, S.o0, S.o1, S.o3, S.o31, S.o5, S.o6, S.o7, S.o8, S.o9, S.o10, S.o11, S.o12, S.o13, S.o14, S.o15, S.o16, S.o17, S.o18, S.o19, S.o20, S.o21, S.o23, S.o24, S.o25, S.o29, S.o30, oN_v, oC_v, oB_v, oB2_v, oB3_v, oB4_v, oK3_v, oK4_v, oL_v, if_true, if_false, and_false, false_and, and_true, true_and, and_self, decide_true, decide_false, reduceCtorEq, not_false_eq_true, not_true_eq_false, Nat.reduceEqDiff, Nat.reduceAdd, Nat.reduceMul, Nat.add_zero, Nat.zero_add, S.jY J]
      exact q1
    · simp only [fX12_text, fX12_text_0, m0, show ¬ ((1 : Int32) = 0) by decide, if_false, oL_v]
      exact q2
    · have c1 := q3.c1
      have c2 := q3.c2
      have nt : hN h' G.tk = hN h G.tk := q3.N G.tk (S.lt S.ttk (by omega))
      have np : hN h' G.pg = hN h G.pg := q3.N G.pg (S.lt S.tpg (by omega))
      have nj : hN h' (G.jd 15) = hN h (G.jd 15) := q3.N _ (jd_lt J S 15 (by omega))
      have e0 : hN (sI h 1 3 0) G.wk = hN h G.wk := rfl
      rw [e0] at c1 c2
      unfold Bud pot at *
      have B1 := B.1
      have B2 := B.2
      show _ ≤ _ + (hN h' G.tk + hN h' k' + hN h' G.pg + if G.jj then 3 * hN h' (G.jd 15) else 0) ∧ _ ≤ _ + 3 * (hN h' G.tk + hN h' k' + hN h' G.pg + if G.jj then 3 * hN h' (G.jd 15) else 0)
      rw [nt, np, nj]
      generalize (if G.jj then 3 * hN h (G.jd 15) else 0) = q at *
      omega
