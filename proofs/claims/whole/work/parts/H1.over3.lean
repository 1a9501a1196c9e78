def Sz.w0 (c : Sz) : Sz := Sz.mk c.np c.nw c.ns c.nl c.nr 0 c.pc c.rc
theorem fmn_s (a : Option (Nat × Int32)) (p : Nat) (f : Int32) : fmn a p f ≠ none := by
  cases a with
  | none => exact fun q => by cases q
  | some x =>
    obtain ⟨q, g⟩ := x
    show (if p < q ∨ (p = q ∧ f < g) then some (p, f) else some (q, g)) ≠ none
    split <;> simp
theorem cat_n {fl : Option (Nat × Int32)} {p k : Nat} (h : cat fl p k = none) : fl = none ∧ k ≠ 0 ∧ k ≠ 1 := by
  unfold cat at h
  by_cases k0 : k = 0
  · rw [if_pos k0] at h; exact absurd h (fmn_s _ _ _)
  · rw [if_neg k0] at h
    by_cases k1 : k = 1
    · rw [if_pos k1] at h; exact absurd h (fmn_s _ _ _)
    · rw [if_neg k1] at h; exact ⟨h, k0, k1⟩
theorem MF.z {u : MS} {a : Option (Nat × Int32)} (M : MF u a) (e : mI u 15 = 0) : a = none := by
  cases a with
  | none => rfl
  | some x =>
    obtain ⟨q, g⟩ := x
    have M' : mI u 15 = g ∧ g ≠ 0 ∧ mI u 16 = nI q ∧ q ≤ 4000 := M
    exact absurd (M'.1.symm.trans e) M'.2.1
theorem CF.fr {h h' : PH} {a : Option (Nat × Int32)} (C : CF h a) (e : ∀ f, hI h' f 23 = hI h f 23) : CF h' a := by
  unfold CF at *
  cases a with
  | none => exact ⟨(e _).trans C.1, (e _).trans C.2⟩
  | some x => exact ⟨(e _).trans C.1, C.2.1, (e _).trans C.2.2.1, C.2.2.2⟩
theorem MF.fr {u u' : MS} {a : Option (Nat × Int32)} (M : MF u a) (e : mI u' = mI u) : MF u' a := by
  unfold MF at *
  rw [e]
  exact M
theorem fmn_le {a : Option (Nat × Int32)} {p : Nat} {f : Int32} {u u' : MS} (M : MF u a) (M' : MF u' (fmn a p f)) : FM u u' := by
  rintro q ⟨h1, p0, h2, h3, h4⟩
  cases a with
  | none => exact absurd M h1
  | some x =>
    obtain ⟨r, g⟩ := x
    have M0 : mI u 15 = g ∧ g ≠ 0 ∧ mI u 16 = nI r ∧ r ≤ 4000 := M
    have er : r = p0 := (nI_eq (by omega) (by omega)).mp (M0.2.2.1.symm.trans h4)
    have M1 : MF u' (if p < r ∨ (p = r ∧ f < g) then some (p, f) else some (r, g)) := M'
    by_cases c : p < r ∨ (p = r ∧ f < g)
    · rw [if_pos c] at M1
      have M2 : mI u' 15 = f ∧ f ≠ 0 ∧ mI u' 16 = nI p ∧ p ≤ 4000 := M1
      exact ⟨by rw [M2.1]; exact M2.2.1, p, by omega, M2.2.2.2, M2.2.2.1⟩
    · rw [if_neg c] at M1
      have M2 : mI u' 15 = g ∧ g ≠ 0 ∧ mI u' 16 = nI r ∧ r ≤ 4000 := M1
      exact ⟨by rw [M2.1]; exact M2.2.1, r, by omega, M2.2.2.2, M2.2.2.1⟩
theorem same_fm {a : Option (Nat × Int32)} {u u' : MS} (M : MF u a) (M' : MF u' a) : FM u u' := by
  rintro q ⟨h1, p0, h2, h3, h4⟩
  cases a with
  | none => exact absurd M h1
  | some x =>
    obtain ⟨r, g⟩ := x
    have M0 : mI u 15 = g ∧ g ≠ 0 ∧ mI u 16 = nI r ∧ r ≤ 4000 := M
    have M2 : mI u' 15 = g ∧ g ≠ 0 ∧ mI u' 16 = nI r ∧ r ≤ 4000 := M'
    have er : r = p0 := (nI_eq (by omega) (by omega)).mp (M0.2.2.1.symm.trans h4)
    exact ⟨by rw [M2.1]; exact M2.2.1, r, by omega, M2.2.2.2, M2.2.2.1⟩
section OV3
variable {h h' : PH} {u u' : MS} {G : Gh} {z c : Sz} {L n t j : Nat} {D : Nat → Nat × Nat × Nat × List Nat} {a : Option (Nat × Int32)}
theorem CT.w0 (C : CT h u G c D t) : CT h u G c.w0 D t := CT.mk C.pn C.wn C.sn C.ln C.rn C.rG C.kd C.pl C.lw C.ru
theorem CT.w1 (C : CT h u G c.w0 D t) : CT h u G c D t := CT.mk C.pn C.wn C.sn C.ln C.rn C.rG C.kd C.pl C.lw C.ru
theorem OS.ro (X : OS h u G z c L n D t j) : RO h u 14 15 38 c.nr 30 := ⟨X.i.sx.t14, X.i.sx.r896_14, X.i.sx.t15, X.i.sx.n15, X.zc.2.2.2.2.1, X.ok.2.2.2.2.1, by decide, by decide, by omega, X.ct.rn, by omega⟩
theorem OS.rk (X : OS h u G z c L n D t j) (x : Int64) : ∃ k, k ≤ 2 ∧ RKd h u G c (fd (fun j => decide (hB h 15 j = x)) c.nr 0) k ∧ (fd (fun j => decide (hB h 15 j = x)) c.nr 0 = -1 ↔ k = 0) := by
  have c30 := X.ok.2.2.2.2.1
  rcases fd_r (fun j => decide (hB h 15 j = x)) c.nr 0 with q | ⟨i, _, i2, q, _⟩
  · exact ⟨0, by omega, .inl ⟨rfl, q⟩, by rw [q]; simp⟩
  · obtain ⟨y, y1, y2, y3⟩ := X.ct.kd i (by omega)
    refine ⟨if y = 2 then 1 else 2, by split <;> omega, .inr ⟨i, by omega, q, y, y1, y2, y3, rfl⟩, ?_⟩
    rw [q]
    constructor
    · intro e; exact absurd e (nI_m1 (by omega))
    · intro e; split at e <;> omega
/-- an over resolved by both -/
theorem OS.step (X : OS h u G z c L n D t j) (hj : j < c.no - z.no) : ∃ h' u' k, hA h 30 j = nI k ∧ fX4_resolveOver h 23 (nI k) = some h' ∧ fX12_joins u (nI (2 * j)) = some u' ∧ OS h' u' G z c L n D t (j + 1) ∧ hN h' = hN h := by
  have S := X.i.sx
  have T := X.i.ts
  have n2 := T.n2
  have lL := X.i.lL
  have rG := X.ct.rG
  have c30 := X.ok.2.2.2.2.1
  have no20 := X.ok.2.2.2.2.2
  obtain ⟨k, kn, k1, k2, e30, e64, e64'⟩ := X.ot j hj
  obtain ⟨pa, epa⟩ : ∃ p, (D k).1 = p := ⟨_, rfl⟩
  obtain ⟨pb, epb⟩ : ∃ p, (D (k + 1)).1 = p := ⟨_, rfl⟩
  have pab : pa < pb := by rw [← epa, ← epb]; exact T.mo k (k + 1) (by omega) kn
  have pb4 : pb ≤ 4000 := by rw [← epb]; have := T.pl (k + 1) kn; omega
  obtain ⟨ra, era⟩ : ∃ r, fd (fun j => decide (hB h 15 j = vD (D k))) c.nr 0 = r := ⟨_, rfl⟩
  obtain ⟨rb, erb⟩ : ∃ r, fd (fun j => decide (hB h 15 j = vD (D (k + 1)))) c.nr 0 = r := ⟨_, rfl⟩
  obtain ⟨ka, ka2, Ka, ea⟩ := X.rk (vD (D k))
  obtain ⟨kb, kb2, Kb, eb⟩ := X.rk (vD (D (k + 1)))
  have fca := X.ro.fc (vD (D k))
  have fcb := X.ro.fc (vD (D (k + 1)))
  rw [era] at Ka ea fca
  rw [erb] at Kb eb fcb
  have eab : ra = rb → ka = kb := fun q => by subst q; exact Ka.eq Kb c30
  obtain ⟨fl, C0, M0⟩ := X.F.ex
  have s14 := X.zc.2.2.2.2.1
  -- the class
  obtain ⟨h1, e1, C1, Q1, g1⟩ := noteR S s14 rG C0 Ka (p := pa) (by omega)
  have S1 := Q1.sx S
  have I1 := X.i.q Q1 (W'.refl u)
  obtain ⟨h2, e2, C2, Q2, g2⟩ := noteR S1 ((Q1.I _ _ (by omega)).trans s14) rG C1 (Kb.q S rG Q1 (W'.refl u)) (p := pb) (by omega)
  have S2 := Q2.sx S1
  have I2 := I1.q Q2 (W'.refl u)
  obtain ⟨h3, e3, C3, Q3, g3⟩ : ∃ h3, fX4_resolveOver h 23 (nI k) = fX4_resolveOver_93 h3 23 ra rb ∧ CF h3 (if ra = rb ∧ ra ≠ -1 then fmn (cat (cat fl pa ka) pb kb) pb 5 else cat (cat fl pa ka) pb kb) ∧ Q h2 h3 ∧ ∀ g, g < 526 → hI h3 g 23 = hI h2 g 23 := by
    have va := valueAt_v X.i (k := k) (by omega)
    have vb := valueAt_v X.i (k := k + 1) kn
    have sa := startAt_v X.i (k := k) (by omega)
    have sb1 := startAt_v I1 (k := k + 1) kn
    have sb2 := startAt_v I2 (k := k + 1) kn
    rw [epa] at sa
    rw [epb] at sb1 sb2
    have hd : fX4_resolveOver h 23 (nI k) = if ra = rb then (if ra = (-1) then (fX4_resolveOver_93 h2 23 ra rb) else (oB (fX4_note h2 23 5 (nI pb)) (fun h40 => fX4_resolveOver_93 h40 23 ra rb))) else (fX4_resolveOver_93 h2 23 ra rb) := by
      unfold fX4_resolveOver fX4_resolveOver_0
      rw [oC_d S.t23, S.r512_23, oN_v, oC_d S.t5, S.r513_23, oN_v, oC_d S.t24, va, oB_v, S.r132_5, oN_v, oC_d S.t14, fca, oB_v, nI_1, vb, oB_v, fcb, oB_v, sa, oB_v, e1, oB_v, oC_d S1.t23, S1.r513_23, oN_v, oC_d S1.t24, sb1, oB_v, e2, oB_v, oC_d S2.t23, S2.r513_23, oN_v, oC_d S2.t24, sb2, oB_v]
    by_cases q : ra = rb
    · rw [if_pos q] at hd
      by_cases q1 : ra = -1
      · rw [if_pos q1] at hd
        rw [if_neg (fun x => x.2 q1)]
        exact ⟨h2, hd, C2, Q.refl h2, fun _ _ => rfl⟩
      · rw [if_neg q1] at hd
        rw [if_pos ⟨q, q1⟩]
        obtain ⟨h3, f1, f2, f3, f4⟩ := noteC S2 C2 (p := pb) (by omega) (f := 5) (by decide)
        exact ⟨h3, by rw [hd, f1, oB_v], f2, f3, f4⟩
    · rw [if_neg q] at hd
      rw [if_neg (fun x => q x.1)]
      exact ⟨h2, hd, C2, Q.refl h2, fun _ _ => rfl⟩
  have QQ : Q h h3 := (Q1.trans Q2).trans Q3
  have S3 := QQ.sx S
  have gg : ∀ g, g < 526 → hI h3 g 23 = hI h g 23 := fun g hg => (g3 g hg).trans ((g2 g hg).trans (g1 g hg))
  have o93 : hI h3 139 5 = nI (z.no + j) := (QQ.I _ _ (by omega)).trans X.o9
  have e4 : fX4_resolveOver h 23 (nI k) = some (sI (sA (sA h3 20 (z.no + j) ra) 21 (z.no + j) rb) 139 5 (nI (z.no + j + 1))) := by
    rw [e3]
    unfold fX4_resolveOver_93
    rw [oC_d S3.t23, S3.r512_23, oN_v, oC_d S3.t5, addOver_v S3 o93 (by omega), oB_v]
  -- the reference
  have pl1 : mA u 6 k = nI pa := by rw [← epa]; exact (T.tk k (by omega)).2.2.2.2.1
  have pl2 : mA u 6 (k + 1) = nI pb := by rw [← epb]; exact (T.tk (k + 1) kn).2.2.2.2.1
  have fma : fX12_find u 38 (nI c.nr) (mB u 8 k) = some ra := by
    rw [X.ro.fm, ← era]
    exact congrArg some (find_e X.ro.nm (T.name (by omega) k1)).symm
  have fmb : fX12_find u 38 (nI c.nr) (mB u 8 (k + 1)) = some rb := by
    rw [X.ro.fm, ← erb]
    exact congrArg some (find_e X.ro.nm (T.name kn k2)).symm
  obtain ⟨u1, d1, M1, W1, f1⟩ := knownM M0 X.f0 fma (by omega) (show pa ≤ 4000 by omega) pl1
  have fmb1 : fX12_find u1 38 (nI c.nr) (mB u1 8 (k + 1)) = some rb := by
    have := (X.ro.q (Q.refl h) W1).fm (mB u1 8 (k + 1))
    rw [this, W1.B, ← X.ro.fm]
    exact fmb
  obtain ⟨u2, d2, M2, W2, f2⟩ := knownM M1 f1 fmb1 (by omega) pb4 (by rw [W1.A]; exact pl2)
  have m22 : mI u 22 = nI c.nr := X.zm.2.2.2.2.1
  have m221 : mI u1 22 = nI c.nr := (W1.I 22 (by omega)).trans m22
  have i64 : ∀ i, i < 44 → ix (nI i) (mlen 64) = true := fun i hi => ix_n (show i < mlen 64 from hi) (by decide)
  have cl2 : (nI (2 * j)).toNatClampNeg = 2 * j := nI_clamp (show 2 * j < 2147483648 by omega)
  have cl3 : (nI (2 * j + 1)).toNatClampNeg = 2 * j + 1 := nI_clamp (show 2 * j + 1 < 2147483648 by omega)
  have W12 := W1.trans W2
  have kind : ∀ {r : Int32} {q : Nat} {uu : MS}, RKd h u G c r q → W' u uu → r ≠ -1 → ix r (mlen 40) = true ∧ (mA uu 40 r.toNatClampNeg = 2 ↔ q = 1) := fun {r q uu} K W hr => by
    rcases K with ⟨_, r1⟩ | ⟨i, i1, i2, y, y1, y2, y3, y4⟩
    · exact absurd r1 hr
    · rw [i2, nI_clamp (show i < 2147483648 by omega), W.A, y3]
      refine ⟨ix_n (show i < mlen 40 by show i < 30; omega) (by decide), ?_⟩
      have e2 : nI y = 2 ↔ y = 2 := nI_eq (b := 2) (by omega) (by omega)
      rw [e2, y4]
      split <;> omega
  obtain ⟨u3, d3, M3, W3, f3⟩ : ∃ u3, fX12_joins u (nI (2 * j)) = fX12_joins_66 u3 (nI (2 * j)) ra rb ∧ MF u3 (if ka = 1 then fmn (if rb = -1 then fmn (if ra = -1 then fmn fl pa 4 else fl) pb 4 else (if ra = -1 then fmn fl pa 4 else fl)) pa 5 else (if rb = -1 then fmn (if ra = -1 then fmn fl pa 4 else fl) pb 4 else (if ra = -1 then fmn fl pa 4 else fl))) ∧ W' u2 u3 ∧ mI u3 13 = 0 := by
    have hd : fX12_joins u (nI (2 * j)) = if ra = (-1) then (fX12_joins_66 u2 (nI (2 * j)) ra rb) else (oC (ix ra (mlen 40)) (if (mA u2 40 (Int32.toNatClampNeg ra)) = 2 then (oB (fX12_wrong u2 5 (nI k)) (fun h26 => fX12_joins_66 h26 (nI (2 * j)) ra rb)) else (fX12_joins_66 u2 (nI (2 * j)) ra rb))) := by
      have q1 : mA u1 64 (2 * j + 1) = nI (k + 1) := by rw [W1.A]; exact e64'
      have q2 : mA u2 64 (2 * j) = nI k := by rw [W12.A]; exact e64
      unfold fX12_joins fX12_joins_0
      rw [oC_t (i64 _ (by omega)), cl2, e64, m22, d1, oB2_v, nI_1, oC_t (i64 _ (by omega)), cl3, q1, m221, d2, oB2_v, oC_t (i64 _ (by omega)), q2]
    by_cases q : ra = -1
    · have k0 := ea.mp q
      rw [if_pos q] at hd
      refine ⟨u2, hd, ?_, W'.refl u2, f2⟩
      rw [if_neg (show ¬ ka = 1 by omega)]
      exact M2
    · obtain ⟨x1, x2⟩ := kind Ka W12 q
      rw [if_neg q, oC_t x1] at hd
      by_cases q2 : ka = 1
      · rw [if_pos (x2.mpr q2)] at hd
        obtain ⟨u3, y1, y2, y3, y4⟩ := wrongM M2 f2 (i := k) (p := pa) (by omega) (by omega) (by rw [W12.A]; exact pl1) (f := 5) (by decide)
        refine ⟨u3, by rw [hd, y1, oB_v], ?_, y3, y4⟩
        rw [if_pos q2]
        exact y2
      · rw [if_neg (fun x => q2 (x2.mp x))] at hd
        refine ⟨u2, hd, ?_, W'.refl u2, f2⟩
        rw [if_neg q2]
        exact M2
  have W13 := W12.trans W3
  obtain ⟨u4, d4, M4, W4, f4⟩ : ∃ u4, fX12_joins u (nI (2 * j)) = fX12_joins_99 u4 (nI (2 * j)) ra rb ∧ MF u4 (if ra = rb ∧ ra ≠ -1 then fmn (cat (cat fl pa ka) pb kb) pb 5 else cat (cat fl pa ka) pb kb) ∧ W' u3 u4 ∧ mI u4 13 = 0 := by
    rw [cats pab ka2 kb2 ea eb eab, d3]
    have q1 : mA u3 64 (2 * j + 1) = nI (k + 1) := by rw [W13.A]; exact e64'
    have h86 : ∃ u4, fX12_joins_86 u3 (nI (2 * j)) ra rb = fX12_joins_99 u4 (nI (2 * j)) ra rb ∧ MF u4 (fmn (if ka = 1 then fmn (if rb = -1 then fmn (if ra = -1 then fmn fl pa 4 else fl) pb 4 else (if ra = -1 then fmn fl pa 4 else fl)) pa 5 else (if rb = -1 then fmn (if ra = -1 then fmn fl pa 4 else fl) pb 4 else (if ra = -1 then fmn fl pa 4 else fl))) pb 5) ∧ W' u3 u4 ∧ mI u4 13 = 0 := by
      obtain ⟨u4, y1, y2, y3, y4⟩ := wrongM M3 f3 (i := k + 1) (p := pb) (by omega) (by omega) (by rw [W13.A]; exact pl2) (f := 5) (by decide)
      refine ⟨u4, ?_, y2, y3, y4⟩
      unfold fX12_joins_86
      rw [nI_1, oC_t (i64 _ (by omega)), cl3, q1, y1, oB_v]
    unfold fX12_joins_66
    by_cases q : rb = -1
    · rw [if_pos q, if_neg (fun x => x.1 q)]
      exact ⟨u3, rfl, M3, W'.refl u3, f3⟩
    · obtain ⟨x1, x2⟩ := kind Kb W13 q
      rw [if_neg q, oC_t x1]
      by_cases q2 : kb = 1
      · rw [if_pos (x2.mpr q2), if_pos ⟨q, .inl q2⟩]
        exact h86
      · rw [if_neg (fun x => q2 (x2.mp x))]
        by_cases q3 : rb = ra
        · rw [if_pos q3, if_pos ⟨q, .inr q3⟩]
          exact h86
        · rw [if_neg q3, if_neg (fun x => by rcases x.2 with y | y; exact q2 y; exact q3 y)]
          exact ⟨u3, rfl, M3, W'.refl u3, f3⟩
  have WW : W' u u4 := W13.trans W4
  have e5 : fX12_joins u (nI (2 * j)) = some (mSA (mSA u4 36 (z.no + j) ra) 37 (z.no + j) rb) := by
    have a1 : mI u4 23 = nI c.no := (WW.I 23 (by omega)).trans X.zm.2.2.2.2.2.1
    have a2 : mI u4 63 = nI (2 * (c.no - z.no)) := (WW.I 63 (by omega)).trans X.o2
    have le := X.le.2.2.2.2.2.1
    have a3 : nI c.no - nI (2 * (c.no - z.no)) / 2 + nI (2 * j) / 2 = nI (z.no + j) := by
      rw [show (2 : Int32) = nI 2 from rfl, nI_div (by omega) (by omega), nI_div (by omega) (by omega), nI_sub (by omega), nI_add]
      congr 1
      omega
    have i36 : ix (nI (z.no + j)) (mlen 36) = true := ix_n (show z.no + j < mlen 36 by show z.no + j < 20; omega) (by decide)
    have i37 : ix (nI (z.no + j)) (mlen 37) = true := ix_n (show z.no + j < mlen 37 by show z.no + j < 20; omega) (by decide)
    rw [d4]
    unfold fX12_joins_99
    rw [a1, a2, a3, oL_v, oC_t i36, oL_v, oC_t i37, oL_v, nI_clamp (show z.no + j < 2147483648 by omega)]
  -- behind it
  have o20 : G.ow 20 / 100000 = 3 := by rw [S.o20]
  have o21 : G.ow 21 / 100000 = 3 := by rw [S.o21]
  have CC : ∀ zz : Sz, zz.nr ≤ G.nr → zz.no ≤ z.no → CD h3 (sI (sA (sA h3 20 (z.no + j) ra) 21 (z.no + j) rb) 139 5 (nI (z.no + j + 1))) G G zz := fun zz h1 h2 => CD.trans h1 (CD.trans h1 (CD.xA S3 (.inl o20) (ne_ow S.o20 S.okd (by omega)) (ne_ow S.o20 S.ost (by omega)) (by unfold kC; omega) (fun q => by have := ne_ow S.o20 S.opg (by omega); exact this q.1)) (CD.xA (h := sA h3 20 (z.no + j) ra) S3 (.inl o21) (ne_ow S.o21 S.okd (by omega)) (ne_ow S.o21 S.ost (by omega)) (by unfold kC; omega) (fun q => by have := ne_ow S.o21 S.opg (by omega); exact this q.1))) (CD.xI (h := sA (sA h3 20 (z.no + j) ra) 21 (z.no + j) rb) S3 (.inr (.inr (by rw [S.o5]))) (fun q => by have := (kO_o (h := h3) S3 h1 q).1; rw [S.o5] at this; omega) (by omega) (by omega) (by omega) (by omega))
  have MM : ∀ zz : Sz, zz.no ≤ z.no → MD u4 (mSA (mSA u4 36 (z.no + j) ra) 37 (z.no + j) rb) zz := fun zz h2 => ((MD.refl u4 zz).sA (by omega) (by unfold kM; omega)).sA (by omega) (by unfold kM; omega)
  have i4 : ∀ f b, ¬ (f = 139 ∧ b = 5) → hI (sI (sA (sA h3 20 (z.no + j) ra) 21 (z.no + j) rb) 139 5 (nI (z.no + j + 1))) f b = hI h3 f b := fun f b q => by simp only [z_hI_sI, z_hL_sI, z_hR_sI, z_hA_sI, z_hB_sI, z_hC_sI, z_hT_sI, z_hN_sI, z_hZ_sI, z_hI_sL, z_hL_sL, z_hR_sL, z_hA_sL, z_hB_sL, z_hC_sL, z_hT_sL, z_hN_sL, z_hZ_sL, z_hI_sR, z_hL_sR, z_hR_sR, z_hA_sR, z_hB_sR, z_hC_sR, z_hT_sR, z_hN_sR, z_hZ_sR, z_hI_sA, z_hL_sA, z_hR_sA, z_hA_sA, z_hB_sA, z_hC_sA, z_hT_sA, z_hN_sA, z_hZ_sA, z_hI_sB, z_hL_sB, z_hR_sB, z_hA_sB, z_hB_sB, z_hC_sB, z_hT_sB, z_hN_sB, z_hZ_sB, z_hI_sC, z_hL_sC, z_hR_sC, z_hA_sC, z_hB_sC, z_hC_sC, z_hT_sC, z_hN_sC, z_hZ_sC, z_hI_sY, z_hL_sY, z_hR_sY, z_hA_sY, z_hB_sY, z_hC_sY, z_hT_sY, z_hN_sY, z_hZ_sY, z_hI_nO, z_hL_nO, z_hR_nO, z_hA_nO, z_hB_nO, z_hC_nO, z_hT_nO, z_hN_nO, z_hZ_nO, z_hI_nA, z_hL_nA, z_hR_nA, z_hA_nA, z_hB_nA, z_hC_nA, z_hT_nA, z_hN_nA, z_hZ_nA]; rw [if_neg q]
  have i45 : ∀ f b, b ≠ 23 → ¬ (f = 139 ∧ b = 5) → hI (sI (sA (sA h3 20 (z.no + j) ra) 21 (z.no + j) rb) 139 5 (nI (z.no + j + 1))) f b = hI h f b := fun f b q1 q2 => (i4 f b q2).trans (QQ.I f b q1)
  have I4 := X.i.q QQ WW
  have I5 : PI (sI (sA (sA h3 20 (z.no + j) ra) 21 (z.no + j) rb) 139 5 (nI (z.no + j + 1))) (mSA (mSA u4 36 (z.no + j) ra) 37 (z.no + j) rb) G z L n D := I4.d (CC z I4.kr.nrG (Nat.le_refl _)) (MM z (Nat.le_refl _)) I4.rm.p3
  have C5 := C3.fr (h' := sI (sA (sA h3 20 (z.no + j) ra) 21 (z.no + j) rb) 139 5 (nI (z.no + j + 1))) (fun f => i4 f 23 (by omega))
  have M5 := M4.fr (u' := mSA (mSA u4 36 (z.no + j) ra) 37 (z.no + j) rb) rfl
  have F5 := FL.of C5 M5
  have fm : FM u (mSA (mSA u4 36 (z.no + j) ra) 37 (z.no + j) rb) := by
    have hcat : ∀ {fl' : Option (Nat × Int32)} {p q : Nat} {u1 : MS}, MF u1 fl' → ∀ {u2 : MS}, MF u2 (cat fl' p q) → FM u1 u2 := fun {fl' p q u1} m1 {u2} m2 => by
      unfold cat at m2
      by_cases q0 : q = 0
      · rw [if_pos q0] at m2; exact fmn_le m1 m2
      · rw [if_neg q0] at m2
        by_cases q1 : q = 1
        · rw [if_pos q1] at m2; exact fmn_le m1 m2
        · rw [if_neg q1] at m2; exact same_fm m1 m2
    -- states that hold the flaws between
    have mk : ∀ fl' : Option (Nat × Int32), (∀ q g, fl' = some (q, g) → g ≠ 0 ∧ q ≤ 4000) → ∃ x : MS, MF x fl' := fun fl' hb => by
      cases fl' with
      | none => exact ⟨mSI u 15 0, by show mI (mSI u 15 0) 15 = 0; simp only [z_mI_mSI, z_mL_mSI, z_mA_mSI, z_mB_mSI, z_mI_mSL, z_mL_mSL, z_mA_mSL, z_mB_mSL, z_mI_mSA, z_mL_mSA, z_mA_mSA, z_mB_mSA, z_mI_mSB, z_mL_mSB, z_mA_mSB, z_mB_mSB, if_true, if_false, and_false, false_and, and_true, true_and, and_self, decide_true, decide_false, reduceCtorEq, not_false_eq_true, not_true_eq_false, Nat.reduceEqDiff, Nat.reduceAdd, Nat.reduceMul, Nat.add_zero, Nat.zero_add]⟩
      | some y =>
        obtain ⟨q, g⟩ := y
        obtain ⟨b1, b2⟩ := hb q g rfl
        exact ⟨mSI (mSI u 15 g) 16 (nI q), by simp only [z_mI_mSI, z_mL_mSI, z_mA_mSI, z_mB_mSI, z_mI_mSL, z_mL_mSL, z_mA_mSL, z_mB_mSL, z_mI_mSA, z_mL_mSA, z_mA_mSA, z_mB_mSA, z_mI_mSB, z_mL_mSB, z_mA_mSB, z_mB_mSB, if_true, if_false, and_false, false_and, and_true, true_and, and_self, decide_true, decide_false, reduceCtorEq, not_false_eq_true, not_true_eq_false, Nat.reduceEqDiff, Nat.reduceAdd, Nat.reduceMul, Nat.add_zero, Nat.zero_add], b1, by simp only [z_mI_mSI, z_mL_mSI, z_mA_mSI, z_mB_mSI, z_mI_mSL, z_mL_mSL, z_mA_mSL, z_mB_mSL, z_mI_mSA, z_mL_mSA, z_mA_mSA, z_mB_mSA, z_mI_mSB, z_mL_mSB, z_mA_mSB, z_mB_mSB, if_true, if_false, and_false, false_and, and_true, true_and, and_self, decide_true, decide_false, reduceCtorEq, not_false_eq_true, not_true_eq_false, Nat.reduceEqDiff, Nat.reduceAdd, Nat.reduceMul, Nat.add_zero, Nat.zero_add], b2⟩
    have cb : ∀ {hh : PH} {fl' : Option (Nat × Int32)}, CF hh fl' → ∀ q g, fl' = some (q, g) → g ≠ 0 ∧ q ≤ 4000 := fun {hh fl'} c q g e => by
      subst e
      have c' : hI hh 526 23 = g ∧ g ≠ 0 ∧ hI hh 527 23 = nI q ∧ q ≤ 4000 := c
      exact ⟨c'.2.1, c'.2.2.2⟩
    obtain ⟨x1, m1⟩ := mk _ (cb C1)
    obtain ⟨x2, m2⟩ := mk _ (cb C2)
    have s1 : FM u x1 := hcat M0 m1
    have s2 : FM x1 x2 := hcat m1 m2
    refine (s1.trans s2).trans ?_
    have M5' := M5
    by_cases q : ra = rb ∧ ra ≠ -1
    · rw [if_pos q] at M5'; exact fmn_le m2 M5'
    · rw [if_neg q] at M5'; exact same_fm m2 M5'
  refine ⟨_, _, k, e30, e4, e5, OS.mk I5 F5 ?_ ?_ X.lt X.le X.ok ⟨(i45 _ _ (by omega) (by omega)).trans X.zc.1, (i45 _ _ (by omega) (by omega)).trans X.zc.2.1, (i45 _ _ (by omega) (by omega)).trans X.zc.2.2.1, (i45 _ _ (by omega) (by omega)).trans X.zc.2.2.2.1, (i45 _ _ (by omega) (by omega)).trans X.zc.2.2.2.2.1, (i45 _ _ (by omega) (by omega)).trans X.zc.2.2.2.2.2⟩ ?_ ?_ ?_ ?_ ?_ ?_ ?_ X.p4 ?_, QQ.N⟩
  · show mI u4 13 = 0; exact f4
  · exact (i4 _ _ (by omega)).trans ((gg 524 (by omega)).trans X.st)
  · simp only [z_hI_sI, z_hL_sI, z_hR_sI, z_hA_sI, z_hB_sI, z_hC_sI, z_hT_sI, z_hN_sI, z_hZ_sI, z_hI_sL, z_hL_sL, z_hR_sL, z_hA_sL, z_hB_sL, z_hC_sL, z_hT_sL, z_hN_sL, z_hZ_sL, z_hI_sR, z_hL_sR, z_hR_sR, z_hA_sR, z_hB_sR, z_hC_sR, z_hT_sR, z_hN_sR, z_hZ_sR, z_hI_sA, z_hL_sA, z_hR_sA, z_hA_sA, z_hB_sA, z_hC_sA, z_hT_sA, z_hN_sA, z_hZ_sA, z_hI_sB, z_hL_sB, z_hR_sB, z_hA_sB, z_hB_sB, z_hC_sB, z_hT_sB, z_hN_sB, z_hZ_sB, z_hI_sC, z_hL_sC, z_hR_sC, z_hA_sC, z_hB_sC, z_hC_sC, z_hT_sC, z_hN_sC, z_hZ_sC, z_hI_sY, z_hL_sY, z_hR_sY, z_hA_sY, z_hB_sY, z_hC_sY, z_hT_sY, z_hN_sY, z_hZ_sY, z_hI_nO, z_hL_nO, z_hR_nO, z_hA_nO, z_hB_nO, z_hC_nO, z_hT_nO, z_hN_nO, z_hZ_nO, z_hI_nA, z_hL_nA, z_hR_nA, z_hA_nA, z_hB_nA, z_hC_nA, z_hT_nA, z_hN_nA, z_hZ_nA, if_true, if_false, and_false, false_and, and_true, true_and, and_self, decide_true, decide_false, reduceCtorEq, not_false_eq_true, not_true_eq_false, Nat.reduceEqDiff, Nat.reduceAdd, Nat.reduceMul, Nat.add_zero, Nat.zero_add]
    rfl
  · obtain ⟨m1, m2, m3, m4, m5, m6, m7⟩ := X.zm
    exact ⟨(WW.I 18 (by omega)).trans m1, (WW.I 19 (by omega)).trans m2, (WW.I 20 (by omega)).trans m3, (WW.I 21 (by omega)).trans m4, (WW.I 22 (by omega)).trans m5, (WW.I 23 (by omega)).trans m6, (WW.I 24 (by omega)).trans m7⟩
  · exact (i4 _ _ (by omega)).trans ((gg 517 (by omega)).trans X.o1)
  · exact (WW.I 63 (by omega)).trans X.o2
  · intro i hi
    obtain ⟨k, b1, b2, b3, b4, b5, b6⟩ := X.ot i hi
    refine ⟨k, b1, b2, b3, ?_, ?_, ?_⟩
    · simp only [z_hI_sI, z_hL_sI, z_hR_sI, z_hA_sI, z_hB_sI, z_hC_sI, z_hT_sI, z_hN_sI, z_hZ_sI, z_hI_sL, z_hL_sL, z_hR_sL, z_hA_sL, z_hB_sL, z_hC_sL, z_hT_sL, z_hN_sL, z_hZ_sL, z_hI_sR, z_hL_sR, z_hR_sR, z_hA_sR, z_hB_sR, z_hC_sR, z_hT_sR, z_hN_sR, z_hZ_sR, z_hI_sA, z_hL_sA, z_hR_sA, z_hA_sA, z_hB_sA, z_hC_sA, z_hT_sA, z_hN_sA, z_hZ_sA, z_hI_sB, z_hL_sB, z_hR_sB, z_hA_sB, z_hB_sB, z_hC_sB, z_hT_sB, z_hN_sB, z_hZ_sB, z_hI_sC, z_hL_sC, z_hR_sC, z_hA_sC, z_hB_sC, z_hC_sC, z_hT_sC, z_hN_sC, z_hZ_sC, z_hI_sY, z_hL_sY, z_hR_sY, z_hA_sY, z_hB_sY, z_hC_sY, z_hT_sY, z_hN_sY, z_hZ_sY, z_hI_nO, z_hL_nO, z_hR_nO, z_hA_nO, z_hB_nO, z_hC_nO, z_hT_nO, z_hN_nO, z_hZ_nO, z_hI_nA, z_hL_nA, z_hR_nA, z_hA_nA, z_hB_nA, z_hC_nA, z_hT_nA, z_hN_nA, z_hZ_nA, if_true, if_false, and_false, false_and, and_true, true_and, and_self, decide_true, decide_false, reduceCtorEq, not_false_eq_true, not_true_eq_false, Nat.reduceEqDiff, Nat.reduceAdd, Nat.reduceMul, Nat.add_zero, Nat.zero_add]; rw [QQ.A]; exact b4
    · simp only [z_mI_mSI, z_mL_mSI, z_mA_mSI, z_mB_mSI, z_mI_mSL, z_mL_mSL, z_mA_mSL, z_mB_mSL, z_mI_mSA, z_mL_mSA, z_mA_mSA, z_mB_mSA, z_mI_mSB, z_mL_mSB, z_mA_mSB, z_mB_mSB, if_true, if_false, and_false, false_and, and_true, true_and, and_self, decide_true, decide_false, reduceCtorEq, not_false_eq_true, not_true_eq_false, Nat.reduceEqDiff, Nat.reduceAdd, Nat.reduceMul, Nat.add_zero, Nat.zero_add]; rw [WW.A]; exact b5
    · simp only [z_mI_mSI, z_mL_mSI, z_mA_mSI, z_mB_mSI, z_mI_mSL, z_mL_mSL, z_mA_mSL, z_mB_mSL, z_mI_mSA, z_mL_mSA, z_mA_mSA, z_mB_mSA, z_mI_mSB, z_mL_mSB, z_mA_mSB, z_mB_mSB, if_true, if_false, and_false, false_and, and_true, true_and, and_self, decide_true, decide_false, reduceCtorEq, not_false_eq_true, not_true_eq_false, Nat.reduceEqDiff, Nat.reduceAdd, Nat.reduceMul, Nat.add_zero, Nat.zero_add]; rw [WW.A]; exact b6
  · have c1 := X.ct.w0.d (t' := t) X.F (CD.trans rG (QQ.cd S rG) (CC c.w0 rG (Nat.zero_le _))) ((WW.md c.w0).trans (MM c.w0 (Nat.zero_le _))) fm (Nat.le_refl _)
    exact c1.w1
  · rw [show hN (sI (sA (sA h3 20 (z.no + j) ra) 21 (z.no + j) rb) 139 5 (nI (z.no + j + 1))) = hN h from QQ.N]; exact X.p3
  · intro e i hi
    have e4' : (if ra = rb ∧ ra ≠ -1 then fmn (cat (cat fl pa ka) pb kb) pb 5 else cat (cat fl pa ka) pb kb) = none := M5.z e
    have nq : ¬ (ra = rb ∧ ra ≠ -1) := fun q => by rw [if_pos q] at e4'; exact fmn_s _ _ _ e4'
    rw [if_neg nq] at e4'
    obtain ⟨z1, kb0, kb1⟩ := cat_n e4'
    obtain ⟨z2, ka0, ka1⟩ := cat_n z1
    by_cases q : i = j
    · subst q
      rcases Ka with ⟨q1, _⟩ | ⟨x, x1, x2, _⟩
      · exact absurd q1 ka0
      · rcases Kb with ⟨q1, _⟩ | ⟨y, y1, y2, _⟩
        · exact absurd q1 kb0
        · refine ⟨x, y, x1, y1, fun q => nq ⟨by rw [x2, y2, q], by rw [x2]; exact nI_m1 (by omega)⟩, ?_, ?_, ?_, ?_⟩
          · simp only [z_hI_sI, z_hL_sI, z_hR_sI, z_hA_sI, z_hB_sI, z_hC_sI, z_hT_sI, z_hN_sI, z_hZ_sI, z_hI_sL, z_hL_sL, z_hR_sL, z_hA_sL, z_hB_sL, z_hC_sL, z_hT_sL, z_hN_sL, z_hZ_sL, z_hI_sR, z_hL_sR, z_hR_sR, z_hA_sR, z_hB_sR, z_hC_sR, z_hT_sR, z_hN_sR, z_hZ_sR, z_hI_sA, z_hL_sA, z_hR_sA, z_hA_sA, z_hB_sA, z_hC_sA, z_hT_sA, z_hN_sA, z_hZ_sA, z_hI_sB, z_hL_sB, z_hR_sB, z_hA_sB, z_hB_sB, z_hC_sB, z_hT_sB, z_hN_sB, z_hZ_sB, z_hI_sC, z_hL_sC, z_hR_sC, z_hA_sC, z_hB_sC, z_hC_sC, z_hT_sC, z_hN_sC, z_hZ_sC, z_hI_sY, z_hL_sY, z_hR_sY, z_hA_sY, z_hB_sY, z_hC_sY, z_hT_sY, z_hN_sY, z_hZ_sY, z_hI_nO, z_hL_nO, z_hR_nO, z_hA_nO, z_hB_nO, z_hC_nO, z_hT_nO, z_hN_nO, z_hZ_nO, z_hI_nA, z_hL_nA, z_hR_nA, z_hA_nA, z_hB_nA, z_hC_nA, z_hT_nA, z_hN_nA, z_hZ_nA, if_true, if_false, and_false, false_and, and_true, true_and, and_self, decide_true, decide_false, reduceCtorEq, not_false_eq_true, not_true_eq_false, Nat.reduceEqDiff, Nat.reduceAdd, Nat.reduceMul, Nat.add_zero, Nat.zero_add]; exact x2
          · simp only [z_mI_mSI, z_mL_mSI, z_mA_mSI, z_mB_mSI, z_mI_mSL, z_mL_mSL, z_mA_mSL, z_mB_mSL, z_mI_mSA, z_mL_mSA, z_mA_mSA, z_mB_mSA, z_mI_mSB, z_mL_mSB, z_mA_mSB, z_mB_mSB, if_true, if_false, and_false, false_and, and_true, true_and, and_self, decide_true, decide_false, reduceCtorEq, not_false_eq_true, not_true_eq_false, Nat.reduceEqDiff, Nat.reduceAdd, Nat.reduceMul, Nat.add_zero, Nat.zero_add]; exact x2
          · simp only [z_hI_sI, z_hL_sI, z_hR_sI, z_hA_sI, z_hB_sI, z_hC_sI, z_hT_sI, z_hN_sI, z_hZ_sI, z_hI_sL, z_hL_sL, z_hR_sL, z_hA_sL, z_hB_sL, z_hC_sL, z_hT_sL, z_hN_sL, z_hZ_sL, z_hI_sR, z_hL_sR, z_hR_sR, z_hA_sR, z_hB_sR, z_hC_sR, z_hT_sR, z_hN_sR, z_hZ_sR, z_hI_sA, z_hL_sA, z_hR_sA, z_hA_sA, z_hB_sA, z_hC_sA, z_hT_sA, z_hN_sA, z_hZ_sA, z_hI_sB, z_hL_sB, z_hR_sB, z_hA_sB, z_hB_sB, z_hC_sB, z_hT_sB, z_hN_sB, z_hZ_sB, z_hI_sC, z_hL_sC, z_hR_sC, z_hA_sC, z_hB_sC, z_hC_sC, z_hT_sC, z_hN_sC, z_hZ_sC, z_hI_sY, z_hL_sY, z_hR_sY, z_hA_sY, z_hB_sY, z_hC_sY, z_hT_sY, z_hN_sY, z_hZ_sY, z_hI_nO, z_hL_nO, z_hR_nO, z_hA_nO, z_hB_nO, z_hC_nO, z_hT_nO, z_hN_nO, z_hZ_nO, z_hI_nA, z_hL_nA, z_hR_nA, z_hA_nA, z_hB_nA, z_hC_nA, z_hT_nA, z_hN_nA, z_hZ_nA, if_true, if_false, and_false, false_and, and_true, true_and, and_self, decide_true, decide_false, reduceCtorEq, not_false_eq_true, not_true_eq_false, Nat.reduceEqDiff, Nat.reduceAdd, Nat.reduceMul, Nat.add_zero, Nat.zero_add]; exact y2
          · simp only [z_mI_mSI, z_mL_mSI, z_mA_mSI, z_mB_mSI, z_mI_mSL, z_mL_mSL, z_mA_mSL, z_mB_mSL, z_mI_mSA, z_mL_mSA, z_mA_mSA, z_mB_mSA, z_mI_mSB, z_mL_mSB, z_mA_mSB, z_mB_mSB, if_true, if_false, and_false, false_and, and_true, true_and, and_self, decide_true, decide_false, reduceCtorEq, not_false_eq_true, not_true_eq_false, Nat.reduceEqDiff, Nat.reduceAdd, Nat.reduceMul, Nat.add_zero, Nat.zero_add]; exact y2
    · subst z2
      have e0 : mI u 15 = 0 := M0
      obtain ⟨x, y, q1, q2, q3, q4, q5, q6, q7⟩ := X.ov e0 i (by omega)
      have ne : ¬ (z.no + i = z.no + j) := by omega
      refine ⟨x, y, q1, q2, q3, ?_, ?_, ?_, ?_⟩
      · simp only [z_hI_sI, z_hL_sI, z_hR_sI, z_hA_sI, z_hB_sI, z_hC_sI, z_hT_sI, z_hN_sI, z_hZ_sI, z_hI_sL, z_hL_sL, z_hR_sL, z_hA_sL, z_hB_sL, z_hC_sL, z_hT_sL, z_hN_sL, z_hZ_sL, z_hI_sR, z_hL_sR, z_hR_sR, z_hA_sR, z_hB_sR, z_hC_sR, z_hT_sR, z_hN_sR, z_hZ_sR, z_hI_sA, z_hL_sA, z_hR_sA, z_hA_sA, z_hB_sA, z_hC_sA, z_hT_sA, z_hN_sA, z_hZ_sA, z_hI_sB, z_hL_sB, z_hR_sB, z_hA_sB, z_hB_sB, z_hC_sB, z_hT_sB, z_hN_sB, z_hZ_sB, z_hI_sC, z_hL_sC, z_hR_sC, z_hA_sC, z_hB_sC, z_hC_sC, z_hT_sC, z_hN_sC, z_hZ_sC, z_hI_sY, z_hL_sY, z_hR_sY, z_hA_sY, z_hB_sY, z_hC_sY, z_hT_sY, z_hN_sY, z_hZ_sY, z_hI_nO, z_hL_nO, z_hR_nO, z_hA_nO, z_hB_nO, z_hC_nO, z_hT_nO, z_hN_nO, z_hZ_nO, z_hI_nA, z_hL_nA, z_hR_nA, z_hA_nA, z_hB_nA, z_hC_nA, z_hT_nA, z_hN_nA, z_hZ_nA, if_true, if_false, and_false, false_and, and_true, true_and, and_self, decide_true, decide_false, reduceCtorEq, not_false_eq_true, not_true_eq_false, Nat.reduceEqDiff, Nat.reduceAdd, Nat.reduceMul, Nat.add_zero, Nat.zero_add]; rw [if_neg ne, QQ.A]; exact q4
      · simp only [z_mI_mSI, z_mL_mSI, z_mA_mSI, z_mB_mSI, z_mI_mSL, z_mL_mSL, z_mA_mSL, z_mB_mSL, z_mI_mSA, z_mL_mSA, z_mA_mSA, z_mB_mSA, z_mI_mSB, z_mL_mSB, z_mA_mSB, z_mB_mSB, if_true, if_false, and_false, false_and, and_true, true_and, and_self, decide_true, decide_false, reduceCtorEq, not_false_eq_true, not_true_eq_false, Nat.reduceEqDiff, Nat.reduceAdd, Nat.reduceMul, Nat.add_zero, Nat.zero_add]; rw [if_neg ne, WW.A]; exact q5
      · simp only [z_hI_sI, z_hL_sI, z_hR_sI, z_hA_sI, z_hB_sI, z_hC_sI, z_hT_sI, z_hN_sI, z_hZ_sI, z_hI_sL, z_hL_sL, z_hR_sL, z_hA_sL, z_hB_sL, z_hC_sL, z_hT_sL, z_hN_sL, z_hZ_sL, z_hI_sR, z_hL_sR, z_hR_sR, z_hA_sR, z_hB_sR, z_hC_sR, z_hT_sR, z_hN_sR, z_hZ_sR, z_hI_sA, z_hL_sA, z_hR_sA, z_hA_sA, z_hB_sA, z_hC_sA, z_hT_sA, z_hN_sA, z_hZ_sA, z_hI_sB, z_hL_sB, z_hR_sB, z_hA_sB, z_hB_sB, z_hC_sB, z_hT_sB, z_hN_sB, z_hZ_sB, z_hI_sC, z_hL_sC, z_hR_sC, z_hA_sC, z_hB_sC, z_hC_sC, z_hT_sC, z_hN_sC, z_hZ_sC, z_hI_sY, z_hL_sY, z_hR_sY, z_hA_sY, z_hB_sY, z_hC_sY, z_hT_sY, z_hN_sY, z_hZ_sY, z_hI_nO, z_hL_nO, z_hR_nO, z_hA_nO, z_hB_nO, z_hC_nO, z_hT_nO, z_hN_nO, z_hZ_nO, z_hI_nA, z_hL_nA, z_hR_nA, z_hA_nA, z_hB_nA, z_hC_nA, z_hT_nA, z_hN_nA, z_hZ_nA, if_true, if_false, and_false, false_and, and_true, true_and, and_self, decide_true, decide_false, reduceCtorEq, not_false_eq_true, not_true_eq_false, Nat.reduceEqDiff, Nat.reduceAdd, Nat.reduceMul, Nat.add_zero, Nat.zero_add]; rw [if_neg ne, QQ.A]; exact q6
      · simp only [z_mI_mSI, z_mL_mSI, z_mA_mSI, z_mB_mSI, z_mI_mSL, z_mL_mSL, z_mA_mSL, z_mB_mSL, z_mI_mSA, z_mL_mSA, z_mA_mSA, z_mB_mSA, z_mI_mSB, z_mL_mSB, z_mA_mSB, z_mB_mSB, if_true, if_false, and_false, false_and, and_true, true_and, and_self, decide_true, decide_false, reduceCtorEq, not_false_eq_true, not_true_eq_false, Nat.reduceEqDiff, Nat.reduceAdd, Nat.reduceMul, Nat.add_zero, Nat.zero_add]; rw [if_neg ne, WW.A]; exact q7
end OV3
