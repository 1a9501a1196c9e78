/-- the invariant but for the tape and the last fault's place -/
def Ir (h : PH) (u : MS) (G : Gh) (z : Sz) : Prop := (SX h G) ∧ (z.ok) ∧ (SzC h z) ∧ (SzK h z) ∧ (SzM u z) ∧ (KR h u G z) ∧ (RmR h u G z) ∧ (∀ i, isBy (hA h G.tk i)) ∧ (hN h G.tk ≤ 4000) ∧ (okL (hN h G.tk)) ∧ (OuR h u G) ∧ (DyR h u) ∧ (NuR h u z) ∧ (TeR h u G z) ∧ (IvJ h u G z)
theorem Ir.sx {h : PH} {u : MS} {G : Gh} {z : Sz} (X_ : Ir h u G z) : SX h G := X_.1
theorem Ir.zo {h : PH} {u : MS} {G : Gh} {z : Sz} (X_ : Ir h u G z) : z.ok := X_.2.1
theorem Ir.zc {h : PH} {u : MS} {G : Gh} {z : Sz} (X_ : Ir h u G z) : SzC h z := X_.2.2.1
theorem Ir.zk {h : PH} {u : MS} {G : Gh} {z : Sz} (X_ : Ir h u G z) : SzK h z := X_.2.2.2.1
theorem Ir.zm {h : PH} {u : MS} {G : Gh} {z : Sz} (X_ : Ir h u G z) : SzM u z := X_.2.2.2.2.1
theorem Ir.kr {h : PH} {u : MS} {G : Gh} {z : Sz} (X_ : Ir h u G z) : KR h u G z := X_.2.2.2.2.2.1
theorem Ir.rm {h : PH} {u : MS} {G : Gh} {z : Sz} (X_ : Ir h u G z) : RmR h u G z := X_.2.2.2.2.2.2.1
theorem Ir.bt {h : PH} {u : MS} {G : Gh} {z : Sz} (X_ : Ir h u G z) : ∀ i, isBy (hA h G.tk i) := X_.2.2.2.2.2.2.2.1
theorem Ir.hn {h : PH} {u : MS} {G : Gh} {z : Sz} (X_ : Ir h u G z) : hN h G.tk ≤ 4000 := X_.2.2.2.2.2.2.2.2.1
theorem Ir.ok {h : PH} {u : MS} {G : Gh} {z : Sz} (X_ : Ir h u G z) : okL (hN h G.tk) := X_.2.2.2.2.2.2.2.2.2.1
theorem Ir.ou {h : PH} {u : MS} {G : Gh} {z : Sz} (X_ : Ir h u G z) : OuR h u G := X_.2.2.2.2.2.2.2.2.2.2.1
theorem Ir.dy {h : PH} {u : MS} {G : Gh} {z : Sz} (X_ : Ir h u G z) : DyR h u := X_.2.2.2.2.2.2.2.2.2.2.2.1
theorem Ir.nu {h : PH} {u : MS} {G : Gh} {z : Sz} (X_ : Ir h u G z) : NuR h u z := X_.2.2.2.2.2.2.2.2.2.2.2.2.1
theorem Ir.te {h : PH} {u : MS} {G : Gh} {z : Sz} (X_ : Ir h u G z) : TeR h u G z := X_.2.2.2.2.2.2.2.2.2.2.2.2.2.1
theorem Ir.ju {h : PH} {u : MS} {G : Gh} {z : Sz} (X_ : Ir h u G z) : IvJ h u G z := X_.2.2.2.2.2.2.2.2.2.2.2.2.2.2
theorem Ir.mk {h : PH} {u : MS} {G : Gh} {z : Sz} (sx_ : SX h G) (zo_ : z.ok) (zc_ : SzC h z) (zk_ : SzK h z) (zm_ : SzM u z) (kr_ : KR h u G z) (rm_ : RmR h u G z) (bt_ : ∀ i, isBy (hA h G.tk i)) (hn_ : hN h G.tk ≤ 4000) (ok_ : okL (hN h G.tk)) (ou_ : OuR h u G) (dy_ : DyR h u) (nu_ : NuR h u z) (te_ : TeR h u G z) (ju_ : IvJ h u G z) : Ir h u G z := ⟨sx_, zo_, zc_, zk_, zm_, kr_, rm_, bt_, hn_, ok_, ou_, dy_, nu_, te_, ju_⟩
theorem Iv.ir {h : PH} {u : MS} {G : Gh} {z : Sz} (I : Iv h u G z) : Ir h u G z := ⟨I.sx, I.zo, I.zc, I.zk, I.zm, I.kr, I.rm, I.tp.bt, I.tp.hn, I.tp.ok, I.ou, I.dy, I.nu, I.te, I.ju⟩
theorem Ir.iv {h : PH} {u : MS} {G : Gh} {z : Sz} (I : Ir h u G z) (h1 : hI h 1 1 = 0) (h2 : mI u 2 = 0) (h3 : hI h 1415 0 = mI u 17) : Iv h u G z := ⟨I.sx, I.zo, I.zc, I.zk, I.zm, I.kr, I.rm, ⟨⟨0, by omega, by omega, h1, h2, fun i hi => by omega⟩, I.bt, I.hn, I.ok⟩, I.ou, I.dy, I.nu, I.te, h3, I.ju⟩
/-- a change of the scratch alone -/
theorem Ir.keep {h h' : PH} {u u' : MS} {G : Gh} {z : Sz} (I : Ir h u G z) (S' : SX h' G) (eN : ∀ a, hN h' a = hN h a) (A : Ag (fun a => a < hZ h ∧ G.ow a / 100000 ≠ 7) h h') (M : MAg (fun k => iM k ∧ k ≠ 1 ∧ k ≠ 2) u u') : Ir h' u' G z := by
  have S := I.sx
  have g : ∀ n, n ≠ 7 → Ag (gr (hZ h) G n) h h' := fun n h7 => A.mono fun a ha => ⟨ha.1, by have := ha.2; omega⟩
  have p : ∀ a x, a < hZ h → G.ow a = x → x / 100000 ≠ 7 → a < hZ h ∧ G.ow a / 100000 ≠ 7 := fun a x l e h7 => ⟨l, by rw [e]; exact h7⟩
  have zz := S.zz
  have mi : ∀ k, iM k → k ≠ 1 → k ≠ 2 → mI u' k = mI u k := fun k hk h1 h2 => (M k ⟨hk, h1, h2⟩).1
  have ma : ∀ k, iM k → k ≠ 1 → k ≠ 2 → ∀ i, mA u' k i = mA u k i := fun k hk h1 h2 => (M k ⟨hk, h1, h2⟩).2.2.1
  have i0 := (A 0 (p _ _ (by omega) S.o0 (by omega))).1
  have i3 := (A 3 (p _ _ (by omega) S.o3 (by omega))).1
  have i5 := (A 5 (p _ _ (by omega) S.o5 (by omega))).1
  have i6 := (A 6 (p _ _ (by omega) S.o6 (by omega))).1
  have i8 := (A 8 (p _ _ (by omega) S.o8 (by omega))).1
  have i10 := (A 10 (p _ _ (by omega) S.o10 (by omega))).1
  have i12 := (A 12 (p _ _ (by omega) S.o12 (by omega))).1
  have i14 := (A 14 (p _ _ (by omega) S.o14 (by omega))).1
  have atk := (A G.tk (p _ _ (lt_T S.fr S.ttk (by omega)) S.otk (by omega))).2.2.1
  refine Ir.mk S' I.zo ?_ ?_ ?_ (I.kr.fr S (g 3 (by omega)) (M.mono fun k hk => by unfold kS at hk; unfold iM; omega)) (I.rm.fr (h := h) eN (A 25 (p _ _ (by omega) S.o25 (by omega))).2.2.2 (M 9 ⟨by unfold iM; omega, by omega, by omega⟩).2.2.2) (fun i => by rw [atk]; exact I.bt i) (by rw [eN]; exact I.hn) (by rw [eN]; exact I.ok) (I.ou.fr (h := h) (eN _) (i3 _) (A G.wk (p _ _ (lt_T S.fr S.twk (by omega)) S.owk (by omega))).2.2.1 (mi 113 (by unfold iM; omega) (by omega) (by omega)) (ma 114 (by unfold iM; omega) (by omega) (by omega))) ?_ (I.nu.fr (h := h) (A 17 (p _ _ (by omega) S.o17 (by omega))).2.2.1 (ma 26 (by unfold iM; omega) (by omega) (by omega))) (I.te.fr S (i0 1413) (g 4 (by omega)) (M.mono fun k hk => by unfold tS at hk; unfold iM; omega) (fun i _ => ma 28 (by unfold iM; omega) (by omega) (by omega) i)) ?_
  · have := I.zc
    unfold SzC at *
    simp only [i5, i6, i8, i10, i12, i14]
    exact this
  · have := I.zk
    unfold SzK at *
    simp only [i5, i6, i8, i10, i12, i14]
    exact this
  · have := I.zm
    have m : ∀ k, 18 ≤ k → k ≤ 24 → mI u' k = mI u k := fun k h1 h2 => mi k (by unfold iM; omega) (by omega) (by omega)
    unfold SzM at *
    simp only [m 18 (by omega) (by omega), m 19 (by omega) (by omega), m 20 (by omega) (by omega), m 21 (by omega) (by omega), m 22 (by omega) (by omega), m 23 (by omega) (by omega), m 24 (by omega) (by omega)]
    exact this
  · have := I.dy
    unfold DyR at *
    rw [i0, mi 72 (by unfold iM; omega) (by omega) (by omega)]
    exact this
  · have mj : ∀ k, 96 ≤ k → k ≤ 111 → mI u' k = mI u k := fun k h1 h2 => mi k (by unfold iM; omega) (by omega) (by omega)
    have K := I.ju
    unfold IvJ at *
    simp only [mj 96 (by omega) (by omega), mj 100 (by omega) (by omega), mj 101 (by omega) (by omega), mj 102 (by omega) (by omega), mj 103 (by omega) (by omega)]
    rcases K with K | ⟨J, k, l, a, b', c, K⟩
    · exact .inl K
    · have g2 := (A (G.jd 2) (p _ _ (jd_lt J S 2 (by omega)) (S.jo J 2 (by omega)) (by omega))).2.2.1
      have g17 := (A (G.jd 17) (p _ _ (jd_lt J S 17 (by omega)) (S.jo J 17 (by omega)) (by omega))).2.2.1
      exact .inr ⟨J, k, ⟨fun p hp => (g2 p).trans (l.wh p hp), by rw [eN, eN]; exact l.k1, by rw [eN, eN]; exact l.k2, by rw [eN]; exact l.k3, by rw [eN]; exact l.k4, fun i => by rw [g17]; exact l.bt i⟩, a, b', c, K.fr ((g 5 (by omega)).mono fun a q => jP_gr J S q) (M.mono fun k hk => by unfold jS at hk; unfold iM; omega) (fun i _ => ma 28 (by unfold iM; omega) (by omega) (by omega) i) (fun i _ => ma 42 (by unfold iM; omega) (by omega) (by omega) i)⟩
/-- the reference's copy of the tape -/
theorem copy_v {L : Nat} (hL : L ≤ 4000) : ∀ d i f {u : MS}, i + d = L → mI u 4 = nI L → ∃ u', fX12_read_10 (f + (d + 1)) u (nI i) = fX12_read_10 (f + 1) u' (nI L) ∧ MAg (fun k => k ≠ 3) u u' ∧ (∀ q, q < i → mA u' 3 q = mA u 3 q) ∧ ∀ q, i ≤ q → q < L → mA u' 3 q = Int8.toInt32 (Int32.toInt8 (mA u 1 q)) := by
  intro d
  induction d with
  | zero =>
    intro i f u hi h4
    have : i = L := by omega
    subst this
    exact ⟨u, rfl, MAg.refl u, fun _ _ => rfl, fun q h1 h2 => by omega⟩
  | succ d ih =>
    intro i f u hi h4
    obtain ⟨u', e, M, h1, h2⟩ := ih (i + 1) f (u := mSA u 3 i (Int8.toInt32 (Int32.toInt8 (mA u 1 i)))) (by omega) h4
    refine ⟨u', ?_, ((MAg.refl u).sA (by omega)).trans M, fun q hq => ?_, fun q a1 a2 => ?_⟩
    · rw [← e]
      show fX12_read_10F (fX12_read_10 (f + (d + 1))) u (nI i) = _
      unfold fX12_read_10F
      rw [h4, if_neg (nI_ge (show i < L by omega) (by omega)), oC_t (ix_n (show i < mlen 1 by show i < 4000; omega) (by decide)), oC_t (ix_n (show i < mlen 3 by show i < 4000; omega) (by decide)), oL_v, oL_v, nI_clamp (show i < 2147483648 by omega), nI_1]
    · rw [h1 q (by omega)]
      simp only [z_mI_mSI, z_mL_mSI, z_mA_mSI, z_mB_mSI, z_mI_mSL, z_mL_mSL, z_mA_mSL, z_mB_mSL, z_mI_mSA, z_mL_mSA, z_mA_mSA, z_mB_mSA, z_mI_mSB, z_mL_mSB, z_mA_mSB, z_mB_mSB, if_true, if_false, and_false, false_and, and_true, true_and, and_self, decide_true, decide_false, reduceCtorEq, not_false_eq_true, not_true_eq_false, Nat.reduceEqDiff, Nat.reduceAdd, Nat.reduceMul, Nat.add_zero, Nat.zero_add]
      rw [if_neg (by omega)]
    · by_cases c : q = i
      · subst c
        rw [h1 q (by omega)]
        simp only [z_mI_mSI, z_mL_mSI, z_mA_mSI, z_mB_mSI, z_mI_mSL, z_mL_mSL, z_mA_mSL, z_mB_mSL, z_mI_mSA, z_mL_mSA, z_mA_mSA, z_mB_mSA, z_mI_mSB, z_mL_mSB, z_mA_mSB, z_mB_mSB, if_true, if_false, and_false, false_and, and_true, true_and, and_self, decide_true, decide_false, reduceCtorEq, not_false_eq_true, not_true_eq_false, Nat.reduceEqDiff, Nat.reduceAdd, Nat.reduceMul, Nat.add_zero, Nat.zero_add]
      · rw [h2 q (by omega) a2]
        simp only [z_mI_mSI, z_mL_mSI, z_mA_mSI, z_mB_mSI, z_mI_mSL, z_mL_mSL, z_mA_mSL, z_mB_mSL, z_mI_mSA, z_mL_mSA, z_mA_mSA, z_mB_mSA, z_mI_mSB, z_mL_mSB, z_mA_mSB, z_mB_mSB, if_true, if_false, and_false, false_and, and_true, true_and, and_self, decide_true, decide_false, reduceCtorEq, not_false_eq_true, not_true_eq_false, Nat.reduceEqDiff, Nat.reduceAdd, Nat.reduceMul, Nat.add_zero, Nat.zero_add]
