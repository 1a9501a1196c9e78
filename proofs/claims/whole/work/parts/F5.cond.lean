/-! a condition, in both -/
/-- both stopped within rule w -/
def DR (h : PH) (u : MS) (G : Gh) (z : Sz) (w : Nat) (L : Nat) (n : Nat) (D : Nat → Nat × Nat × Nat × List Nat) (pc : Nat) (B : Nat) : Prop := (DX h u G z L n D pc) ∧ (∃ s, s ≤ 12 ∧ hI h 897 8 = nI s) ∧ (∃ s, s ≤ 4 ∧ hI h 897 10 = nI s) ∧ (mI u 65 = nI w) ∧ (w < 30) ∧ (w < G.nr) ∧ (z.nr ≤ w) ∧ (z.pc ≤ pc) ∧ (pc ≤ z.pc + B) ∧ (z.pc ≤ 37700)
theorem DR.d {h : PH} {u : MS} {G : Gh} {z : Sz} {w : Nat} {L : Nat} {n : Nat} {D : Nat → Nat × Nat × Nat × List Nat} {pc : Nat} {B : Nat} (X_ : DR h u G z w L n D pc B) : DX h u G z L n D pc := X_.1
theorem DR.s8 {h : PH} {u : MS} {G : Gh} {z : Sz} {w : Nat} {L : Nat} {n : Nat} {D : Nat → Nat × Nat × Nat × List Nat} {pc : Nat} {B : Nat} (X_ : DR h u G z w L n D pc B) : ∃ s, s ≤ 12 ∧ hI h 897 8 = nI s := X_.2.1
theorem DR.s10 {h : PH} {u : MS} {G : Gh} {z : Sz} {w : Nat} {L : Nat} {n : Nat} {D : Nat → Nat × Nat × Nat × List Nat} {pc : Nat} {B : Nat} (X_ : DR h u G z w L n D pc B) : ∃ s, s ≤ 4 ∧ hI h 897 10 = nI s := X_.2.2.1
theorem DR.m65 {h : PH} {u : MS} {G : Gh} {z : Sz} {w : Nat} {L : Nat} {n : Nat} {D : Nat → Nat × Nat × Nat × List Nat} {pc : Nat} {B : Nat} (X_ : DR h u G z w L n D pc B) : mI u 65 = nI w := X_.2.2.2.1
theorem DR.w3 {h : PH} {u : MS} {G : Gh} {z : Sz} {w : Nat} {L : Nat} {n : Nat} {D : Nat → Nat × Nat × Nat × List Nat} {pc : Nat} {B : Nat} (X_ : DR h u G z w L n D pc B) : w < 30 := X_.2.2.2.2.1
theorem DR.wG {h : PH} {u : MS} {G : Gh} {z : Sz} {w : Nat} {L : Nat} {n : Nat} {D : Nat → Nat × Nat × Nat × List Nat} {pc : Nat} {B : Nat} (X_ : DR h u G z w L n D pc B) : w < G.nr := X_.2.2.2.2.2.1
theorem DR.hw {h : PH} {u : MS} {G : Gh} {z : Sz} {w : Nat} {L : Nat} {n : Nat} {D : Nat → Nat × Nat × Nat × List Nat} {pc : Nat} {B : Nat} (X_ : DR h u G z w L n D pc B) : z.nr ≤ w := X_.2.2.2.2.2.2.1
theorem DR.zp {h : PH} {u : MS} {G : Gh} {z : Sz} {w : Nat} {L : Nat} {n : Nat} {D : Nat → Nat × Nat × Nat × List Nat} {pc : Nat} {B : Nat} (X_ : DR h u G z w L n D pc B) : z.pc ≤ pc := X_.2.2.2.2.2.2.2.1
theorem DR.pb {h : PH} {u : MS} {G : Gh} {z : Sz} {w : Nat} {L : Nat} {n : Nat} {D : Nat → Nat × Nat × Nat × List Nat} {pc : Nat} {B : Nat} (X_ : DR h u G z w L n D pc B) : pc ≤ z.pc + B := X_.2.2.2.2.2.2.2.2.1
theorem DR.zb {h : PH} {u : MS} {G : Gh} {z : Sz} {w : Nat} {L : Nat} {n : Nat} {D : Nat → Nat × Nat × Nat × List Nat} {pc : Nat} {B : Nat} (X_ : DR h u G z w L n D pc B) : z.pc ≤ 37700 := X_.2.2.2.2.2.2.2.2.2
theorem DR.mk {h : PH} {u : MS} {G : Gh} {z : Sz} {w : Nat} {L : Nat} {n : Nat} {D : Nat → Nat × Nat × Nat × List Nat} {pc : Nat} {B : Nat} (d_ : DX h u G z L n D pc) (s8_ : ∃ s, s ≤ 12 ∧ hI h 897 8 = nI s) (s10_ : ∃ s, s ≤ 4 ∧ hI h 897 10 = nI s) (m65_ : mI u 65 = nI w) (w3_ : w < 30) (wG_ : w < G.nr) (hw_ : z.nr ≤ w) (zp_ : z.pc ≤ pc) (pb_ : pc ≤ z.pc + B) (zb_ : z.pc ≤ 37700) : DR h u G z w L n D pc B := ⟨d_, s8_, s10_, m65_, w3_, wG_, hw_, zp_, pb_, zb_⟩
/-- what a stopped piece of a rule changes: objects of the rule, the program; the reference's rows of it -/
def DD (h : PH) (u : MS) (h' : PH) (u' : MS) (G : Gh) (G' : Gh) (z : Sz) (w : Nat) : Prop := (∀ zz : Sz, zz.nr ≤ w → zz.nr ≤ G.nr → zz.pc ≤ z.pc → CD h h' G G' zz) ∧ (∀ zz : Sz, zz.nr ≤ w → zz.rc ≤ z.rc → MD u u' zz) ∧ (hN h G.pg ≤ 131072 → hN h' G'.pg ≤ 131072) ∧ (∀ b, b = 6 ∨ b = 8 ∨ b = 10 → hI h' 897 b = hI h 897 b) ∧ (∀ f, f < 520 → f ≠ 516 → hI h' f 23 = hI h f 23) ∧ (∀ k, ¬ ((11 ≤ k ∧ k ≤ 16) ∨ k = 24 ∨ (66 ≤ k ∧ k ≤ 70)) → mI u' k = mI u k) ∧ (G'.nr = G.nr) ∧ (G'.rl = G.rl) ∧ (G'.hd = G.hd)
theorem DD.cd {h : PH} {u : MS} {h' : PH} {u' : MS} {G : Gh} {G' : Gh} {z : Sz} {w : Nat} (X_ : DD h u h' u' G G' z w) : ∀ zz : Sz, zz.nr ≤ w → zz.nr ≤ G.nr → zz.pc ≤ z.pc → CD h h' G G' zz := X_.1
theorem DD.md {h : PH} {u : MS} {h' : PH} {u' : MS} {G : Gh} {G' : Gh} {z : Sz} {w : Nat} (X_ : DD h u h' u' G G' z w) : ∀ zz : Sz, zz.nr ≤ w → zz.rc ≤ z.rc → MD u u' zz := X_.2.1
theorem DD.pm {h : PH} {u : MS} {h' : PH} {u' : MS} {G : Gh} {G' : Gh} {z : Sz} {w : Nat} (X_ : DD h u h' u' G G' z w) : hN h G.pg ≤ 131072 → hN h' G'.pg ≤ 131072 := X_.2.2.1
theorem DD.I {h : PH} {u : MS} {h' : PH} {u' : MS} {G : Gh} {G' : Gh} {z : Sz} {w : Nat} (X_ : DD h u h' u' G G' z w) : ∀ b, b = 6 ∨ b = 8 ∨ b = 10 → hI h' 897 b = hI h 897 b := X_.2.2.2.1
theorem DD.g {h : PH} {u : MS} {h' : PH} {u' : MS} {G : Gh} {G' : Gh} {z : Sz} {w : Nat} (X_ : DD h u h' u' G G' z w) : ∀ f, f < 520 → f ≠ 516 → hI h' f 23 = hI h f 23 := X_.2.2.2.2.1
theorem DD.mi {h : PH} {u : MS} {h' : PH} {u' : MS} {G : Gh} {G' : Gh} {z : Sz} {w : Nat} (X_ : DD h u h' u' G G' z w) : ∀ k, ¬ ((11 ≤ k ∧ k ≤ 16) ∨ k = 24 ∨ (66 ≤ k ∧ k ≤ 70)) → mI u' k = mI u k := X_.2.2.2.2.2.1
theorem DD.nr {h : PH} {u : MS} {h' : PH} {u' : MS} {G : Gh} {G' : Gh} {z : Sz} {w : Nat} (X_ : DD h u h' u' G G' z w) : G'.nr = G.nr := X_.2.2.2.2.2.2.1
theorem DD.rl {h : PH} {u : MS} {h' : PH} {u' : MS} {G : Gh} {G' : Gh} {z : Sz} {w : Nat} (X_ : DD h u h' u' G G' z w) : G'.rl = G.rl := X_.2.2.2.2.2.2.2.1
theorem DD.hd {h : PH} {u : MS} {h' : PH} {u' : MS} {G : Gh} {G' : Gh} {z : Sz} {w : Nat} (X_ : DD h u h' u' G G' z w) : G'.hd = G.hd := X_.2.2.2.2.2.2.2.2
theorem DD.mk {h : PH} {u : MS} {h' : PH} {u' : MS} {G : Gh} {G' : Gh} {z : Sz} {w : Nat} (cd_ : ∀ zz : Sz, zz.nr ≤ w → zz.nr ≤ G.nr → zz.pc ≤ z.pc → CD h h' G G' zz) (md_ : ∀ zz : Sz, zz.nr ≤ w → zz.rc ≤ z.rc → MD u u' zz) (pm_ : hN h G.pg ≤ 131072 → hN h' G'.pg ≤ 131072) (I_ : ∀ b, b = 6 ∨ b = 8 ∨ b = 10 → hI h' 897 b = hI h 897 b) (g_ : ∀ f, f < 520 → f ≠ 516 → hI h' f 23 = hI h f 23) (mi_ : ∀ k, ¬ ((11 ≤ k ∧ k ≤ 16) ∨ k = 24 ∨ (66 ≤ k ∧ k ≤ 70)) → mI u' k = mI u k) (nr_ : G'.nr = G.nr) (rl_ : G'.rl = G.rl) (hd_ : G'.hd = G.hd) : DD h u h' u' G G' z w := ⟨cd_, md_, pm_, I_, g_, mi_, nr_, rl_, hd_⟩
theorem DD.trans {h h1 h2 : PH} {u u1 u2 : MS} {G G1 G2 : Gh} {z : Sz} {w : Nat} (X : DD h u h1 u1 G G1 z w) (Y : DD h1 u1 h2 u2 G1 G2 z w) : DD h u h2 u2 G G2 z w := ⟨fun zz a b c => CD.trans b (X.cd zz a b c) (Y.cd zz a (by rw [X.nr]; exact b) c), fun zz a b => (X.md zz a b).trans (Y.md zz a b), fun q => Y.pm (X.pm q), fun b q => (Y.I b q).trans (X.I b q), fun f a b => (Y.g f a b).trans (X.g f a b), fun k q => (Y.mi k q).trans (X.mi k q), Y.nr.trans X.nr, Y.rl.trans X.rl, Y.hd.trans X.hd⟩
section DR
variable {h h' : PH} {u u' : MS} {G G' : Gh} {z c : Sz} {w v v' L n t t' pc rc pc' rc' y kc k a B : Nat} {D : Nat → Nat × Nat × Nat × List Nat}
theorem OB.ne (o : OB G w a) (hw : w < 30) {b x : Nat} (hb : G.ow b = x) (h1 : x < 330000 ∨ 350000 ≤ x) : b ≠ a := by
  rcases o with o | ⟨j, _, o⟩
  · exact ne_ow hb o (by omega)
  · exact ne_ow hb o (by omega)
theorem RD.dd (S : SX h G) (R : RD h u h' u' G G' w a pc rc) (oa : a = 23 ∨ OB G w a) (w3 : w < 30) (zp : z.pc ≤ pc) (zr : z.rc ≤ rc) : DD h u h' u' G G' z w := by
  have na : ∀ b x, G.ow b = x → 800000 ≤ x → b ≠ a := fun b x e hx => by
    rcases oa with o | o
    · rw [o]; exact ne_ow e S.o23 (by omega)
    · exact o.ne w3 e (by omega)
  refine ⟨fun zz a b c => R.cd zz a b (by omega), fun zz a b => R.md zz a (by omega), R.pm, fun b q => ?_, R.g, R.mi, R.ge.2.2.2.2.1, R.ge.1, R.ge.2.2.1⟩
  rcases q with q | q | q <;> subst q
  · exact R.I _ _ (by omega) (na _ _ S.o6 (by omega)) (by omega)
  · exact R.I _ _ (by omega) (na _ _ S.o8 (by omega)) (by omega)
  · exact R.I _ _ (by omega) (na _ _ S.o10 (by omega)) (by omega)
theorem RMs.dd (S : SX h G) (M : RMs u u' w k) : DD h u h u' G G z w := ⟨fun zz _ _ _ => CD.refl S zz, fun zz a _ => M.md zz a, fun q => q, fun _ _ => rfl, fun _ _ _ => rfl, fun _ _ => by rw [M.I], rfl, rfl, rfl⟩
theorem DD.of41 (S : SX h G) (x : Int32) : DD h u h (mSA u 41 w x) G G z w := ⟨fun zz _ _ _ => CD.refl S zz, fun zz a _ => (MD.refl u zz).sA (by omega) (by unfold kM; omega), fun q => q, fun _ _ => rfl, fun _ _ _ => rfl, fun _ _ => rfl, rfl, rfl, rfl⟩
theorem DR.dd (X : DR h u G z w L n D pc B) (R : DD h u h' u' G G' z w) (Y : Ded h' u') (sz' : hI h' 142 5 = nI pc') (hp' : pc' ≤ hN h' G'.pg) (h1 : pc ≤ pc') {B' : Nat} (h2 : pc' ≤ z.pc + B') : DR h' u' G' z w L n D pc' B' := by
  obtain ⟨s6, a1, a2⟩ := X.d.s6
  obtain ⟨s8, b1, b2⟩ := X.s8
  obtain ⟨s10, c1, c2⟩ := X.s10
  exact ⟨⟨X.d.i.d (R.cd z X.hw X.d.i.kr.nrG (Nat.le_refl _)) (R.md z X.hw (Nat.le_refl _)) (R.pm X.d.i.rm.p3), Y, ⟨s6, a1, (R.I 6 (by omega)).trans a2⟩, sz', hp'⟩, ⟨s8, b1, (R.I 8 (by omega)).trans b2⟩, ⟨s10, c1, (R.I 10 (by omega)).trans c2⟩, (R.mi 65 (by omega)).trans X.m65, X.w3, by rw [R.nr]; exact X.wG, X.hw, by have := X.zp; omega, h2, X.zb⟩
theorem RX.dr (X : RX h u G z c w v L n D t pc rc y kc k) (R : DD h u h' u' G G' z w) (Y : Ded h' u') (sz' : hI h' 142 5 = nI pc') (hp' : pc' ≤ hN h' G'.pg) (h1 : pc ≤ pc') (h2 : pc' ≤ z.pc + B) : DR h' u' G' z w L n D pc' B := by
  obtain ⟨q1, q2, q3⟩ := X.zs
  exact ⟨⟨X.i.d (R.cd z q1 X.i.kr.nrG (Nat.le_refl _)) (R.md z q1 (Nat.le_refl _)) (R.pm X.i.rm.p3), Y, ⟨c.np, X.ok.1, (R.I 6 (by omega)).trans X.zc.1⟩, sz', hp'⟩, ⟨c.nw, X.ok.2.1, (R.I 8 (by omega)).trans X.zc.2.1⟩, ⟨c.ns, X.ok.2.2.1, (R.I 10 (by omega)).trans X.zc.2.2.1⟩, (R.mi 65 (by omega)).trans X.K.m65, X.K.w3, by rw [R.nr]; exact X.wG, q1, by omega, h2, X.bp.1⟩
/-- a condition told by both -/
theorem RX.done (X : RX h u G z c w v L n D t pc rc y (k + 1) k) (cd : mI u 15 = 0 → CdR h u G (c.wC pc rc) v (G.cd w k) (6 * w + k)) : RX h (mSA u 41 w (nI (k + 1))) G z c w v L n D t pc rc y (k + 1) (k + 1) := by
  have S := X.i.sx
  obtain ⟨q1, q2, q3⟩ := X.zs
  have wc := X.wc
  have l1 := X.l1
  have md : ∀ zz : Sz, zz.nr ≤ w → MD u (mSA u 41 w (nI (k + 1))) zz := fun zz hz => (MD.refl u zz).sA (by omega) (by unfold kM; omega)
  have ma : ∀ j i, j ≠ 41 → mA (mSA u 41 w (nI (k + 1))) j i = mA u j i := fun j i hj => by simp only [z_mI_mSI, z_mL_mSI, z_mA_mSI, z_mB_mSI, z_mI_mSL, z_mL_mSL, z_mA_mSL, z_mB_mSL, z_mI_mSA, z_mL_mSA, z_mA_mSA, z_mB_mSA, z_mI_mSB, z_mL_mSB, z_mA_mSB, z_mB_mSB]; rw [if_neg (fun e => hj e.1)]
  refine RX.mk (X.i.d (CD.refl S z) (md z q1) X.i.rm.p3) (X.V.fr (fun _ _ => rfl) rfl rfl rfl) (X.F.fr rfl rfl rfl rfl) ⟨X.K.v3, X.K.w3, X.K.vc, X.K.m65, (ma 42 w (by omega)).trans X.K.m42, fun i hi => by rw [ma 43 _ (by omega)]; exact X.K.vl i hi⟩ X.le X.ok wc X.wG l1 X.zc X.sz X.zm X.m24 X.o1 X.o2 (fun i hi => ?_) ?_ X.nm X.p0 X.r0 X.b1 X.b2 X.hp ⟨X.lw.1, (ma 39 w (by omega)).trans X.lw.2⟩ X.y2 ⟨X.kd.1, (ma 40 w (by omega)).trans X.kd.2⟩ X.n1 (by simp only [z_mI_mSI, z_mL_mSI, z_mA_mSI, z_mB_mSI, z_mI_mSL, z_mL_mSL, z_mA_mSL, z_mB_mSL, z_mI_mSA, z_mL_mSA, z_mA_mSA, z_mB_mSA, z_mI_mSB, z_mL_mSB, z_mA_mSB, z_mB_mSB, if_true, if_false, and_false, false_and, and_true, true_and, and_self, decide_true, decide_false, reduceCtorEq, not_false_eq_true, not_true_eq_false, Nat.reduceEqDiff, Nat.reduceAdd, Nat.reduceMul, Nat.add_zero, Nat.zero_add]) X.k6 X.kn (Nat.le_refl _) (fun e i hi => ?_)
  · obtain ⟨k, b1, b2, b3, b4, b5, b6⟩ := X.ot i hi
    exact ⟨k, b1, b2, b3, b4, (ma 64 _ (by omega)).trans b5, (ma 64 _ (by omega)).trans b6⟩
  · exact X.ct.d (t' := t) X.F (CD.refl S c) ((md c (by omega)).inL' (by omega)) (FM.refl _) (Nat.le_refl _)
  · have : CdR h u G (c.wC pc rc) v (G.cd w i) (6 * w + i) := by
      by_cases q : i = k
      · rw [q]; exact cd e
      · exact X.cs e i (by omega)
    exact this.x (c := c.wC pc rc) (c' := c.wC pc rc) (fun _ => rfl) (fun j h1 h2 => ma j _ (by omega)) (fun j _ => ma 28 j (by omega)) (fun _ _ => rfl) (fun j i h1 h2 h3 => ma j i (by omega)) (Sz.le_refl _) (Nat.le_refl _)
theorem RX.ofx {p : Nat} (X : RX h u G z c w v L n D t pc rc y kc k) (R : RD h u h' u' G G' w 23 pc rc) (Y : FX h' u' G' z w v' L n D t' p pc' rc' 0 0 []) (fm : FM u u') (hv : v ≤ v') (ht : t ≤ t') (hp : pc ≤ pc') (hr : rc ≤ rc') : RX h' u' G' z c w v' L n D t' pc' rc' y kc k := X.rd R (.inl rfl) Y.V Y.F fm Y.K hv ht hp hr Y.sz Y.m24 Y.hp Y.b1 Y.b2
theorem t356_v (m65 : mI u 65 = nI w) (w3 : w < 30) : fX12_tellCond_356 u = some (mSA u 41 w (mA u 41 w + 1)) := by
  unfold fX12_tellCond_356
  rw [m65, oC_t (ix_n (show w < mlen 41 from w3) (by decide)), oC_t (ix_n (show w < mlen 41 from w3) (by decide)), oL_v, nI_clamp (show w < 2147483648 by omega)]
/-- the class's rest of a condition -/
def fbody (k71 : PH → Nat → Int32 → Option Nat → Int32 → Int32 → Option (PH × Nat × Nat)) (h : PH) (x1 : Int32) (x2 : Option Nat) (x4 : Int32) : Option (PH × Nat × Nat) := oB4 (fX4_startCondition h 23 x2) (fun h41 r40 i42 j43 => oK3 i42 j43 (if r40 = none then (some (h41, 0, 0)) else (oC (decide (hT h41 23 = 5)) (oL (hI h41 521 23) (fun y48 => if y48 = 314 then (fX4_tellRule_133 k71 h41 23 x1 x2 x4 r40) else (if y48 = 315 then (fX4_tellRule_133 k71 h41 23 x1 x2 x4 r40) else (if y48 = 316 then (oB3 (fX4_comparison h41 23 r40) (fun h53 i54 j55 => oK3 i54 j55 (fX4_tellRule_148 k71 h53 23 x1 x2 x4))) else (oB (fX4_literal h41 23 r40) (fun h59 => fX4_tellRule_148 k71 h59 23 x1 x2 x4)))))))))
/-- what a condition comes to -/
def CO (h : PH) (u : MS) (G : Gh) (z c : Sz) (w v L n : Nat) (D : Nat → Nat × Nat × Nat × List Nat) (t pc rc y k : Nat) : Prop := ∃ h' G' ci cj u', fX12_tellCond u = some u' ∧ RCx h h' G G' ci cj 1 8 ∧ G'.rl = G.rl ∧ (∀ f, f < 520 → f ≠ 516 → hI h' f 23 = hI h f 23) ∧ ((∃ t' v' pc' rc', (∀ k71 x1 x4, fbody k71 h x1 (some (G.rl w)) x4 = oK3 ci cj (fX4_tellRule_148 k71 h' 23 x1 (some (G.rl w)) x4)) ∧ t < t' ∧ v ≤ v' ∧ pc ≤ pc' ∧ rc ≤ rc' ∧ RX h' u' G' z c w v' L n D t' pc' rc' y (k + 1) (k + 1) ∧ FM u u') ∨ (∃ pc', DR h' u' G' z w L n D pc' 1240 ∧ ((∀ k71 x1 x4, fbody k71 h x1 (some (G.rl w)) x4 = oK3 ci cj (fX4_tellRule_148 k71 h' 23 x1 (some (G.rl w)) x4)) ∨ ∀ k71 x1 x4, fbody k71 h x1 (some (G.rl w)) x4 = some (h', ci, cj))))
/-- a condition begins with a name, not, same, other, if -/
def cBg (k : Nat) : Prop := k = 1 ∨ k = 35 ∨ k = 32 ∨ k = 33 ∨ k = 34
theorem start_y (X : RX h u G z c w v L n D t pc rc y k k) (b : cBg (D t).2.1) (h6 : k < 6) : ∃ h' G' i j, fX4_startCondition h 23 (some (G.rl w)) = some (h', some (G'.cd w k), i, j) ∧ RCx h h' G G' i j 1 8 ∧ RX h' u G' z c w v L n D t pc rc y (k + 1) k ∧ (∀ f, hI h' f 23 = hI h f 23) ∧ G'.rl = G.rl ∧ hT h' (G'.cd w k) = 3 ∧ G'.ow (G'.cd w k) = 340000 + 10 * w + k := by
  have S := X.i.sx
  obtain ⟨h1, G1, i1, j1, e, C, X1, a1, _, a3, a4, a5⟩ := newCond_v X rfl h6
  have t9 := S.rlT w X.wG
  refine ⟨h1, G1, i1 + 0, j1 + 0, ?_, C, X1, a1, a3, a4, a5⟩
  have kd : hI h 521 23 = cK (D t).2.1 := X.V.kd
  unfold fX4_startCondition fX4_startCondition_0
  rw [oC_d S.t23, oL_v, kd]
  rcases b with q | q | q | q | q <;> rw [q]
  · rw [if_pos (show cK 1 = 260 from rfl), oN_v, oC_d t9, e, oB4_v, if_neg (by simp), oK4_v]
  · rw [if_neg (show ¬ cK 35 = 260 by decide), if_neg (show ¬ cK 35 = 314 by decide), if_neg (show ¬ cK 35 = 315 by decide), if_neg (show ¬ cK 35 = 316 by decide), if_pos (show cK 35 = 317 from rfl), oN_v, oC_d t9, e, oB4_v, if_neg (by simp), oK4_v]
  · rw [if_neg (show ¬ cK 32 = 260 by decide), if_pos (show cK 32 = 314 from rfl), oN_v, oC_d t9, e, oB4_v, if_neg (by simp), oK4_v]
  · rw [if_neg (show ¬ cK 33 = 260 by decide), if_neg (show ¬ cK 33 = 314 by decide), if_pos (show cK 33 = 315 from rfl), oN_v, oC_d t9, e, oB4_v, if_neg (by simp), oK4_v]
  · rw [if_neg (show ¬ cK 34 = 260 by decide), if_neg (show ¬ cK 34 = 314 by decide), if_neg (show ¬ cK 34 = 315 by decide), if_pos (show cK 34 = 316 from rfl), oN_v, oC_d t9, e, oB4_v, if_neg (by simp), oK4_v]
end DR
