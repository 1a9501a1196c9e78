-- needs: 63 70 71
/-! frames: what agrees of two heaps, of two states -/
theorem ifn1 {p q : Prop} {_ : Decidable (p ∧ q)} {α : Type} {a b : α} (h : ¬ p) : (if p ∧ q then a else b) = b := if_neg (fun z => h z.1)
theorem ifn2 {p q : Prop} {_ : Decidable (p ∧ q)} {α : Type} {a b : α} (h : ¬ q) : (if p ∧ q then a else b) = b := if_neg (fun z => h z.2)
theorem neP {P : Nat → Prop} {x a : Nat} (n : ¬ P a) (hx : P x) : ¬ x = a := fun z => n (z ▸ hx)
def Ag (P : Nat → Prop) (h h' : PH) : Prop := ∀ a, P a → (∀ f, hI h' f a = hI h f a) ∧ (∀ f, hL h' f a = hL h f a) ∧ (∀ i, hA h' a i = hA h a i) ∧ ∀ i, hB h' a i = hB h a i
def MAg (P : Nat → Prop) (u u' : MS) : Prop := ∀ k, P k → mI u' k = mI u k ∧ mL u' k = mL u k ∧ (∀ i, mA u' k i = mA u k i) ∧ ∀ i, mB u' k i = mB u k i
def gr (Z : Nat) (G : Gh) (n a : Nat) : Prop := a < Z ∧ G.ow a / 100000 = n
theorem Ag.refl {P : Nat → Prop} (h : PH) : Ag P h h := fun _ _ => ⟨fun _ => rfl, fun _ => rfl, fun _ => rfl, fun _ => rfl⟩
theorem Ag.trans {P : Nat → Prop} {h h1 h2 : PH} (a : Ag P h h1) (b : Ag P h1 h2) : Ag P h h2 := fun x hx => ⟨fun f => ((b x hx).1 f).trans ((a x hx).1 f), fun f => ((b x hx).2.1 f).trans ((a x hx).2.1 f), fun f => ((b x hx).2.2.1 f).trans ((a x hx).2.2.1 f), fun f => ((b x hx).2.2.2 f).trans ((a x hx).2.2.2 f)⟩
theorem Ag.mono {P Q : Nat → Prop} {h h' : PH} (a : Ag P h h') (k : ∀ x, Q x → P x) : Ag Q h h' := fun x hx => a x (k x hx)
theorem Ag.sI {P : Nat → Prop} {h h' : PH} (g : Ag P h h') {f a : Nat} {v : Int32} (n : ¬ P a) : Ag P h (sI h' f a v) := fun x hx => ⟨fun q => (by rw [z_hI_sI, ifn2 (neP n hx), (g x hx).1 q]), (g x hx).2.1, (g x hx).2.2.1, (g x hx).2.2.2⟩
theorem Ag.sL {P : Nat → Prop} {h h' : PH} (g : Ag P h h') {f a : Nat} {v : Int64} (n : ¬ P a) : Ag P h (sL h' f a v) := fun x hx => ⟨(g x hx).1, fun q => (by rw [z_hL_sL, ifn2 (neP n hx), (g x hx).2.1 q]), (g x hx).2.2.1, (g x hx).2.2.2⟩
theorem Ag.sA {P : Nat → Prop} {h h' : PH} (g : Ag P h h') {a i : Nat} {v : Int32} (n : ¬ P a) : Ag P h (sA h' a i v) := fun x hx => ⟨(g x hx).1, (g x hx).2.1, fun q => (by rw [z_hA_sA, ifn1 (neP n hx), (g x hx).2.2.1 q]), (g x hx).2.2.2⟩
theorem Ag.sB {P : Nat → Prop} {h h' : PH} (g : Ag P h h') {a i : Nat} {v : Int64} (n : ¬ P a) : Ag P h (sB h' a i v) := fun x hx => ⟨(g x hx).1, (g x hx).2.1, (g x hx).2.2.1, fun q => (by rw [z_hB_sB, ifn1 (neP n hx), (g x hx).2.2.2 q])⟩
theorem Ag.sR {P : Nat → Prop} {h h' : PH} (g : Ag P h h') {f a : Nat} {v : Option Nat} : Ag P h (sR h' f a v) := g
theorem Ag.sC {P : Nat → Prop} {h h' : PH} (g : Ag P h h') {f a : Nat} {v : Option Nat} : Ag P h (sC h' f a v) := g
theorem Ag.nO {P : Nat → Prop} {h h' : PH} (g : Ag P h h') {t : Nat} (n : ¬ P (hZ h')) : Ag P h (nO h' t) := fun x hx => by
  have e : x ≠ hZ h' := fun q => n (q ▸ hx)
  exact ⟨fun q => by rw [z_hI_nO, if_neg e, (g x hx).1 q], fun q => by rw [z_hL_nO, if_neg e, (g x hx).2.1 q], (g x hx).2.2.1, (g x hx).2.2.2⟩
theorem Ag.nA {P : Nat → Prop} {h h' : PH} (g : Ag P h h') {t m : Nat} (n : ¬ P (hZ h')) : Ag P h (nA h' t m) := fun x hx => by
  have e : x ≠ hZ h' := fun q => n (q ▸ hx)
  exact ⟨(g x hx).1, (g x hx).2.1, fun q => by rw [z_hA_nA, if_neg e, (g x hx).2.2.1 q], fun q => by rw [z_hB_nA, if_neg e, (g x hx).2.2.2 q]⟩
theorem Ag.sY {P : Nat → Prop} {h h' : PH} (g : Ag P h h') {d s m : Nat} (n : ¬ P d) : Ag P h (sY h' d s m) := fun x hx => by
  exact ⟨(g x hx).1, (g x hx).2.1, fun q => by rw [z_hA_sY, ifn1 (neP n hx), (g x hx).2.2.1 q], (g x hx).2.2.2⟩
theorem MAg.refl {P : Nat → Prop} (u : MS) : MAg P u u := fun _ _ => ⟨rfl, rfl, fun _ => rfl, fun _ => rfl⟩
theorem MAg.trans {P : Nat → Prop} {u u1 u2 : MS} (a : MAg P u u1) (b : MAg P u1 u2) : MAg P u u2 := fun x hx => ⟨((b x hx).1).trans ((a x hx).1), ((b x hx).2.1).trans ((a x hx).2.1), fun f => ((b x hx).2.2.1 f).trans ((a x hx).2.2.1 f), fun f => ((b x hx).2.2.2 f).trans ((a x hx).2.2.2 f)⟩
theorem MAg.mono {P Q : Nat → Prop} {u u' : MS} (a : MAg P u u') (k : ∀ x, Q x → P x) : MAg Q u u' := fun x hx => a x (k x hx)
theorem MAg.sI {P : Nat → Prop} {u u' : MS} (g : MAg P u u') {k : Nat} {v : Int32} (n : ¬ P k) : MAg P u (mSI u' k v) := fun x hx => ⟨by rw [z_mI_mSI, if_neg (neP n hx), (g x hx).1], (g x hx).2⟩
theorem MAg.sL {P : Nat → Prop} {u u' : MS} (g : MAg P u u') {k : Nat} {v : Int64} (n : ¬ P k) : MAg P u (mSL u' k v) := fun x hx => ⟨(g x hx).1, by rw [z_mL_mSL, if_neg (neP n hx), (g x hx).2.1], (g x hx).2.2⟩
theorem MAg.sA {P : Nat → Prop} {u u' : MS} (g : MAg P u u') {k i : Nat} {v : Int32} (n : ¬ P k) : MAg P u (mSA u' k i v) := fun x hx => ⟨(g x hx).1, (g x hx).2.1, fun q => by rw [z_mA_mSA, ifn1 (neP n hx), (g x hx).2.2.1], (g x hx).2.2.2⟩
theorem MAg.sB {P : Nat → Prop} {u u' : MS} (g : MAg P u u') {k i : Nat} {v : Int64} (n : ¬ P k) : MAg P u (mSB u' k i v) := fun x hx => ⟨(g x hx).1, (g x hx).2.1, (g x hx).2.2.1, fun q => by rw [z_mB_mSB, ifn1 (neP n hx), (g x hx).2.2.2]⟩
/-- what the tables read of the reference -/
def kS (k : Nat) : Prop := 25 ≤ k ∧ k ≤ 62 ∧ k ≠ 26
theorem PgR.fr {h h' : PH} {u u' : MS} {G : Gh} {z : Sz} {nv : Nat} {a b c d : Int32} (eA : ∀ i, hA h' G.pg i = hA h G.pg i) (M : MAg kS u u') (p : PgR h u G z nv a b c d) : PgR h' u' G z nv a b c d := by
  have m0 : ∀ i, mA u' 60 i = mA u 60 i := (M 60 (by unfold kS; omega)).2.2.1
  have m1 : ∀ i, mA u' 61 i = mA u 61 i := (M 61 (by unfold kS; omega)).2.2.1
  have m2 : ∀ i, mA u' 62 i = mA u 62 i := (M 62 (by unfold kS; omega)).2.2.1
  unfold PgR at *
  simp only [eA, m0, m1, m2]
  exact p
theorem LtR.fr {u u' : MS} {z : Sz} {nv : Nat} {s o f g s' o' f' g' : Int32} (m : ∀ i, mA u' 28 i = mA u 28 i) (p : LtR u z nv s o f g s' o' f' g') : LtR u' z nv s o f g s' o' f' g' := by
  unfold LtR at *
  simp only [m]
  exact p
theorem CdR.fr {h h' : PH} {u u' : MS} {G : Gh} {z : Sz} {nv a i : Nat} (eI : ∀ f, hI h' f a = hI h f a) (eA : ∀ i, hA h' G.pg i = hA h G.pg i) (M : MAg kS u u') (p : CdR h u G z nv a i) : CdR h' u' G z nv a i := by
  have m : ∀ k, 51 ≤ k → k ≤ 59 → ∀ i, mA u' k i = mA u k i := fun k h1 h2 => (M k (by unfold kS; omega)).2.2.1
  unfold CdR at *
  simp only [eI, m 51 (by omega) (by omega), m 52 (by omega) (by omega), m 53 (by omega) (by omega), m 54 (by omega) (by omega), m 55 (by omega) (by omega), m 56 (by omega) (by omega), m 57 (by omega) (by omega), m 58 (by omega) (by omega), m 59 (by omega) (by omega)]
  rcases p with ⟨p1, p2, p3⟩ | p | p | ⟨p1, p2, p3, p4⟩
  · exact .inl ⟨p1, p2, p3.fr (M 28 (by unfold kS; omega)).2.2.1⟩
  · exact .inr (.inl p)
  · exact .inr (.inr (.inl p))
  · exact .inr (.inr (.inr ⟨p1, p2, p3.fr eA M, p4.fr eA M⟩))
theorem HdR.fr {h h' : PH} {u u' : MS} {G : Gh} {z : Sz} {nv a i : Nat} (eI : ∀ f, hI h' f a = hI h f a) (eA : ∀ i, hA h' G.pg i = hA h G.pg i) (M : MAg kS u u') (p : HdR h u G z nv a i) : HdR h' u' G z nv a i := by
  have m : ∀ k, 38 ≤ k → k ≤ 59 → ∀ i, mA u' k i = mA u k i := fun k h1 h2 => (M k (by unfold kS; omega)).2.2.1
  unfold HdR at *
  simp only [eI, m 40 (by omega) (by omega), m 44 (by omega) (by omega), m 45 (by omega) (by omega), m 46 (by omega) (by omega), m 47 (by omega) (by omega), m 48 (by omega) (by omega), m 49 (by omega) (by omega), m 50 (by omega) (by omega)]
  rcases p with ⟨p1, p2⟩ | ⟨p1, p2, p3, p4, p5, p6, p7⟩
  · exact .inl ⟨p1, p2.fr (M 28 (by unfold kS; omega)).2.2.1⟩
  · exact .inr ⟨p1, p2, p3, p4, p5, p6, p7.fr eA M⟩
theorem RuR.fr {h h' : PH} {u u' : MS} {G : Gh} {z : Sz} {r : Nat} (S : SX h G) (hr : r < G.nr) (A : Ag (gr (hZ h) G 3) h h') (M : MAg kS u u') (p : RuR h u G z r) : RuR h' u' G z r := by
  have m : ∀ k, 38 ≤ k → k ≤ 59 → ∀ i, mA u' k i = mA u k i := fun k h1 h2 => (M k (by unfold kS; omega)).2.2.1
  have r30 := S.nr30
  have eR := (A (G.rl r) ⟨lt_T S.fr (S.rlT r hr) (by omega), by rw [S.rlo r hr]; omega⟩).1
  have eA := (A G.pg ⟨lt_T S.fr S.tpg (by omega), by rw [S.opg]⟩).2.2.1
  obtain ⟨l, k, n, v, h1, h2, h3, h4, h5, h6, h7, h8, h9, ha, hb, hc, hd, he, hf⟩ := p
  refine ⟨l, k, n, v, h1, h2, h3, h4, h5, ?_⟩
  simp only [eR, m 39 (by omega) (by omega), m 40 (by omega) (by omega), m 41 (by omega) (by omega), m 42 (by omega) (by omega)]
  refine ⟨h6, h7, h8, h9, ha, hb, hc, hd, he.fr (A (G.hd r) ⟨lt_T S.fr (S.hdT r hr) (by omega), by rw [S.hdo r hr]; omega⟩).1 eA M, fun i hi => (hf i hi).fr (A (G.cd r i) ⟨lt_T S.fr (S.cdT r hr i (by omega)) (by omega), by have := S.nc6 r hr; rw [S.cdo r hr i (by omega)]; omega⟩).1 eA M⟩
theorem KR.fr {h h' : PH} {u u' : MS} {G : Gh} {z : Sz} (S : SX h G) (A : Ag (gr (hZ h) G 3) h h') (M : MAg kS u u') (K : KR h u G z) : KR h' u' G z := by
  have mB_ : ∀ k, kS k → ∀ i, mB u' k i = mB u k i := fun k h1 => (M k h1).2.2.2
  have mA_ : ∀ k, kS k → ∀ i, mA u' k i = mA u k i := fun k h1 => (M k h1).2.2.1
  have g7 := (A 7 ⟨Nat.lt_of_lt_of_le (by decide) S.zz, by rw [S.o7]⟩).2.2.2
  have g9 := (A 9 ⟨Nat.lt_of_lt_of_le (by decide) S.zz, by rw [S.o9]⟩).2.2.2
  have g11 := (A 11 ⟨Nat.lt_of_lt_of_le (by decide) S.zz, by rw [S.o11]⟩).2.2.2
  have g13 := (A 13 ⟨Nat.lt_of_lt_of_le (by decide) S.zz, by rw [S.o13]⟩).2.2.2
  have g15 := (A 15 ⟨Nat.lt_of_lt_of_le (by decide) S.zz, by rw [S.o15]⟩).2.2.2
  have g16 := (A 16 ⟨Nat.lt_of_lt_of_le (by decide) S.zz, by rw [S.o16]⟩).2.2.1
  have g18 := (A 18 ⟨Nat.lt_of_lt_of_le (by decide) S.zz, by rw [S.o18]⟩).2.2.1
  have g20 := (A 20 ⟨Nat.lt_of_lt_of_le (by decide) S.zz, by rw [S.o20]⟩).2.2.1
  have g21 := (A 21 ⟨Nat.lt_of_lt_of_le (by decide) S.zz, by rw [S.o21]⟩).2.2.1
  apply KR.mk
  · exact K.nrG
  · intro i hi; rw [g7, mB_ 25 (by unfold kS; omega)]; exact K.pn i hi
  · intro i hi; rw [g9, mB_ 27 (by unfold kS; omega)]; exact K.wn i hi
  · intro i hi; rw [g16, mA_ 28 (by unfold kS; omega)]; exact K.pl i hi
  · intro i hi; rw [g11, mB_ 29 (by unfold kS; omega)]; exact K.sn i hi
  · intro i hi; rw [g18, g18, g18, g18, g18, mA_ 31 (by unfold kS; omega), mA_ 32 (by unfold kS; omega), mA_ 33 (by unfold kS; omega), mA_ 34 (by unfold kS; omega), mA_ 35 (by unfold kS; omega)]; exact K.lw i hi
  · intro i hi; rw [g15, mB_ 38 (by unfold kS; omega)]; exact K.rn i hi
  · intro i hi; exact (K.ru i hi).fr S (by have := K.nrG; omega) A M
  · intro i hi; rw [g20, g21, mA_ 36 (by unfold kS; omega), mA_ 37 (by unfold kS; omega)]; exact K.ov i hi
  · intro i hi; rw [g13, mB_ 30 (by unfold kS; omega)]; exact K.ln i hi
theorem RmR.fr {h h' : PH} {u u' : MS} {G : Gh} {z : Sz} (n : ∀ a, hN h' a = hN h a) (e : ∀ i, hB h' 25 i = hB h 25 i) (m : ∀ i, mB u' 9 i = mB u 9 i) (K : RmR h u G z) : RmR h' u' G z := by
  apply RmR.mk <;> try simp only [n, e, m]
  · exact K.k1
  · exact K.k2
  · exact K.k3
  · exact K.p1
  · exact K.p2
  · exact K.p3
  · exact K.p4
  · exact K.p5
  · exact K.kc
  · exact K.km
theorem TpR.fr {h h' : PH} {u u' : MS} {G : Gh} (n : hN h' G.tk = hN h G.tk) (e : hI h' 1 1 = hI h 1 1) (e' : ∀ i, hA h' G.tk i = hA h G.tk i) (m : mI u' 2 = mI u 2) (m' : ∀ i, mA u' 1 i = mA u 1 i) (K : TpR h u G) : TpR h' u' G := by
  apply TpR.mk <;> try simp only [n, e, e', m, m']
  · exact K.ex
  · exact K.bt
  · exact K.hn
  · exact K.ok
theorem OuR.fr {h h' : PH} {u u' : MS} {G : Gh} (n : hN h' G.wk = hN h G.wk) (e : hI h' 1 3 = hI h 1 3) (e' : ∀ i, hA h' G.wk i = hA h G.wk i) (m : mI u' 113 = mI u 113) (m' : ∀ i, mA u' 114 i = mA u 114 i) (K : OuR h u G) : OuR h' u' G := by
  apply OuR.mk <;> try simp only [n, e, e', m, m']
  · exact K.ex
  · exact K.bt
  · exact K.hn
  · exact K.ok
theorem NuR.fr {h h' : PH} {u u' : MS} {z : Sz} (e : ∀ i, hA h' 17 i = hA h 17 i) (m : ∀ i, mA u' 26 i = mA u 26 i) (K : NuR h u z) : NuR h' u' z := by
  unfold NuR at *
  simp only [e, m]
  exact K
def tS (k : Nat) : Prop := 73 ≤ k ∧ k ≤ 78
theorem isLit_co {p q : Nat → Nat} {nw np x : Nat} (h : ∀ w, w < nw → p w = q w) : isLit p nw np x ↔ isLit q nw np x := by
  unfold isLit
  by_cases c : x / 50 < nw
  · rw [h _ c]
  · simp only [c, false_and]
theorem TeR.fr {h h' : PH} {u u' : MS} {G : Gh} {z : Sz} (S : SX h G) (e0 : hI h' 1413 0 = hI h 1413 0) (A : Ag (gr (hZ h) G 4) h h') (M : MAg tS u u') (m : ∀ i, i < z.nw → mA u' 28 i = mA u 28 i) (K : TeR h u G z) : TeR h' u' G z := by
  have t100 := S.nt100
  have mA_ : ∀ k, tS k → ∀ i, mA u' k i = mA u k i := fun k h1 => (M k h1).2.2.1
  apply TeR.mk
  · rw [e0]; exact K.n1
  · rw [(M 73 (by unfold tS; omega)).1]; exact K.n2
  · intro k hk
    have g := (A (G.te k) ⟨lt_T S.fr (S.teT k hk) (by omega), by rw [S.teo k hk]; omega⟩).1
    obtain ⟨p, w, h1, h2, h3⟩ := K.te k hk
    refine ⟨p, w, h1, (isLit_co (fun w hw => by unfold plN; rw [m w hw])).mp h2, ?_⟩
    simp only [g, mA_ 74 (by unfold tS; omega), mA_ 75 (by unfold tS; omega), mA_ 76 (by unfold tS; omega), mA_ 77 (by unfold tS; omega), mA_ 78 (by unfold tS; omega)]
    exact h3
def jS (k : Nat) : Prop := 96 ≤ k ∧ k ≤ 111
theorem RsR.fr {u u' : MS} {nr jp : Nat} {m x : Int32} {p : Nat} (M : MAg jS u u') (e : ∀ r, r < nr → mA u' 42 r = mA u 42 r) (K : RsR u nr jp m x p) : RsR u' nr jp m x p := by
  unfold RsR at *
  simp only [(M 105 (by unfold jS; omega)).2.2.1, (M 106 (by unfold jS; omega)).2.2.1, (M 107 (by unfold jS; omega)).2.2.1]
  rcases K with K | K | ⟨r, b, hr, K⟩
  · exact .inl K
  · exact .inr (.inl K)
  · refine .inr (.inr ⟨r, b, hr, ?_⟩)
    rw [e r hr]
    exact K
def jP (G : Gh) (a : Nat) : Prop := ∃ i, (i = 0 ∨ i = 10 ∨ i = 11 ∨ i = 18 ∨ i = 19 ∨ i = 20) ∧ a = G.jd i
theorem jd_lt {h : PH} {G : Gh} (J : G.jj = true) (S : SX h G) (i : Nat) (hi : i < 21) : G.jd i < hZ h := by
  rcases (show i = 0 ∨ i = 1 ∨ i = 2 ∨ i = 3 ∨ i = 4 ∨ i = 5 ∨ i = 6 ∨ i = 7 ∨ i = 8 ∨ i = 9 ∨ i = 10 ∨ i = 11 ∨ i = 12 ∨ i = 13 ∨ i = 14 ∨ i = 15 ∨ i = 16 ∨ i = 17 ∨ i = 18 ∨ i = 19 ∨ i = 20 by omega) with q | q | q | q | q | q | q | q | q | q | q | q | q | q | q | q | q | q | q | q | q <;> subst q
  · exact lt_T S.fr (S.jt0 J) (by omega)
  · exact lt_T S.fr (S.jt1 J) (by omega)
  · exact lt_T S.fr (S.jt2 J) (by omega)
  · exact lt_T S.fr (S.jt3 J) (by omega)
  · exact lt_T S.fr (S.jt4 J) (by omega)
  · exact lt_T S.fr (S.jt5 J) (by omega)
  · exact lt_T S.fr (S.jt6 J) (by omega)
  · exact lt_T S.fr (S.jt7 J) (by omega)
  · exact lt_T S.fr (S.jt8 J) (by omega)
  · exact lt_T S.fr (S.jt9 J) (by omega)
  · exact lt_T S.fr (S.jt10 J) (by omega)
  · exact lt_T S.fr (S.jt11 J) (by omega)
  · exact lt_T S.fr (S.jt12 J) (by omega)
  · exact lt_T S.fr (S.jt13 J) (by omega)
  · exact lt_T S.fr (S.jt14 J) (by omega)
  · exact lt_T S.fr (S.jt15 J) (by omega)
  · exact lt_T S.fr (S.jt16 J) (by omega)
  · exact lt_T S.fr (S.jt17 J) (by omega)
  · exact lt_T S.fr (S.jt18 J) (by omega)
  · exact lt_T S.fr (S.jt19 J) (by omega)
  · exact lt_T S.fr (S.jt20 J) (by omega)
theorem jP_gr {h : PH} {G : Gh} (J : G.jj = true) (S : SX h G) {a : Nat} (p : jP G a) : gr (hZ h) G 5 a := by
  obtain ⟨i, hi, e⟩ := p
  refine ⟨?_, by rw [e, S.jo J i (by omega)]; omega⟩
  rw [e]
  exact jd_lt J S i (by omega)
theorem JR.fr {h h' : PH} {u u' : MS} {G : Gh} {z : Sz} {jp jw js : Nat} (A : Ag (jP G) h h') (M : MAg jS u u') (m : ∀ i, i < z.nw → mA u' 28 i = mA u 28 i) (e : ∀ r, r < z.nr → mA u' 42 r = mA u 42 r) (K : JR h u G z jp jw js) : JR h' u' G z jp jw js := by
  have i0 := (A _ ⟨0, by omega, rfl⟩).1
  have a10 := (A _ ⟨10, by omega, rfl⟩).2.2.1
  have a11 := (A _ ⟨11, by omega, rfl⟩).2.2.1
  have a18 := (A _ ⟨18, by omega, rfl⟩).2.2.1
  have a19 := (A _ ⟨19, by omega, rfl⟩).2.2.1
  have a20 := (A _ ⟨20, by omega, rfl⟩).2.2.2
  have mA_ : ∀ k, jS k → ∀ i, mA u' k i = mA u k i := fun k h1 => (M k h1).2.2.1
  have mB_ : ∀ k, jS k → ∀ i, mB u' k i = mB u k i := fun k h1 => (M k h1).2.2.2
  have mI_ : ∀ k, jS k → mI u' k = mI u k := fun k h1 => (M k h1).1
  have L : ∀ p, isLit (plN u') jw jp p ↔ isLit (plN u) jw jp p := fun p => isLit_co (fun w hw => by have := K.lw; unfold plN; rw [m w (by omega)])
  have q : ∀ k, 96 ≤ k → k ≤ 111 → jS k := fun k a b => ⟨a, b⟩
  apply JR.mk <;> try simp only [i0, a10, a11, a18, a19, a20, L, mI_ 97 (q _ (by omega) (by omega)), mI_ 98 (q _ (by omega) (by omega)), mI_ 99 (q _ (by omega) (by omega)), mI_ 100 (q _ (by omega) (by omega)), mI_ 101 (q _ (by omega) (by omega)), mI_ 102 (q _ (by omega) (by omega)), mI_ 103 (q _ (by omega) (by omega)), mA_ 104 (q _ (by omega) (by omega)), mA_ 110 (q _ (by omega) (by omega)), mA_ 111 (q _ (by omega) (by omega)), mB_ 108 (q _ (by omega) (by omega)), mB_ 109 (q _ (by omega) (by omega))]
  · exact K.lp
  · exact K.lw
  · exact K.ls
  · exact K.p1
  · exact K.p2
  · exact K.w1
  · exact K.w2
  · exact K.s1
  · exact K.s2
  · exact K.mr
  · exact K.nm
  · exact fun p hp hl => (K.rs p hp hl).fr M e
  · exact K.t0
  · exact K.t1
  · exact K.t2
  · exact K.t3
  · exact K.su
  · exact K.sz
theorem JS.fr {h h' : PH} {G : Gh} (J : G.jj = true) (S : SX h G) (n : ∀ a, hN h' a = hN h a) (A : Ag (gr (hZ h) G 5) h h') (K : JS h G) : JS h' G := by
  have g : ∀ i, i < 21 → gr (hZ h) G 5 (G.jd i) := fun i hi => ⟨jd_lt J S i hi, by rw [S.jo J i (.inl hi)]; omega⟩
  have a2 := (A _ (g 2 (by omega))).2.2.1
  have a17 := (A _ (g 17 (by omega))).2.2.1
  apply JS.mk <;> try simp only [n, a2, a17]
  · exact K.wh
  · exact K.k1
  · exact K.k2
  · exact K.k3
  · exact K.k4
  · exact K.bt
theorem IvJ.fr {h h' : PH} {u u' : MS} {G : Gh} {z : Sz} (S : SX h G) (n : ∀ a, hN h' a = hN h a) (A : Ag (gr (hZ h) G 5) h h') (M : MAg jS u u') (m : ∀ i, i < z.nw → mA u' 28 i = mA u 28 i) (e : ∀ r, r < z.nr → mA u' 42 r = mA u 42 r) (K : IvJ h u G z) : IvJ h' u' G z := by
  unfold IvJ at *
  have mI_ : ∀ k, 96 ≤ k → k ≤ 111 → mI u' k = mI u k := fun k h1 h2 => (M k ⟨h1, h2⟩).1
  simp only [mI_ 96 (by omega) (by omega), mI_ 100 (by omega) (by omega), mI_ 101 (by omega) (by omega), mI_ 102 (by omega) (by omega), mI_ 103 (by omega) (by omega)]
  rcases K with K | ⟨j, k, l, a, b, c, K⟩
  · exact .inl K
  · exact .inr ⟨j, k, l.fr j S n A, a, b, c, K.fr (A.mono fun a p => jP_gr j S p) M m e⟩
