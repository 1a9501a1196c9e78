/-! what a judgment changes in the class: its own parts jd i with P i -/
def vj (i : Nat) : Prop := i < 21 ∨ (100 ≤ i ∧ i < 124)
def CH (G : Gh) (P : Nat → Prop) (h h' : PH) : Prop := (hR h' = hR h ∧ hC h' = hC h ∧ hT h' = hT h ∧ hN h' = hN h ∧ hZ h' = hZ h) ∧ Ag (fun a => ∀ i, vj i → P i → a ≠ G.jd i) h h'
theorem CH.refl (G : Gh) (P : Nat → Prop) (h : PH) : CH G P h h := ⟨⟨rfl, rfl, rfl, rfl, rfl⟩, Ag.refl h⟩
theorem CH.trans {G : Gh} {P : Nat → Prop} {h h1 h2 : PH} (a : CH G P h h1) (b : CH G P h1 h2) : CH G P h h2 := ⟨⟨b.1.1.trans a.1.1, b.1.2.1.trans a.1.2.1, b.1.2.2.1.trans a.1.2.2.1, b.1.2.2.2.1.trans a.1.2.2.2.1, b.1.2.2.2.2.trans a.1.2.2.2.2⟩, a.2.trans b.2⟩
theorem CH.mono {G : Gh} {P Q : Nat → Prop} {h h' : PH} (a : CH G P h h') (k : ∀ i, P i → Q i) : CH G Q h h' := ⟨a.1, a.2.mono fun _ hx i v p => hx i v (k i p)⟩
theorem CH.sx {G : Gh} {P : Nat → Prop} {h h' : PH} (c : CH G P h h') (S : SX h G) : SX h' G := by
  obtain ⟨⟨c1, c2, c3, c4, c5⟩, _⟩ := c
  unfold SX at *
  rw [c1, c2, c3, c4, c5]
  exact S
theorem CH.sI {G : Gh} {P : Nat → Prop} {h h' : PH} (c : CH G P h h') {f i : Nat} {v : Int32} (w : vj i) (p : P i) : CH G P h (sI h' f (G.jd i) v) := ⟨c.1, c.2.sI fun q => q i w p rfl⟩
theorem CH.sL {G : Gh} {P : Nat → Prop} {h h' : PH} (c : CH G P h h') {f i : Nat} {v : Int64} (w : vj i) (p : P i) : CH G P h (sL h' f (G.jd i) v) := ⟨c.1, c.2.sL fun q => q i w p rfl⟩
theorem CH.sA {G : Gh} {P : Nat → Prop} {h h' : PH} (c : CH G P h h') {k i : Nat} {v : Int32} (w : vj i) (p : P i) : CH G P h (sA h' (G.jd i) k v) := ⟨c.1, c.2.sA fun q => q i w p rfl⟩
theorem CH.sB {G : Gh} {P : Nat → Prop} {h h' : PH} (c : CH G P h h') {k i : Nat} {v : Int64} (w : vj i) (p : P i) : CH G P h (sB h' (G.jd i) k v) := ⟨c.1, c.2.sB fun q => q i w p rfl⟩
theorem jd_ne {h : PH} {G : Gh} (S : SX h G) (J : G.jj = true) {i j : Nat} (w : vj i) (w' : vj j) (n : i ≠ j) : G.jd i ≠ G.jd j := by
  intro e
  have h1 := S.jo J i w
  have h2 := S.jo J j w'
  rw [e] at h1
  omega
theorem CH.own {G : Gh} {P : Nat → Prop} {h h' : PH} (c : CH G P h h') (S : SX h G) (J : G.jj = true) {j : Nat} (w : vj j) (n : ¬ P j) : (∀ f, hI h' f (G.jd j) = hI h f (G.jd j)) ∧ (∀ f, hL h' f (G.jd j) = hL h f (G.jd j)) ∧ (∀ i, hA h' (G.jd j) i = hA h (G.jd j) i) ∧ ∀ i, hB h' (G.jd j) i = hB h (G.jd j) i :=
  c.2 (G.jd j) fun i w' p => jd_ne S J w w' fun e => n (by rw [e]; exact p)
theorem CH.out {G : Gh} {P : Nat → Prop} {h h' : PH} (c : CH G P h h') (S : SX h G) (J : G.jj = true) {a : Nat} (n : G.ow a / 100000 ≠ 5) : (∀ f, hI h' f a = hI h f a) ∧ (∀ f, hL h' f a = hL h f a) ∧ (∀ i, hA h' a i = hA h a i) ∧ ∀ i, hB h' a i = hB h a i :=
  c.2 a fun i w _ e => by
    have := S.jo J i w
    rw [← e] at this
    unfold vj at w
    omega
theorem CH.gr {G : Gh} {P : Nat → Prop} {h h' : PH} (c : CH G P h h') (S : SX h G) (J : G.jj = true) {n : Nat} (k : n ≠ 5) : Ag (gr (hZ h) G n) h h' := fun a q => c.out S J (by have := q.2; omega)
/-! a fraction's worth -/
abbrev Qq : Type := Int64 × Int64
def okQ (q : Qq) : Prop := q.1.toInt.natAbs ≤ 1000000000 ∧ 1 ≤ q.2.toInt ∧ q.2.toInt ≤ 1000000000 ∧ Nat.gcd q.1.toInt.natAbs q.2.toInt.natAbs = 1
def low (n d : Int64) : Option Qq := if big (lwN n d) (lwD n d) then none else some (lwN n d, lwD n d)
def okV (v : Option Qq) : Prop := ∀ q, v = some q → okQ q
theorem low_ok {n d : Int64} (o : okND n d) : okV (low n d) := by
  intro q e
  unfold low at e
  by_cases b : big (lwN n d) (lwD n d)
  · rw [if_pos b] at e
    exact absurd e (by simp)
  · rw [if_neg b] at e
    injection e with e
    subst e
    have d1 := lw_d o
    have g1 := gq_pos o
    have g2 := gq_le o
    obtain ⟨o1, o2, o3⟩ := o
    refine ⟨by show (lwN n d).toInt.natAbs ≤ _; omega, d1.1, by show (lwD n d).toInt ≤ _; omega, ?_⟩
    show Nat.gcd (lwN n d).toInt.natAbs (lwD n d).toInt.natAbs = 1
    have e1 : (lwN n d).toInt.natAbs = n.toInt.natAbs / Nat.gcd n.toInt.natAbs d.toInt.natAbs := by
      show (n / nL _).toInt.natAbs = _
      rw [(div_abs o1 g2).1, Int.natAbs_tdiv]
      rfl
    have e2 : (lwD n d).toInt.natAbs = d.toInt.natAbs / Nat.gcd n.toInt.natAbs d.toInt.natAbs := by
      show (d / nL _).toInt.natAbs = _
      rw [(div_abs (by omega) g2).1, Int.natAbs_tdiv]
      rfl
    rw [e1, e2, Nat.gcd_div (Nat.gcd_dvd_left _ _) (Nat.gcd_dvd_right _ _), Nat.div_self (by omega)]
theorem i64_mul {a b : Int64} {x y : Nat} (ha : a.toInt.natAbs ≤ x) (hb : b.toInt.natAbs ≤ y) (h : x * y ≤ 4000000000000000000) : (a * b).toInt = a.toInt * b.toInt ∧ (a * b).toInt.natAbs ≤ x * y := by
  have e : (a.toInt * b.toInt).natAbs = a.toInt.natAbs * b.toInt.natAbs := Int.natAbs_mul _ _
  have l : a.toInt.natAbs * b.toInt.natAbs ≤ x * y := Nat.mul_le_mul ha hb
  have q : (a * b).toInt = a.toInt * b.toInt := by
    rw [Int64.toInt_mul, Int.bmod_eq_of_le (by omega) (by omega)]
  exact ⟨q, by rw [q, e]; exact l⟩
theorem i64_add {a b : Int64} (ha : a.toInt.natAbs ≤ 2000000000000000000) (hb : b.toInt.natAbs ≤ 2000000000000000000) : (a + b).toInt = a.toInt + b.toInt := by
  rw [Int64.toInt_add, Int.bmod_eq_of_le (by omega) (by omega)]
theorem i64_sub {a b : Int64} (ha : a.toInt.natAbs ≤ 2000000000000000000) (hb : b.toInt.natAbs ≤ 2000000000000000000) : (a - b).toInt = a.toInt - b.toInt := by
  rw [Int64.toInt_sub, Int.bmod_eq_of_le (by omega) (by omega)]
theorem den_mul {a b : Qq} (ha : okQ a) (hb : okQ b) : 1 ≤ (a.2 * b.2).toInt ∧ (a.2 * b.2).toInt ≤ 1000000000000000000 := by
  obtain ⟨_, a2, a3, _⟩ := ha
  obtain ⟨_, b2, b3, _⟩ := hb
  have k := i64_mul (a := a.2) (b := b.2) (x := 1000000000) (y := 1000000000) (by omega) (by omega) (by decide)
  have p : 0 < a.2.toInt * b.2.toInt := Int.mul_pos (by omega) (by omega)
  have k2 := k.2
  rw [k.1] at k2 ⊢
  omega
theorem okND_mul {a b : Qq} (ha : okQ a) (hb : okQ b) : okND (a.1 * b.1) (a.2 * b.2) := by
  have d := den_mul ha hb
  have k := i64_mul (a := a.1) (b := b.1) (x := 1000000000) (y := 1000000000) ha.1 hb.1 (by decide)
  exact ⟨by have := k.2; omega, d.1, by omega⟩
theorem cross {a b : Qq} (ha : okQ a) (hb : okQ b) : (a.1 * b.2).toInt.natAbs ≤ 1000000000000000000 := by
  have := hb.2
  exact (i64_mul (a := a.1) (b := b.2) (x := 1000000000) (y := 1000000000) ha.1 (by omega) (by decide)).2
theorem okND_add {a b : Qq} (ha : okQ a) (hb : okQ b) : okND (a.1 * b.2 + b.1 * a.2) (a.2 * b.2) := by
  have d := den_mul ha hb
  have k1 := cross ha hb
  have k2 := cross hb ha
  exact ⟨by rw [i64_add (by omega) (by omega)]; omega, d.1, by omega⟩
theorem okND_sub {a b : Qq} (ha : okQ a) (hb : okQ b) : okND (a.1 * b.2 - b.1 * a.2) (a.2 * b.2) := by
  have d := den_mul ha hb
  have k1 := cross ha hb
  have k2 := cross hb ha
  exact ⟨by rw [i64_sub (by omega) (by omega)]; omega, d.1, by omega⟩
theorem okND_q {q : Qq} (o : okQ q) : okND q.1 q.2 := by
  obtain ⟨o1, o2, o3, _⟩ := o
  exact ⟨by omega, o2, by omega⟩
theorem div_1 (n : Int64) (h : n.toInt.natAbs ≤ 4000000000000000000) : n / nL 1 = n := by
  apply Int64.toInt_inj.mp
  rw [(div_abs h (by decide)).1]
  exact Int.tdiv_one _
/-- what is lowest already -/
theorem low_self {n d : Int64} (o : okQ (n, d)) : low n d = some (n, d) := by
  have p := okND_q o
  obtain ⟨o1, o2, o3, o4⟩ := o
  have e : gq n d = nL 1 := congrArg nL o4
  have e1 : lwN n d = n := by unfold lwN; rw [e]; exact div_1 n p.1
  have e2 : lwD n d = d := by unfold lwD; rw [e]; exact div_1 d (by have := p.2; simp only at this; omega)
  unfold low
  rw [e1, e2, if_neg (by simp only at o1 o2 o3; unfold big; omega)]
theorem okQ_neg {n d : Int64} (o : okQ (n, d)) : okQ (-n, d) := by
  obtain ⟨o1, o2, o3, o4⟩ := o
  simp only at o1 o2 o3 o4
  have e : (-n).toInt = -n.toInt := by rw [Int64.toInt_neg, Int.bmod_eq_of_le (by omega) (by omega)]
  refine ⟨?_, o2, o3, ?_⟩
  · show (-n).toInt.natAbs ≤ _
    rw [e]; omega
  · show Nat.gcd (-n).toInt.natAbs _ = 1
    rw [e, Int.natAbs_neg]; exact o4
