-- needs: 63 70
/-! names -/
def pk (b : Nat) (l : List Nat) : Nat := l.foldl (fun v x => b * v + x) 0
def okN (l : List Nat) : Prop := l ≠ [] ∧ l.length ≤ 10 ∧ ∀ x ∈ l, 1 ≤ x ∧ x ≤ 36
def NR (a b : Int64) : Prop := ∃ l : List Nat, okN l ∧ a = Int64.ofNat (pk 64 l) ∧ b = Int64.ofNat (pk 37 l)
/-! formulas: num, frac, a person's number, minus, and 3 +, 4 -, 5 * -/
inductive Ex : Type
  | num (a : Nat) : Ex
  | frac (a b : Nat) : Ex
  | fet (t k : Nat) : Ex
  | neg (e : Ex) : Ex
  | bin (o : Nat) (e f : Ex) : Ex
/-- the reference's term of the class's -/
def tmr (t : Nat) : Nat := if t < 5 then 10 + t else t - 5
def cc : Ex → List Nat
  | .num a => [a]
  | .frac a b => [a, 1048576 + b]
  | .fet t k => [2097152 + (4 * t + k)]
  | .neg e => cc e ++ [3145728]
  | .bin o e f => cc e ++ (cc f ++ [1048576 * (o + 1)])
def rc : Ex → List (Nat × Nat × Nat)
  | .num a => [(0, a, 1)]
  | .frac a b => [(0, a, b)]
  | .fet t k => [(1, tmr t, k)]
  | .neg e => rc e ++ [(2, 0, 1)]
  | .bin o e f => rc e ++ (rc f ++ [(o, 0, 1)])
def ht : Ex → Nat
  | .num _ => 1
  | .frac _ _ => 1
  | .fet _ _ => 1
  | .neg e => ht e
  | .bin _ e f => max (ht e) (ht f + 1)
def okTm (nv np t : Nat) : Prop := t < np ∧ t < 5 ∨ 5 ≤ t ∧ t < 5 + nv ∧ t < 8
def okE (nv np : Nat) : Ex → Prop
  | .num a => a ≤ 999999
  | .frac a b => a ≤ 999999 ∧ 1 ≤ b ∧ b ≤ 999999
  | .fet t k => okTm nv np t ∧ k < 4
  | .neg e => okE nv np e
  | .bin o e f => 3 ≤ o ∧ o ≤ 5 ∧ okE nv np e ∧ okE nv np f
structure Sz where
  np : Nat
  nw : Nat
  ns : Nat
  nl : Nat
  nr : Nat
  no : Nat
  pc : Nat
  rc : Nat
def Sz.ok (z : Sz) : Prop := z.np ≤ 5 ∧ z.nw ≤ 12 ∧ z.ns ≤ 4 ∧ z.nl ≤ 10 ∧ z.nr ≤ 30 ∧ z.no ≤ 20
/-- a formula in both programs -/
def PgR (h : PH) (u : MS) (G : Gh) (z : Sz) (nv : Nat) (cs ce rs re : Int32) : Prop := ∃ (e : Ex) (i j : Nat), okE nv z.np e ∧ ht e ≤ 20 ∧ cs = nI i ∧ ce = nI (i + (cc e).length) ∧ rs = nI j ∧ re = nI (j + (rc e).length) ∧ i + (cc e).length ≤ z.pc ∧ j + (rc e).length ≤ z.rc ∧ (∀ k, k < (cc e).length → hA h G.pg (i + k) = nI ((cc e).getD k 0)) ∧ ∀ k, k < (rc e).length → mA u 60 (j + k) = nI ((rc e).getD k (0, 0, 0)).1 ∧ mA u 61 (j + k) = nI ((rc e).getD k (0, 0, 0)).2.1 ∧ mA u 62 (j + k) = nI ((rc e).getD k (0, 0, 0)).2.2
def TmR (z : Sz) (nv : Nat) (a b : Int32) : Prop := ∃ t, okTm nv z.np t ∧ a = nI t ∧ b = nI (tmr t)
/-- a term that a word of few places has not -/
def NoT (a b : Int32) : Prop := a = 0 ∧ b = -1
/-- a literal: of the class (subject, so, first, second), of the reference -/
def LtR (u : MS) (z : Sz) (nv : Nat) (s o f g : Int32) (s' o' f' g' : Int32) : Prop := ∃ w k, w < z.nw ∧ k ≤ 2 ∧ mA u 28 w = nI k ∧ s = nI w ∧ s' = nI w ∧ o = o' ∧ (o' = 0 ∨ o' = 1) ∧ (if 0 < k then TmR z nv f f' else NoT f f') ∧ if 1 < k then TmR z nv g g' else NoT g g'
def CdR (h : PH) (u : MS) (G : Gh) (z : Sz) (nv : Nat) (a i : Nat) : Prop :=
  (hI h 256 a = 260 ∧ mA u 51 i = 0 ∧ LtR u z nv (hI h 257 a) (hI h 258 a) (hI h 259 a) (hI h 260 a) (mA u 52 i) (mA u 53 i) (mA u 54 i) (mA u 55 i))
  ∨ (hI h 256 a = 314 ∧ mA u 51 i = 1 ∧ TmR z nv (hI h 259 a) (mA u 54 i) ∧ TmR z nv (hI h 260 a) (mA u 55 i))
  ∨ (hI h 256 a = 315 ∧ mA u 51 i = 2 ∧ TmR z nv (hI h 259 a) (mA u 54 i) ∧ TmR z nv (hI h 260 a) (mA u 55 i))
  ∨ (mA u 51 i = 3 ∧ ((hI h 256 a = 257 ∧ mA u 56 i = 16) ∨ (hI h 256 a = 258 ∧ mA u 56 i = 17) ∨ (hI h 256 a = 60 ∧ mA u 56 i = 18) ∨ (hI h 256 a = 259 ∧ mA u 56 i = 19)) ∧ PgR h u G z nv (hI h 261 a) (hI h 262 a) (mA u 57 i) (mA u 58 i) ∧ PgR h u G z nv (hI h 262 a) (hI h 263 a) (mA u 58 i) (mA u 59 i))
def HdR (h : PH) (u : MS) (G : Gh) (z : Sz) (nv a r : Nat) : Prop :=
  (mA u 40 r ≠ 2 ∧ LtR u z nv (hI h 257 a) (hI h 258 a) (hI h 259 a) (hI h 260 a) (mA u 44 r) (mA u 45 r) (mA u 46 r) (mA u 47 r))
  ∨ (mA u 40 r = 2 ∧ (∃ s, s < z.ns ∧ hI h 257 a = nI s ∧ mA u 44 r = nI s) ∧ hI h 258 a = 1 ∧ mA u 45 r = 1 ∧ TmR z nv (hI h 259 a) (mA u 46 r) ∧ ((hI h 256 a = 43 ∧ mA u 48 r = 0) ∨ (hI h 256 a = 42 ∧ mA u 48 r = 1) ∨ (hI h 256 a = 312 ∧ mA u 48 r = 2) ∨ (hI h 256 a = 313 ∧ mA u 48 r = 3)) ∧ PgR h u G z nv (hI h 261 a) (hI h 263 a) (mA u 49 r) (mA u 50 r))
/-- rule r -/
def RuR (h : PH) (u : MS) (G : Gh) (z : Sz) (r : Nat) : Prop := ∃ l k n v, l < z.nl ∧ k ≤ 2 ∧ n ≤ 6 ∧ n ≤ G.nc r ∧ v ≤ 3 ∧ hI h 1024 (G.rl r) = nI l ∧ mA u 39 r = nI l ∧ hI h 1025 (G.rl r) = nI k ∧ mA u 40 r = nI k ∧ hI h 1027 (G.rl r) = nI n ∧ mA u 41 r = nI n ∧ hI h 1026 (G.rl r) = nI v ∧ mA u 42 r = nI v ∧ HdR h u G z v (G.hd r) r ∧ ∀ i, i < n → CdR h u G z v (G.cd r i) (6 * r + i)
structure KR (h : PH) (u : MS) (G : Gh) (z : Sz) : Prop where
  nrG : z.nr ≤ G.nr
  pn : ∀ i, i < z.np → NR (hB h 7 i) (mB u 25 i)
  wn : ∀ i, i < z.nw → NR (hB h 9 i) (mB u 27 i)
  pl : ∀ i, i < z.nw → ∃ k, k ≤ 2 ∧ hA h 16 i = nI k ∧ mA u 28 i = nI k
  sn : ∀ i, i < z.ns → NR (hB h 11 i) (mB u 29 i)
  lw : ∀ i, i < z.nl → hA h 18 (5 * i) = mA u 31 i ∧ hA h 18 (5 * i + 1) = mA u 32 i ∧ hA h 18 (5 * i + 2) = mA u 33 i ∧ hA h 18 (5 * i + 3) = mA u 34 i ∧ hA h 18 (5 * i + 4) = mA u 35 i
  rn : ∀ i, i < z.nr → NR (hB h 15 i) (mB u 38 i)
  ru : ∀ i, i < z.nr → RuR h u G z i
  ov : ∀ i, i < z.no → ∃ a b, a < z.nr ∧ b < z.nr ∧ a ≠ b ∧ hA h 20 i = nI a ∧ mA u 36 i = nI a ∧ hA h 21 i = nI b ∧ mA u 37 i = nI b
  ln : ∀ i, i < z.nl → NR (hB h 13 i) (mB u 30 i)
/-- the sizes that stand in both -/
def SzC (h : PH) (z : Sz) : Prop := hI h 897 6 = nI z.np ∧ hI h 897 8 = nI z.nw ∧ hI h 897 10 = nI z.ns ∧ hI h 897 12 = nI z.nl ∧ hI h 897 14 = nI z.nr ∧ hI h 139 5 = nI z.no ∧ hI h 142 5 = nI z.pc
def SzK (h : PH) (z : Sz) : Prop := hI h 898 6 = nI z.np ∧ hI h 898 8 = nI z.nw ∧ hI h 898 10 = nI z.ns ∧ hI h 898 12 = nI z.nl ∧ hI h 898 14 = nI z.nr ∧ hI h 140 5 = nI z.no ∧ hI h 143 5 = nI z.pc
def SzM (u : MS) (z : Sz) : Prop := mI u 18 = nI z.np ∧ mI u 19 = nI z.nw ∧ mI u 20 = nI z.ns ∧ mI u 21 = nI z.nl ∧ mI u 22 = nI z.nr ∧ mI u 23 = nI z.no ∧ mI u 24 = nI z.rc
/-- a literal's number -/
def isLit (pl : Nat → Nat) (nw np p : Nat) : Prop := p / 50 < nw ∧ (if 0 < pl (p / 50) then p / 10 % 5 < np else p / 10 % 5 = 0) ∧ if 1 < pl (p / 50) then p / 2 % 5 < np else p / 2 % 5 = 0
instance (pl : Nat → Nat) (nw np p : Nat) : Decidable (isLit pl nw np p) := by unfold isLit; infer_instance
def plN (u : MS) (w : Nat) : Nat := (mA u 28 w).toNatClampNeg
/-- bytes: a row of l bytes, the first 4000 kept in the array a -/
def isBy (v : Int32) : Prop := Int8.toInt32 (Int32.toInt8 v) = v
def okL (n : Nat) : Prop := n = 0 ∨ n = 64 ∨ n = 128 ∨ n = 256 ∨ n = 512 ∨ n = 1024 ∨ n = 2048 ∨ n = 4000
structure TpR (h : PH) (u : MS) (G : Gh) : Prop where
  ex : ∃ l, l ≤ 4000 ∧ l ≤ hN h G.tk ∧ hI h 1 1 = nI l ∧ mI u 2 = nI l ∧ ∀ i, i < l → hA h G.tk i = mA u 1 i
  bt : ∀ i, isBy (hA h G.tk i)
  hn : hN h G.tk ≤ 4000
  ok : okL (hN h G.tk)
structure OuR (h : PH) (u : MS) (G : Gh) : Prop where
  ex : ∃ l, l ≤ 1000000 ∧ (l ≤ hN h G.wk ∨ hN h G.wk = 4000) ∧ hI h 1 3 = nI l ∧ mI u 113 = nI l ∧ ∀ i, i < l → i < 4000 → hA h G.wk i = mA u 114 i ∧ 0 ≤ mA u 114 i
  bt : ∀ i, isBy (hA h G.wk i)
  hn : hN h G.wk ≤ 4000
  ok : okL (hN h G.wk)
def DyR (h : PH) (u : MS) : Prop := ∃ d, d ≤ 999999 ∧ hI h 1414 0 = nI d ∧ mI u 72 = nI d
def NuR (h : PH) (u : MS) (z : Sz) : Prop := ∀ i, i < 20 → hA h 17 i = mA u 26 i ∧ -999999 ≤ mA u 26 i ∧ mA u 26 i ≤ 999999 ∧ (4 * z.np ≤ i → mA u 26 i = 0)
structure TeR (h : PH) (u : MS) (G : Gh) (z : Sz) : Prop where
  n1 : hI h 1413 0 = nI G.nt
  n2 : mI u 73 = nI G.nt
  te : ∀ k, k < G.nt → ∃ p w, p < 600 ∧ isLit (plN u) z.nw z.np p ∧ w ≤ 9 ∧ hI h 1152 (G.te k) = nI p ∧ mA u 75 k = nI p ∧ hI h 1153 (G.te k) = mA u 76 k ∧ hI h 1154 (G.te k) = mA u 77 k ∧ hI h 1155 (G.te k) = nI w ∧ mA u 78 k = nI w ∧ hI h 1156 (G.te k) = mA u 74 k
/-- why a literal stands so: the class's reason x, the reference's three -/
def RsR (u : MS) (nr jp : Nat) (m x : Int32) (p : Nat) : Prop :=
  (x = -2 ∧ m ≠ 2 ∧ mA u 105 p = 0 ∧ mA u 106 p = -1 ∧ ∀ v, v < 3 → mA u 107 (3 * p + v) = -1)
  ∨ (x = -1 ∧ m ≠ 1 ∧ mA u 105 p = (if m = 2 then 3 else 2) ∧ mA u 106 p = -1 ∧ ∀ v, v < 3 → mA u 107 (3 * p + v) = -1)
  ∨ (∃ r b, r < nr ∧ b < 125 ∧ x = nI (125 * r + b) ∧ (0 < jp ∨ (mA u 42 r).toNatClampNeg = 0) ∧ m ≠ 2 ∧ mA u 105 p = 1 ∧ mA u 106 p = nI r ∧ ∀ v, v < 3 → mA u 107 (3 * p + v) = if v < (mA u 42 r).toNatClampNeg then nI (b / jp ^ ((mA u 42 r).toNatClampNeg - 1 - v) % jp) else -1)
structure JR (h : PH) (u : MS) (G : Gh) (z : Sz) (jp jw js : Nat) : Prop where
  lp : jp ≤ z.np
  lw : jw ≤ z.nw
  ls : js ≤ z.ns
  p1 : hI h 642 (G.jd 0) = nI jp
  p2 : mI u 97 = nI jp
  w1 : hI h 643 (G.jd 0) = nI jw
  w2 : mI u 98 = nI jw
  s1 : hI h 644 (G.jd 0) = nI js
  s2 : mI u 99 = nI js
  mr : ∀ p, p < 600 → isLit (plN u) jw jp p → hA h (G.jd 10) p = mA u 104 p ∧ (mA u 104 p = 0 ∨ mA u 104 p = 1 ∨ mA u 104 p = 2)
  nm : ∀ p, p < 600 → ¬ isLit (plN u) jw jp p → hA h (G.jd 10) p = -1
  rs : ∀ p, p < 600 → isLit (plN u) jw jp p → RsR u z.nr jp (mA u 104 p) (hA h (G.jd 11) p) p
  t0 : hA h (G.jd 18) 0 = mI u 101
  t1 : hA h (G.jd 18) 1 = mI u 100
  t2 : hA h (G.jd 18) 2 = mI u 102
  t3 : hA h (G.jd 18) 3 = mI u 103
  su : ∀ k, k < 20 → k / 5 < js → k % 5 < jp → hA h (G.jd 19) k = mA u 110 k ∧ hB h (G.jd 20) (2 * k) = mB u 108 k ∧ hB h (G.jd 20) (2 * k + 1) = mB u 109 k ∧ -1000000000 ≤ mB u 108 k ∧ mB u 108 k ≤ 1000000000 ∧ 0 ≤ mB u 109 k ∧ mB u 109 k ≤ 1000000000 ∧ mA u 111 k = (if mB u 109 k = 0 then 1 else 0)
  sz : ∀ k, k < 20 → ¬ (k / 5 < js ∧ k % 5 < jp) → hA h (G.jd 19) k = 0
structure JS (h : PH) (G : Gh) : Prop where
  wh : ∀ p, p < 5 → hA h (G.jd 2) p = nI p
  k1 : hN h (G.jd 16) = hN h (G.jd 15)
  k2 : hN h (G.jd 17) = hN h (G.jd 15)
  k3 : 32 ≤ hN h (G.jd 15)
  k4 : hN h (G.jd 15) ≤ 8192
  bt : ∀ i, isBy (hA h (G.jd 17) i)
def pot (h : PH) (G : Gh) : Nat := hN h G.tk + hN h G.wk + hN h G.pg + if G.jj then 3 * hN h (G.jd 15) else 0
def Bud (n c s : Nat) (h : PH) (G : Gh) : Prop := c + 700 * n ≤ 365000 + pot h G ∧ s + 8000 * n ≤ 5000000 + 3 * pot h G
/-- the rooms of the tokens and of the program, the keywords -/
structure RmR (h : PH) (u : MS) (G : Gh) (z : Sz) : Prop where
  k1 : hN h G.st = hN h G.kd
  k2 : hN h G.vl = hN h G.kd
  k3 : hN h G.kd ≤ 1201
  p1 : z.pc ≤ hN h G.pg
  p2 : 16 ≤ hN h G.pg
  p3 : hN h G.pg ≤ 131072
  p4 : z.pc ≤ 1300 * z.nr
  p5 : z.rc ≤ 1230 * z.nr
  kc : ∀ i, i < 18 → hB h 25 i = KWS.getD i 0
  km : ∀ i, i < 18 → mB u 9 i = KM.getD i 0
/-- the invariant -/
def IvJ (h : PH) (u : MS) (G : Gh) (z : Sz) : Prop := (G.jj = false ∧ mI u 96 = 0 ∧ mI u 100 = 0 ∧ mI u 101 = 0 ∧ mI u 102 = 0 ∧ mI u 103 = 0) ∨ (G.jj = true ∧ mI u 96 = 1 ∧ JS h G ∧ ∃ jp jw js, JR h u G z jp jw js)
structure Iv (h : PH) (u : MS) (G : Gh) (z : Sz) : Prop where
  sx : SX h G
  zo : z.ok
  zc : SzC h z
  zk : SzK h z
  zm : SzM u z
  kr : KR h u G z
  rm : RmR h u G z
  tp : TpR h u G
  ou : OuR h u G
  dy : DyR h u
  nu : NuR h u z
  te : TeR h u G z
  pl : hI h 1415 0 = mI u 17
  ju : IvJ h u G z
def Inv (n c s : Nat) (h : PH) (u : MS) : Prop := ∃ G z, Iv h u G z ∧ Bud n c s h G
theorem Inv_bd : SP_bd Inv := by
  intro n c s h u ⟨G, z, I, b1, b2⟩
  have h1 := I.tp.hn
  have h2 := I.ou.hn
  have h3 := I.rm.p3
  have h4 : (if G.jj then 3 * hN h (G.jd 15) else 0) ≤ 3 * 8192 := by
    rcases I.ju with ⟨j, _⟩ | ⟨j, _, js, _⟩
    · rw [j]; simp
    · rw [j]
      have := js.k4
      simp only [if_true]
      omega
  unfold pot at b1 b2
  exact ⟨by omega, by omega, I.sx.t0⟩
theorem Inv_no : SP_no Inv := by
  intro n c s h u ⟨G, z, I, b1, b2⟩
  exact ⟨G, z, I, by omega, by omega⟩
