-- needs: 63 70
/-! names -/
def pk (b : Nat) (l : List Nat) : Nat := l.foldl (fun v x => b * v + x) 0
def okN (l : List Nat) : Prop := l ≠ [] ∧ l.length ≤ 10 ∧ ∀ x ∈ l, 1 ≤ x ∧ x ≤ 36
def NR (a b : Int64) : Prop := ∃ l : List Nat, okN l ∧ a = Int64.ofNat (pk 64 l) ∧ b = Int64.ofNat (pk 37 l)
/-! formulas, as rows of steps (kind, a, b): 0 a number, 1 a fraction, 2 a person's number, 3 minus, 4 +, 5 -, 6 * -/
abbrev Tok : Type := Nat × Nat × Nat
/-- the reference's term of the other's -/
def tmr (t : Nat) : Nat := if t < 5 then 10 + t else t - 5
def ct (t : Tok) : List Nat := if t.1 = 0 then [t.2.1] else if t.1 = 1 then [t.2.1, 1048576 + t.2.2] else if t.1 = 2 then [2097152 + (4 * t.2.1 + t.2.2)] else [1048576 * t.1]
def rt (t : Tok) : Nat × Nat × Nat := if t.1 = 0 then (0, t.2.1, 1) else if t.1 = 1 then (0, t.2.1, t.2.2) else if t.1 = 2 then (1, tmr t.2.1, t.2.2) else (t.1 - 1, 0, 1)
def cc (l : List Tok) : List Nat := l.flatMap ct
def rc (l : List Tok) : List (Nat × Nat × Nat) := l.map rt
def okTm (nv np t : Nat) : Prop := t < np ∧ t < 5 ∨ 5 ≤ t ∧ t < 5 + nv ∧ t < 8
def okK (nv np : Nat) (t : Tok) : Prop := t.1 ≤ 6 ∧ (t.1 = 0 → t.2.1 ≤ 999999) ∧ (t.1 = 1 → t.2.1 ≤ 999999 ∧ 1 ≤ t.2.2 ∧ t.2.2 ≤ 999999) ∧ (t.1 = 2 → okTm nv np t.2.1 ∧ t.2.2 < 4)
/-- the heap of operands: d of them before, d' behind -/
def dpt (t : Tok) (d : Nat) : Nat := if t.1 ≤ 2 then d + 1 else if t.1 = 3 then d else d - 1
def okD : List Tok → Nat → Nat → Prop
  | [], d, d' => d = d'
  | t :: l, d, d' => (if t.1 ≤ 2 then d < 20 else if t.1 = 3 then 1 ≤ d else 2 ≤ d) ∧ okD l (dpt t d) d'
def okE (nv np : Nat) (e : List Tok) : Prop := (∀ t, t ∈ e → okK nv np t) ∧ okD e 0 1
def Sz : Type := (Nat) × (Nat) × (Nat) × (Nat) × (Nat) × (Nat) × (Nat) × (Nat)
def Sz.np (X_ : Sz) : Nat := X_.1
def Sz.nw (X_ : Sz) : Nat := X_.2.1
def Sz.ns (X_ : Sz) : Nat := X_.2.2.1
def Sz.nl (X_ : Sz) : Nat := X_.2.2.2.1
def Sz.nr (X_ : Sz) : Nat := X_.2.2.2.2.1
def Sz.no (X_ : Sz) : Nat := X_.2.2.2.2.2.1
def Sz.pc (X_ : Sz) : Nat := X_.2.2.2.2.2.2.1
def Sz.rc (X_ : Sz) : Nat := X_.2.2.2.2.2.2.2
def Sz.mk (np_ : Nat) (nw_ : Nat) (ns_ : Nat) (nl_ : Nat) (nr_ : Nat) (no_ : Nat) (pc_ : Nat) (rc_ : Nat) : Sz := (np_, nw_, ns_, nl_, nr_, no_, pc_, rc_)
def Sz.ok (z : Sz) : Prop := z.np ≤ 5 ∧ z.nw ≤ 12 ∧ z.ns ≤ 4 ∧ z.nl ≤ 10 ∧ z.nr ≤ 30 ∧ z.no ≤ 20
/-- a formula in both programs -/
def PgR (h : PH) (u : MS) (G : Gh) (z : Sz) (nv : Nat) (cs ce rs re : Int32) : Prop := ∃ (e : List Tok) (i j : Nat), okE nv z.np e ∧ cs = nI i ∧ ce = nI (i + (cc e).length) ∧ rs = nI j ∧ re = nI (j + (rc e).length) ∧ i + (cc e).length ≤ z.pc ∧ j + (rc e).length ≤ z.rc ∧ (∀ k, k < (cc e).length → hA h G.pg (i + k) = nI ((cc e).getD k 0)) ∧ ∀ k, k < (rc e).length → mA u 60 (j + k) = nI ((rc e).getD k (0, 0, 0)).1 ∧ mA u 61 (j + k) = nI ((rc e).getD k (0, 0, 0)).2.1 ∧ mA u 62 (j + k) = nI ((rc e).getD k (0, 0, 0)).2.2
def TmR (z : Sz) (nv : Nat) (a b : Int32) : Prop := ∃ t, okTm nv z.np t ∧ a = nI t ∧ b = nI (tmr t)
/-- a term that a word of few places has not -/
def NoT (a b : Int32) : Prop := a = 0 ∧ b = -1
/-- a literal: of the class (subject, so, first, second), of the reference -/
def LtR (u : MS) (z : Sz) (nv : Nat) (s o f g : Int32) (s' o' f' g' : Int32) : Prop := ∃ w k, w < z.nw ∧ k ≤ 2 ∧ mA u 28 w = nI k ∧ s = nI w ∧ s' = nI w ∧ o = o' ∧ (o' = 0 ∨ o' = 1) ∧ (if 0 < k then TmR z nv f f' else NoT f f') ∧ if 1 < k then TmR z nv g g' else NoT g g'
def CdR (h : PH) (u : MS) (G : Gh) (z : Sz) (nv : Nat) (a i : Nat) : Prop :=
  (hI h 256 a = 260 ∧ mA u 51 i = 0 ∧ LtR u z nv (hI h 257 a) (hI h 258 a) (hI h 259 a) (hI h 260 a) (mA u 52 i) (mA u 53 i) (mA u 54 i) (mA u 55 i))
  ∨ (hI h 256 a = 314 ∧ mA u 51 i = 1 ∧ TmR z nv (hI h 259 a) (mA u 54 i) ∧ TmR z nv (hI h 260 a) (mA u 55 i))
  ∨ (hI h 256 a = 315 ∧ mA u 51 i = 2 ∧ TmR z nv (hI h 259 a) (mA u 54 i) ∧ TmR z nv (hI h 260 a) (mA u 55 i))
  ∨ (mA u 51 i = 3 ∧ ((hI h 256 a = 257 ∧ mA u 56 i = 16) ∨ (hI h 256 a = 258 ∧ mA u 56 i = 17) ∨ (hI h 256 a = 60 ∧ mA u 56 i = 18) ∨ (hI h 256 a = 259 ∧ mA u 56 i = 19)) ∧ PgR h u G z nv (hI h 261 a) (hI h 262 a) (mA u 57 i) (mA u 58 i) ∧ PgR h u G z nv (hI h 262 a) (hI h 263 a) (mA u 58 i) (mA u 59 i))
def HdR (h : PH) (u : MS) (G : Gh) (z : Sz) (nv a r : Nat) : Prop :=
  (mA u 40 r ≠ 2 ∧ LtR u z nv (hI h 257 a) (hI h 258 a) (hI h 259 a) (hI h 260 a) (mA u 44 r) (mA u 45 r) (mA u 46 r) (mA u 47 r))
  ∨ (mA u 40 r = 2 ∧ (∃ s, s < z.ns ∧ hI h 257 a = nI s ∧ mA u 44 r = nI s) ∧ hI h 258 a = 1 ∧ mA u 45 r = 1 ∧ TmR z nv (hI h 259 a) (mA u 46 r) ∧ ((hI h 256 a = 43 ∧ mA u 48 r = 0) ∨ (hI h 256 a = 42 ∧ mA u 48 r = 1) ∨ (hI h 256 a = 312 ∧ mA u 48 r = 2) ∨ (hI h 256 a = 313 ∧ mA u 48 r = 3)) ∧ PgR h u G z nv (hI h 261 a) (hI h 263 a) (mA u 49 r) (mA u 50 r))
/-- rule r -/
def RuR (h : PH) (u : MS) (G : Gh) (z : Sz) (r : Nat) : Prop := ∃ l k n v, l < z.nl ∧ k ≤ 2 ∧ n ≤ 6 ∧ n ≤ G.nc r ∧ v ≤ 3 ∧ hI h 1024 (G.rl r) = nI l ∧ mA u 39 r = nI l ∧ hI h 1025 (G.rl r) = nI k ∧ mA u 40 r = nI k ∧ hI h 1027 (G.rl r) = nI n ∧ mA u 41 r = nI n ∧ hI h 1026 (G.rl r) = nI v ∧ mA u 42 r = nI v ∧ HdR h u G z v (G.hd r) r ∧ ∀ i, i < n → CdR h u G z v (G.cd r i) (6 * r + i)
def KR (h : PH) (u : MS) (G : Gh) (z : Sz) : Prop := (z.nr ≤ G.nr) ∧ (∀ i, i < z.np → NR (hB h 7 i) (mB u 25 i)) ∧ (∀ i, i < z.nw → NR (hB h 9 i) (mB u 27 i)) ∧ (∀ i, i < z.nw → ∃ k, k ≤ 2 ∧ hA h 16 i = nI k ∧ mA u 28 i = nI k) ∧ (∀ i, i < z.ns → NR (hB h 11 i) (mB u 29 i)) ∧ (∀ i, i < z.nl → hA h 18 (5 * i) = mA u 31 i ∧ hA h 18 (5 * i + 1) = mA u 32 i ∧ hA h 18 (5 * i + 2) = mA u 33 i ∧ hA h 18 (5 * i + 3) = mA u 34 i ∧ hA h 18 (5 * i + 4) = mA u 35 i) ∧ (∀ i, i < z.nr → NR (hB h 15 i) (mB u 38 i)) ∧ (∀ i, i < z.nr → RuR h u G z i) ∧ (∀ i, i < z.no → ∃ a b, a < z.nr ∧ b < z.nr ∧ a ≠ b ∧ hA h 20 i = nI a ∧ mA u 36 i = nI a ∧ hA h 21 i = nI b ∧ mA u 37 i = nI b) ∧ (∀ i, i < z.nl → NR (hB h 13 i) (mB u 30 i))
theorem KR.nrG {h : PH} {u : MS} {G : Gh} {z : Sz} (X_ : KR h u G z) : z.nr ≤ G.nr := X_.1
theorem KR.pn {h : PH} {u : MS} {G : Gh} {z : Sz} (X_ : KR h u G z) : ∀ i, i < z.np → NR (hB h 7 i) (mB u 25 i) := X_.2.1
theorem KR.wn {h : PH} {u : MS} {G : Gh} {z : Sz} (X_ : KR h u G z) : ∀ i, i < z.nw → NR (hB h 9 i) (mB u 27 i) := X_.2.2.1
theorem KR.pl {h : PH} {u : MS} {G : Gh} {z : Sz} (X_ : KR h u G z) : ∀ i, i < z.nw → ∃ k, k ≤ 2 ∧ hA h 16 i = nI k ∧ mA u 28 i = nI k := X_.2.2.2.1
theorem KR.sn {h : PH} {u : MS} {G : Gh} {z : Sz} (X_ : KR h u G z) : ∀ i, i < z.ns → NR (hB h 11 i) (mB u 29 i) := X_.2.2.2.2.1
theorem KR.lw {h : PH} {u : MS} {G : Gh} {z : Sz} (X_ : KR h u G z) : ∀ i, i < z.nl → hA h 18 (5 * i) = mA u 31 i ∧ hA h 18 (5 * i + 1) = mA u 32 i ∧ hA h 18 (5 * i + 2) = mA u 33 i ∧ hA h 18 (5 * i + 3) = mA u 34 i ∧ hA h 18 (5 * i + 4) = mA u 35 i := X_.2.2.2.2.2.1
theorem KR.rn {h : PH} {u : MS} {G : Gh} {z : Sz} (X_ : KR h u G z) : ∀ i, i < z.nr → NR (hB h 15 i) (mB u 38 i) := X_.2.2.2.2.2.2.1
theorem KR.ru {h : PH} {u : MS} {G : Gh} {z : Sz} (X_ : KR h u G z) : ∀ i, i < z.nr → RuR h u G z i := X_.2.2.2.2.2.2.2.1
theorem KR.ov {h : PH} {u : MS} {G : Gh} {z : Sz} (X_ : KR h u G z) : ∀ i, i < z.no → ∃ a b, a < z.nr ∧ b < z.nr ∧ a ≠ b ∧ hA h 20 i = nI a ∧ mA u 36 i = nI a ∧ hA h 21 i = nI b ∧ mA u 37 i = nI b := X_.2.2.2.2.2.2.2.2.1
theorem KR.ln {h : PH} {u : MS} {G : Gh} {z : Sz} (X_ : KR h u G z) : ∀ i, i < z.nl → NR (hB h 13 i) (mB u 30 i) := X_.2.2.2.2.2.2.2.2.2
theorem KR.mk {h : PH} {u : MS} {G : Gh} {z : Sz} (nrG_ : z.nr ≤ G.nr) (pn_ : ∀ i, i < z.np → NR (hB h 7 i) (mB u 25 i)) (wn_ : ∀ i, i < z.nw → NR (hB h 9 i) (mB u 27 i)) (pl_ : ∀ i, i < z.nw → ∃ k, k ≤ 2 ∧ hA h 16 i = nI k ∧ mA u 28 i = nI k) (sn_ : ∀ i, i < z.ns → NR (hB h 11 i) (mB u 29 i)) (lw_ : ∀ i, i < z.nl → hA h 18 (5 * i) = mA u 31 i ∧ hA h 18 (5 * i + 1) = mA u 32 i ∧ hA h 18 (5 * i + 2) = mA u 33 i ∧ hA h 18 (5 * i + 3) = mA u 34 i ∧ hA h 18 (5 * i + 4) = mA u 35 i) (rn_ : ∀ i, i < z.nr → NR (hB h 15 i) (mB u 38 i)) (ru_ : ∀ i, i < z.nr → RuR h u G z i) (ov_ : ∀ i, i < z.no → ∃ a b, a < z.nr ∧ b < z.nr ∧ a ≠ b ∧ hA h 20 i = nI a ∧ mA u 36 i = nI a ∧ hA h 21 i = nI b ∧ mA u 37 i = nI b) (ln_ : ∀ i, i < z.nl → NR (hB h 13 i) (mB u 30 i)) : KR h u G z := ⟨nrG_, pn_, wn_, pl_, sn_, lw_, rn_, ru_, ov_, ln_⟩
/-- the sizes that stand in both -/
def SzC (h : PH) (z : Sz) : Prop := hI h 897 6 = nI z.np ∧ hI h 897 8 = nI z.nw ∧ hI h 897 10 = nI z.ns ∧ hI h 897 12 = nI z.nl ∧ hI h 897 14 = nI z.nr ∧ hI h 139 5 = nI z.no ∧ hI h 142 5 = nI z.pc
def SzK (h : PH) (z : Sz) : Prop := hI h 898 6 = nI z.np ∧ hI h 898 8 = nI z.nw ∧ hI h 898 10 = nI z.ns ∧ hI h 898 12 = nI z.nl ∧ hI h 898 14 = nI z.nr ∧ hI h 140 5 = nI z.no ∧ hI h 143 5 = nI z.pc
def SzM (u : MS) (z : Sz) : Prop := mI u 18 = nI z.np ∧ mI u 19 = nI z.nw ∧ mI u 20 = nI z.ns ∧ mI u 21 = nI z.nl ∧ mI u 22 = nI z.nr ∧ mI u 23 = nI z.no ∧ mI u 24 = nI z.rc
/-- a literal's number -/
abbrev isLit (pl : Nat → Nat) (nw np p : Nat) : Prop := p / 50 < nw ∧ (if 0 < pl (p / 50) then p / 10 % 5 < np else p / 10 % 5 = 0) ∧ if 1 < pl (p / 50) then p / 2 % 5 < np else p / 2 % 5 = 0
def plN (u : MS) (w : Nat) : Nat := (mA u 28 w).toNatClampNeg
/-- bytes: a row of l bytes, the first 4000 kept in the array a -/
def isBy (v : Int32) : Prop := Int8.toInt32 (Int32.toInt8 v) = v
def okL (n : Nat) : Prop := n = 0 ∨ n = 64 ∨ n = 128 ∨ n = 256 ∨ n = 512 ∨ n = 1024 ∨ n = 2048 ∨ n = 4000
def TpR (h : PH) (u : MS) (G : Gh) : Prop := (∃ l, l ≤ 4000 ∧ l ≤ hN h G.tk ∧ hI h 1 1 = nI l ∧ mI u 2 = nI l ∧ ∀ i, i < l → hA h G.tk i = mA u 1 i) ∧ (∀ i, isBy (hA h G.tk i)) ∧ (hN h G.tk ≤ 4000) ∧ (okL (hN h G.tk))
theorem TpR.ex {h : PH} {u : MS} {G : Gh} (X_ : TpR h u G) : ∃ l, l ≤ 4000 ∧ l ≤ hN h G.tk ∧ hI h 1 1 = nI l ∧ mI u 2 = nI l ∧ ∀ i, i < l → hA h G.tk i = mA u 1 i := X_.1
theorem TpR.bt {h : PH} {u : MS} {G : Gh} (X_ : TpR h u G) : ∀ i, isBy (hA h G.tk i) := X_.2.1
theorem TpR.hn {h : PH} {u : MS} {G : Gh} (X_ : TpR h u G) : hN h G.tk ≤ 4000 := X_.2.2.1
theorem TpR.ok {h : PH} {u : MS} {G : Gh} (X_ : TpR h u G) : okL (hN h G.tk) := X_.2.2.2
theorem TpR.mk {h : PH} {u : MS} {G : Gh} (ex_ : ∃ l, l ≤ 4000 ∧ l ≤ hN h G.tk ∧ hI h 1 1 = nI l ∧ mI u 2 = nI l ∧ ∀ i, i < l → hA h G.tk i = mA u 1 i) (bt_ : ∀ i, isBy (hA h G.tk i)) (hn_ : hN h G.tk ≤ 4000) (ok_ : okL (hN h G.tk)) : TpR h u G := ⟨ex_, bt_, hn_, ok_⟩
def OuR (h : PH) (u : MS) (G : Gh) : Prop := (∃ l, l ≤ 1000000 ∧ (l ≤ hN h G.wk ∨ hN h G.wk = 4000) ∧ hI h 1 3 = nI l ∧ mI u 113 = nI l ∧ ∀ i, i < l → i < 4000 → hA h G.wk i = mA u 114 i ∧ 0 ≤ mA u 114 i) ∧ (∀ i, isBy (hA h G.wk i)) ∧ (hN h G.wk ≤ 4000) ∧ (okL (hN h G.wk))
theorem OuR.ex {h : PH} {u : MS} {G : Gh} (X_ : OuR h u G) : ∃ l, l ≤ 1000000 ∧ (l ≤ hN h G.wk ∨ hN h G.wk = 4000) ∧ hI h 1 3 = nI l ∧ mI u 113 = nI l ∧ ∀ i, i < l → i < 4000 → hA h G.wk i = mA u 114 i ∧ 0 ≤ mA u 114 i := X_.1
theorem OuR.bt {h : PH} {u : MS} {G : Gh} (X_ : OuR h u G) : ∀ i, isBy (hA h G.wk i) := X_.2.1
theorem OuR.hn {h : PH} {u : MS} {G : Gh} (X_ : OuR h u G) : hN h G.wk ≤ 4000 := X_.2.2.1
theorem OuR.ok {h : PH} {u : MS} {G : Gh} (X_ : OuR h u G) : okL (hN h G.wk) := X_.2.2.2
theorem OuR.mk {h : PH} {u : MS} {G : Gh} (ex_ : ∃ l, l ≤ 1000000 ∧ (l ≤ hN h G.wk ∨ hN h G.wk = 4000) ∧ hI h 1 3 = nI l ∧ mI u 113 = nI l ∧ ∀ i, i < l → i < 4000 → hA h G.wk i = mA u 114 i ∧ 0 ≤ mA u 114 i) (bt_ : ∀ i, isBy (hA h G.wk i)) (hn_ : hN h G.wk ≤ 4000) (ok_ : okL (hN h G.wk)) : OuR h u G := ⟨ex_, bt_, hn_, ok_⟩
def DyR (h : PH) (u : MS) : Prop := ∃ d, d ≤ 999999 ∧ hI h 1414 0 = nI d ∧ mI u 72 = nI d
def NuR (h : PH) (u : MS) (z : Sz) : Prop := ∀ i, i < 20 → hA h 17 i = mA u 26 i ∧ -999999 ≤ mA u 26 i ∧ mA u 26 i ≤ 999999 ∧ (4 * z.np ≤ i → mA u 26 i = 0)
def TeR (h : PH) (u : MS) (G : Gh) (z : Sz) : Prop := (hI h 1413 0 = nI G.nt) ∧ (mI u 73 = nI G.nt) ∧ (∀ k, k < G.nt → ∃ p w, p < 600 ∧ isLit (plN u) z.nw z.np p ∧ w ≤ 9 ∧ hI h 1152 (G.te k) = nI p ∧ mA u 75 k = nI p ∧ hI h 1153 (G.te k) = mA u 76 k ∧ hI h 1154 (G.te k) = mA u 77 k ∧ hI h 1155 (G.te k) = nI w ∧ mA u 78 k = nI w ∧ hI h 1156 (G.te k) = mA u 74 k)
theorem TeR.n1 {h : PH} {u : MS} {G : Gh} {z : Sz} (X_ : TeR h u G z) : hI h 1413 0 = nI G.nt := X_.1
theorem TeR.n2 {h : PH} {u : MS} {G : Gh} {z : Sz} (X_ : TeR h u G z) : mI u 73 = nI G.nt := X_.2.1
theorem TeR.te {h : PH} {u : MS} {G : Gh} {z : Sz} (X_ : TeR h u G z) : ∀ k, k < G.nt → ∃ p w, p < 600 ∧ isLit (plN u) z.nw z.np p ∧ w ≤ 9 ∧ hI h 1152 (G.te k) = nI p ∧ mA u 75 k = nI p ∧ hI h 1153 (G.te k) = mA u 76 k ∧ hI h 1154 (G.te k) = mA u 77 k ∧ hI h 1155 (G.te k) = nI w ∧ mA u 78 k = nI w ∧ hI h 1156 (G.te k) = mA u 74 k := X_.2.2
theorem TeR.mk {h : PH} {u : MS} {G : Gh} {z : Sz} (n1_ : hI h 1413 0 = nI G.nt) (n2_ : mI u 73 = nI G.nt) (te_ : ∀ k, k < G.nt → ∃ p w, p < 600 ∧ isLit (plN u) z.nw z.np p ∧ w ≤ 9 ∧ hI h 1152 (G.te k) = nI p ∧ mA u 75 k = nI p ∧ hI h 1153 (G.te k) = mA u 76 k ∧ hI h 1154 (G.te k) = mA u 77 k ∧ hI h 1155 (G.te k) = nI w ∧ mA u 78 k = nI w ∧ hI h 1156 (G.te k) = mA u 74 k) : TeR h u G z := ⟨n1_, n2_, te_⟩
/-- why a literal stands so: the class's reason x, the reference's three -/
def RsR (u : MS) (nr jp : Nat) (m x : Int32) (p : Nat) : Prop :=
  (x = -2 ∧ m ≠ 2 ∧ mA u 105 p = 0 ∧ mA u 106 p = -1 ∧ ∀ v, v < 3 → mA u 107 (3 * p + v) = -1)
  ∨ (x = -1 ∧ m ≠ 1 ∧ mA u 105 p = (if m = 2 then 3 else 2) ∧ mA u 106 p = -1 ∧ ∀ v, v < 3 → mA u 107 (3 * p + v) = -1)
  ∨ (∃ r b, r < nr ∧ b < 125 ∧ x = nI (125 * r + b) ∧ (0 < jp ∨ (mA u 42 r).toNatClampNeg = 0) ∧ m ≠ 2 ∧ mA u 105 p = 1 ∧ mA u 106 p = nI r ∧ ∀ v, v < 3 → mA u 107 (3 * p + v) = if v < (mA u 42 r).toNatClampNeg then nI (b / jp ^ ((mA u 42 r).toNatClampNeg - 1 - v) % jp) else -1)
def JR (h : PH) (u : MS) (G : Gh) (z : Sz) (jp : Nat) (jw : Nat) (js : Nat) : Prop := (jp ≤ z.np) ∧ (jw ≤ z.nw) ∧ (js ≤ z.ns) ∧ (hI h 642 (G.jd 0) = nI jp) ∧ (mI u 97 = nI jp) ∧ (hI h 643 (G.jd 0) = nI jw) ∧ (mI u 98 = nI jw) ∧ (hI h 644 (G.jd 0) = nI js) ∧ (mI u 99 = nI js) ∧ (∀ p, p < 600 → isLit (plN u) jw jp p → hA h (G.jd 10) p = mA u 104 p ∧ (mA u 104 p = 0 ∨ mA u 104 p = 1 ∨ mA u 104 p = 2)) ∧ (∀ p, p < 600 → ¬ isLit (plN u) jw jp p → hA h (G.jd 10) p = -1) ∧ (∀ p, p < 600 → isLit (plN u) jw jp p → RsR u z.nr jp (mA u 104 p) (hA h (G.jd 11) p) p) ∧ (hA h (G.jd 18) 0 = mI u 101) ∧ (hA h (G.jd 18) 1 = mI u 100) ∧ (hA h (G.jd 18) 2 = mI u 102) ∧ (hA h (G.jd 18) 3 = mI u 103) ∧ (∀ k, k < 20 → k / 5 < js → k % 5 < jp → hA h (G.jd 19) k = mA u 110 k ∧ hB h (G.jd 20) (2 * k) = mB u 108 k ∧ hB h (G.jd 20) (2 * k + 1) = mB u 109 k ∧ -1000000000 ≤ mB u 108 k ∧ mB u 108 k ≤ 1000000000 ∧ 0 ≤ mB u 109 k ∧ mB u 109 k ≤ 1000000000 ∧ mA u 111 k = (if mB u 109 k = 0 then 1 else 0)) ∧ (∀ k, k < 20 → ¬ (k / 5 < js ∧ k % 5 < jp) → hA h (G.jd 19) k = 0)
theorem JR.lp {h : PH} {u : MS} {G : Gh} {z : Sz} {jp : Nat} {jw : Nat} {js : Nat} (X_ : JR h u G z jp jw js) : jp ≤ z.np := X_.1
theorem JR.lw {h : PH} {u : MS} {G : Gh} {z : Sz} {jp : Nat} {jw : Nat} {js : Nat} (X_ : JR h u G z jp jw js) : jw ≤ z.nw := X_.2.1
theorem JR.ls {h : PH} {u : MS} {G : Gh} {z : Sz} {jp : Nat} {jw : Nat} {js : Nat} (X_ : JR h u G z jp jw js) : js ≤ z.ns := X_.2.2.1
theorem JR.p1 {h : PH} {u : MS} {G : Gh} {z : Sz} {jp : Nat} {jw : Nat} {js : Nat} (X_ : JR h u G z jp jw js) : hI h 642 (G.jd 0) = nI jp := X_.2.2.2.1
theorem JR.p2 {h : PH} {u : MS} {G : Gh} {z : Sz} {jp : Nat} {jw : Nat} {js : Nat} (X_ : JR h u G z jp jw js) : mI u 97 = nI jp := X_.2.2.2.2.1
theorem JR.w1 {h : PH} {u : MS} {G : Gh} {z : Sz} {jp : Nat} {jw : Nat} {js : Nat} (X_ : JR h u G z jp jw js) : hI h 643 (G.jd 0) = nI jw := X_.2.2.2.2.2.1
theorem JR.w2 {h : PH} {u : MS} {G : Gh} {z : Sz} {jp : Nat} {jw : Nat} {js : Nat} (X_ : JR h u G z jp jw js) : mI u 98 = nI jw := X_.2.2.2.2.2.2.1
theorem JR.s1 {h : PH} {u : MS} {G : Gh} {z : Sz} {jp : Nat} {jw : Nat} {js : Nat} (X_ : JR h u G z jp jw js) : hI h 644 (G.jd 0) = nI js := X_.2.2.2.2.2.2.2.1
theorem JR.s2 {h : PH} {u : MS} {G : Gh} {z : Sz} {jp : Nat} {jw : Nat} {js : Nat} (X_ : JR h u G z jp jw js) : mI u 99 = nI js := X_.2.2.2.2.2.2.2.2.1
theorem JR.mr {h : PH} {u : MS} {G : Gh} {z : Sz} {jp : Nat} {jw : Nat} {js : Nat} (X_ : JR h u G z jp jw js) : ∀ p, p < 600 → isLit (plN u) jw jp p → hA h (G.jd 10) p = mA u 104 p ∧ (mA u 104 p = 0 ∨ mA u 104 p = 1 ∨ mA u 104 p = 2) := X_.2.2.2.2.2.2.2.2.2.1
theorem JR.nm {h : PH} {u : MS} {G : Gh} {z : Sz} {jp : Nat} {jw : Nat} {js : Nat} (X_ : JR h u G z jp jw js) : ∀ p, p < 600 → ¬ isLit (plN u) jw jp p → hA h (G.jd 10) p = -1 := X_.2.2.2.2.2.2.2.2.2.2.1
theorem JR.rs {h : PH} {u : MS} {G : Gh} {z : Sz} {jp : Nat} {jw : Nat} {js : Nat} (X_ : JR h u G z jp jw js) : ∀ p, p < 600 → isLit (plN u) jw jp p → RsR u z.nr jp (mA u 104 p) (hA h (G.jd 11) p) p := X_.2.2.2.2.2.2.2.2.2.2.2.1
theorem JR.t0 {h : PH} {u : MS} {G : Gh} {z : Sz} {jp : Nat} {jw : Nat} {js : Nat} (X_ : JR h u G z jp jw js) : hA h (G.jd 18) 0 = mI u 101 := X_.2.2.2.2.2.2.2.2.2.2.2.2.1
theorem JR.t1 {h : PH} {u : MS} {G : Gh} {z : Sz} {jp : Nat} {jw : Nat} {js : Nat} (X_ : JR h u G z jp jw js) : hA h (G.jd 18) 1 = mI u 100 := X_.2.2.2.2.2.2.2.2.2.2.2.2.2.1
theorem JR.t2 {h : PH} {u : MS} {G : Gh} {z : Sz} {jp : Nat} {jw : Nat} {js : Nat} (X_ : JR h u G z jp jw js) : hA h (G.jd 18) 2 = mI u 102 := X_.2.2.2.2.2.2.2.2.2.2.2.2.2.2.1
theorem JR.t3 {h : PH} {u : MS} {G : Gh} {z : Sz} {jp : Nat} {jw : Nat} {js : Nat} (X_ : JR h u G z jp jw js) : hA h (G.jd 18) 3 = mI u 103 := X_.2.2.2.2.2.2.2.2.2.2.2.2.2.2.2.1
theorem JR.su {h : PH} {u : MS} {G : Gh} {z : Sz} {jp : Nat} {jw : Nat} {js : Nat} (X_ : JR h u G z jp jw js) : ∀ k, k < 20 → k / 5 < js → k % 5 < jp → hA h (G.jd 19) k = mA u 110 k ∧ hB h (G.jd 20) (2 * k) = mB u 108 k ∧ hB h (G.jd 20) (2 * k + 1) = mB u 109 k ∧ -1000000000 ≤ mB u 108 k ∧ mB u 108 k ≤ 1000000000 ∧ 0 ≤ mB u 109 k ∧ mB u 109 k ≤ 1000000000 ∧ mA u 111 k = (if mB u 109 k = 0 then 1 else 0) := X_.2.2.2.2.2.2.2.2.2.2.2.2.2.2.2.2.1
theorem JR.sz {h : PH} {u : MS} {G : Gh} {z : Sz} {jp : Nat} {jw : Nat} {js : Nat} (X_ : JR h u G z jp jw js) : ∀ k, k < 20 → ¬ (k / 5 < js ∧ k % 5 < jp) → hA h (G.jd 19) k = 0 := X_.2.2.2.2.2.2.2.2.2.2.2.2.2.2.2.2.2
theorem JR.mk {h : PH} {u : MS} {G : Gh} {z : Sz} {jp : Nat} {jw : Nat} {js : Nat} (lp_ : jp ≤ z.np) (lw_ : jw ≤ z.nw) (ls_ : js ≤ z.ns) (p1_ : hI h 642 (G.jd 0) = nI jp) (p2_ : mI u 97 = nI jp) (w1_ : hI h 643 (G.jd 0) = nI jw) (w2_ : mI u 98 = nI jw) (s1_ : hI h 644 (G.jd 0) = nI js) (s2_ : mI u 99 = nI js) (mr_ : ∀ p, p < 600 → isLit (plN u) jw jp p → hA h (G.jd 10) p = mA u 104 p ∧ (mA u 104 p = 0 ∨ mA u 104 p = 1 ∨ mA u 104 p = 2)) (nm_ : ∀ p, p < 600 → ¬ isLit (plN u) jw jp p → hA h (G.jd 10) p = -1) (rs_ : ∀ p, p < 600 → isLit (plN u) jw jp p → RsR u z.nr jp (mA u 104 p) (hA h (G.jd 11) p) p) (t0_ : hA h (G.jd 18) 0 = mI u 101) (t1_ : hA h (G.jd 18) 1 = mI u 100) (t2_ : hA h (G.jd 18) 2 = mI u 102) (t3_ : hA h (G.jd 18) 3 = mI u 103) (su_ : ∀ k, k < 20 → k / 5 < js → k % 5 < jp → hA h (G.jd 19) k = mA u 110 k ∧ hB h (G.jd 20) (2 * k) = mB u 108 k ∧ hB h (G.jd 20) (2 * k + 1) = mB u 109 k ∧ -1000000000 ≤ mB u 108 k ∧ mB u 108 k ≤ 1000000000 ∧ 0 ≤ mB u 109 k ∧ mB u 109 k ≤ 1000000000 ∧ mA u 111 k = (if mB u 109 k = 0 then 1 else 0)) (sz_ : ∀ k, k < 20 → ¬ (k / 5 < js ∧ k % 5 < jp) → hA h (G.jd 19) k = 0) : JR h u G z jp jw js := ⟨lp_, lw_, ls_, p1_, p2_, w1_, w2_, s1_, s2_, mr_, nm_, rs_, t0_, t1_, t2_, t3_, su_, sz_⟩
def JS (h : PH) (G : Gh) : Prop := (∀ p, p < 5 → hA h (G.jd 2) p = nI p) ∧ (hN h (G.jd 16) = hN h (G.jd 15)) ∧ (hN h (G.jd 17) = hN h (G.jd 15)) ∧ (32 ≤ hN h (G.jd 15)) ∧ (hN h (G.jd 15) ≤ 8192) ∧ (∀ i, isBy (hA h (G.jd 17) i))
theorem JS.wh {h : PH} {G : Gh} (X_ : JS h G) : ∀ p, p < 5 → hA h (G.jd 2) p = nI p := X_.1
theorem JS.k1 {h : PH} {G : Gh} (X_ : JS h G) : hN h (G.jd 16) = hN h (G.jd 15) := X_.2.1
theorem JS.k2 {h : PH} {G : Gh} (X_ : JS h G) : hN h (G.jd 17) = hN h (G.jd 15) := X_.2.2.1
theorem JS.k3 {h : PH} {G : Gh} (X_ : JS h G) : 32 ≤ hN h (G.jd 15) := X_.2.2.2.1
theorem JS.k4 {h : PH} {G : Gh} (X_ : JS h G) : hN h (G.jd 15) ≤ 8192 := X_.2.2.2.2.1
theorem JS.bt {h : PH} {G : Gh} (X_ : JS h G) : ∀ i, isBy (hA h (G.jd 17) i) := X_.2.2.2.2.2
theorem JS.mk {h : PH} {G : Gh} (wh_ : ∀ p, p < 5 → hA h (G.jd 2) p = nI p) (k1_ : hN h (G.jd 16) = hN h (G.jd 15)) (k2_ : hN h (G.jd 17) = hN h (G.jd 15)) (k3_ : 32 ≤ hN h (G.jd 15)) (k4_ : hN h (G.jd 15) ≤ 8192) (bt_ : ∀ i, isBy (hA h (G.jd 17) i)) : JS h G := ⟨wh_, k1_, k2_, k3_, k4_, bt_⟩
def pot (h : PH) (G : Gh) : Nat := hN h G.tk + hN h G.wk + hN h G.pg + if G.jj then 3 * hN h (G.jd 15) else 0
def Bud (n c s : Nat) (h : PH) (G : Gh) : Prop := c + 700 * n ≤ 365000 + pot h G ∧ s + 8000 * n ≤ 5000000 + 3 * pot h G
/-- the rooms of the tokens and of the program, the keywords -/
def RmR (h : PH) (u : MS) (G : Gh) (z : Sz) : Prop := (hN h G.st = hN h G.kd) ∧ (hN h G.vl = hN h G.kd) ∧ (hN h G.kd ≤ 1201) ∧ (z.pc ≤ hN h G.pg) ∧ (16 ≤ hN h G.pg) ∧ (hN h G.pg ≤ 131072) ∧ (z.pc ≤ 1300 * z.nr) ∧ (z.rc ≤ 1230 * z.nr) ∧ (∀ i, i < 18 → hB h 25 i = KWS.getD i 0) ∧ (∀ i, i < 18 → mB u 9 i = KM.getD i 0)
theorem RmR.k1 {h : PH} {u : MS} {G : Gh} {z : Sz} (X_ : RmR h u G z) : hN h G.st = hN h G.kd := X_.1
theorem RmR.k2 {h : PH} {u : MS} {G : Gh} {z : Sz} (X_ : RmR h u G z) : hN h G.vl = hN h G.kd := X_.2.1
theorem RmR.k3 {h : PH} {u : MS} {G : Gh} {z : Sz} (X_ : RmR h u G z) : hN h G.kd ≤ 1201 := X_.2.2.1
theorem RmR.p1 {h : PH} {u : MS} {G : Gh} {z : Sz} (X_ : RmR h u G z) : z.pc ≤ hN h G.pg := X_.2.2.2.1
theorem RmR.p2 {h : PH} {u : MS} {G : Gh} {z : Sz} (X_ : RmR h u G z) : 16 ≤ hN h G.pg := X_.2.2.2.2.1
theorem RmR.p3 {h : PH} {u : MS} {G : Gh} {z : Sz} (X_ : RmR h u G z) : hN h G.pg ≤ 131072 := X_.2.2.2.2.2.1
theorem RmR.p4 {h : PH} {u : MS} {G : Gh} {z : Sz} (X_ : RmR h u G z) : z.pc ≤ 1300 * z.nr := X_.2.2.2.2.2.2.1
theorem RmR.p5 {h : PH} {u : MS} {G : Gh} {z : Sz} (X_ : RmR h u G z) : z.rc ≤ 1230 * z.nr := X_.2.2.2.2.2.2.2.1
theorem RmR.kc {h : PH} {u : MS} {G : Gh} {z : Sz} (X_ : RmR h u G z) : ∀ i, i < 18 → hB h 25 i = KWS.getD i 0 := X_.2.2.2.2.2.2.2.2.1
theorem RmR.km {h : PH} {u : MS} {G : Gh} {z : Sz} (X_ : RmR h u G z) : ∀ i, i < 18 → mB u 9 i = KM.getD i 0 := X_.2.2.2.2.2.2.2.2.2
theorem RmR.mk {h : PH} {u : MS} {G : Gh} {z : Sz} (k1_ : hN h G.st = hN h G.kd) (k2_ : hN h G.vl = hN h G.kd) (k3_ : hN h G.kd ≤ 1201) (p1_ : z.pc ≤ hN h G.pg) (p2_ : 16 ≤ hN h G.pg) (p3_ : hN h G.pg ≤ 131072) (p4_ : z.pc ≤ 1300 * z.nr) (p5_ : z.rc ≤ 1230 * z.nr) (kc_ : ∀ i, i < 18 → hB h 25 i = KWS.getD i 0) (km_ : ∀ i, i < 18 → mB u 9 i = KM.getD i 0) : RmR h u G z := ⟨k1_, k2_, k3_, p1_, p2_, p3_, p4_, p5_, kc_, km_⟩
/-- the invariant -/
def IvJ (h : PH) (u : MS) (G : Gh) (z : Sz) : Prop := (G.jj = false ∧ mI u 96 = 0 ∧ mI u 100 = 0 ∧ mI u 101 = 0 ∧ mI u 102 = 0 ∧ mI u 103 = 0) ∨ (G.jj = true ∧ mI u 96 = 1 ∧ JS h G ∧ ∃ jp jw js, JR h u G z jp jw js)
def Iv (h : PH) (u : MS) (G : Gh) (z : Sz) : Prop := (SX h G) ∧ (z.ok) ∧ (SzC h z) ∧ (SzK h z) ∧ (SzM u z) ∧ (KR h u G z) ∧ (RmR h u G z) ∧ (TpR h u G) ∧ (OuR h u G) ∧ (DyR h u) ∧ (NuR h u z) ∧ (TeR h u G z) ∧ (hI h 1415 0 = mI u 17) ∧ (IvJ h u G z)
theorem Iv.sx {h : PH} {u : MS} {G : Gh} {z : Sz} (X_ : Iv h u G z) : SX h G := X_.1
theorem Iv.zo {h : PH} {u : MS} {G : Gh} {z : Sz} (X_ : Iv h u G z) : z.ok := X_.2.1
theorem Iv.zc {h : PH} {u : MS} {G : Gh} {z : Sz} (X_ : Iv h u G z) : SzC h z := X_.2.2.1
theorem Iv.zk {h : PH} {u : MS} {G : Gh} {z : Sz} (X_ : Iv h u G z) : SzK h z := X_.2.2.2.1
theorem Iv.zm {h : PH} {u : MS} {G : Gh} {z : Sz} (X_ : Iv h u G z) : SzM u z := X_.2.2.2.2.1
theorem Iv.kr {h : PH} {u : MS} {G : Gh} {z : Sz} (X_ : Iv h u G z) : KR h u G z := X_.2.2.2.2.2.1
theorem Iv.rm {h : PH} {u : MS} {G : Gh} {z : Sz} (X_ : Iv h u G z) : RmR h u G z := X_.2.2.2.2.2.2.1
theorem Iv.tp {h : PH} {u : MS} {G : Gh} {z : Sz} (X_ : Iv h u G z) : TpR h u G := X_.2.2.2.2.2.2.2.1
theorem Iv.ou {h : PH} {u : MS} {G : Gh} {z : Sz} (X_ : Iv h u G z) : OuR h u G := X_.2.2.2.2.2.2.2.2.1
theorem Iv.dy {h : PH} {u : MS} {G : Gh} {z : Sz} (X_ : Iv h u G z) : DyR h u := X_.2.2.2.2.2.2.2.2.2.1
theorem Iv.nu {h : PH} {u : MS} {G : Gh} {z : Sz} (X_ : Iv h u G z) : NuR h u z := X_.2.2.2.2.2.2.2.2.2.2.1
theorem Iv.te {h : PH} {u : MS} {G : Gh} {z : Sz} (X_ : Iv h u G z) : TeR h u G z := X_.2.2.2.2.2.2.2.2.2.2.2.1
theorem Iv.pl {h : PH} {u : MS} {G : Gh} {z : Sz} (X_ : Iv h u G z) : hI h 1415 0 = mI u 17 := X_.2.2.2.2.2.2.2.2.2.2.2.2.1
theorem Iv.ju {h : PH} {u : MS} {G : Gh} {z : Sz} (X_ : Iv h u G z) : IvJ h u G z := X_.2.2.2.2.2.2.2.2.2.2.2.2.2
theorem Iv.mk {h : PH} {u : MS} {G : Gh} {z : Sz} (sx_ : SX h G) (zo_ : z.ok) (zc_ : SzC h z) (zk_ : SzK h z) (zm_ : SzM u z) (kr_ : KR h u G z) (rm_ : RmR h u G z) (tp_ : TpR h u G) (ou_ : OuR h u G) (dy_ : DyR h u) (nu_ : NuR h u z) (te_ : TeR h u G z) (pl_ : hI h 1415 0 = mI u 17) (ju_ : IvJ h u G z) : Iv h u G z := ⟨sx_, zo_, zc_, zk_, zm_, kr_, rm_, tp_, ou_, dy_, nu_, te_, pl_, ju_⟩
def Inv (n c s : Nat) (h : PH) (u : MS) : Prop := ∃ G z, Iv h u G z ∧ Bud n c s h G
theorem Inv_bd : SP_bd Inv := by
  intro n c s h u ⟨G, z, I, b1, b2⟩
  have h1 := I.tp.hn
  have h2 := I.ou.hn
  have h3 := I.rm.p3
  have h4 : (if G.jj then 3 * hN h (G.jd 15) else 0) ≤ 3 * 8192 := by
    rcases I.ju with ⟨j, _⟩ | ⟨j, _, js, _⟩
    · rw [j]; simp
    · rw [j]
      have := js.k4
      simp only [if_true]
      omega
  unfold pot at b1 b2
  exact ⟨by omega, by omega, I.sx.t0⟩
theorem Inv_no : SP_no Inv := by
  intro n c s h u ⟨G, z, I, b1, b2⟩
  exact ⟨G, z, I, by omega, by omega⟩
