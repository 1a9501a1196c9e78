/-! more told: what stood, stands -/
def Sz.le (c d : Sz) : Prop := c.np ≤ d.np ∧ c.nw ≤ d.nw ∧ c.ns ≤ d.ns ∧ c.nl ≤ d.nl ∧ c.nr ≤ d.nr ∧ c.no ≤ d.no ∧ c.pc ≤ d.pc ∧ c.rc ≤ d.rc
theorem Sz.le_refl (c : Sz) : c.le c := ⟨Nat.le_refl _, Nat.le_refl _, Nat.le_refl _, Nat.le_refl _, Nat.le_refl _, Nat.le_refl _, Nat.le_refl _, Nat.le_refl _⟩
theorem Sz.le_trans {a b c : Sz} (h : a.le b) (k : b.le c) : a.le c := ⟨Nat.le_trans h.1 k.1, Nat.le_trans h.2.1 k.2.1, Nat.le_trans h.2.2.1 k.2.2.1, Nat.le_trans h.2.2.2.1 k.2.2.2.1, Nat.le_trans h.2.2.2.2.1 k.2.2.2.2.1, Nat.le_trans h.2.2.2.2.2.1 k.2.2.2.2.2.1, Nat.le_trans h.2.2.2.2.2.2.1 k.2.2.2.2.2.2.1, Nat.le_trans h.2.2.2.2.2.2.2 k.2.2.2.2.2.2.2⟩
theorem okTm.mono {nv np np' t : Nat} (h : np ≤ np') (p : okTm nv np t) : okTm nv np' t := by
  unfold okTm at *
  omega
theorem okK.mono {nv np np' : Nat} {t : Tok} (h : np ≤ np') (p : okK nv np t) : okK nv np' t := ⟨p.1, p.2.1, p.2.2.1, fun q => ⟨(p.2.2.2 q).1.mono h, (p.2.2.2 q).2⟩⟩
theorem okE.mono {nv np np' : Nat} {e : List Tok} (h : np ≤ np') (p : okE nv np e) : okE nv np' e := ⟨fun t ht => (p.1 t ht).mono h, p.2⟩
section MO2
variable {h : PH} {u : MS} {G : Gh} {c d : Sz}
theorem PgR.mono {nv : Nat} {a b x y : Int32} (l : c.le d) (p : PgR h u G c nv a b x y) : PgR h u G d nv a b x y := by
  obtain ⟨e, i, j, p1, p2, p3, p4, p5, p6, p7, p8, p9⟩ := p
  obtain ⟨l1, _, _, _, _, _, l7, l8⟩ := l
  exact ⟨e, i, j, p1.mono l1, p2, p3, p4, p5, by omega, by omega, p8, p9⟩
theorem TmR.mono {nv : Nat} {a b : Int32} (l : c.le d) (p : TmR c nv a b) : TmR d nv a b := by
  obtain ⟨t, p1, p2⟩ := p
  exact ⟨t, p1.mono l.1, p2⟩
theorem LtR.mono {nv : Nat} {s o f g s' o' f' g' : Int32} (l : c.le d) (p : LtR u c nv s o f g s' o' f' g') : LtR u d nv s o f g s' o' f' g' := by
  obtain ⟨w, k, p1, p2, p3, p4, p5, p6, p7, p8, p9⟩ := p
  have l2 := l.2.1
  refine ⟨w, k, by omega, p2, p3, p4, p5, p6, p7, ?_, ?_⟩
  · by_cases q : 0 < k
    · rw [if_pos q] at p8 ⊢; exact p8.mono l
    · rw [if_neg q] at p8 ⊢; exact p8
  · by_cases q : 1 < k
    · rw [if_pos q] at p9 ⊢; exact p9.mono l
    · rw [if_neg q] at p9 ⊢; exact p9
theorem CdR.mono {nv a i : Nat} (l : c.le d) (p : CdR h u G c nv a i) : CdR h u G d nv a i := by
  rcases p with ⟨p1, p2, p3⟩ | ⟨p1, p2, p3, p4⟩ | ⟨p1, p2, p3, p4⟩ | ⟨p1, p2, p3, p4⟩
  · exact .inl ⟨p1, p2, p3.mono l⟩
  · exact .inr (.inl ⟨p1, p2, p3.mono l, p4.mono l⟩)
  · exact .inr (.inr (.inl ⟨p1, p2, p3.mono l, p4.mono l⟩))
  · exact .inr (.inr (.inr ⟨p1, p2, p3.mono l, p4.mono l⟩))
theorem HdR.mono {nv a i : Nat} (l : c.le d) (p : HdR h u G c nv a i) : HdR h u G d nv a i := by
  rcases p with ⟨p1, p2⟩ | ⟨p1, ⟨s, q1, q2⟩, p3, p4, p5, p6, p7⟩
  · exact .inl ⟨p1, p2.mono l⟩
  · have := l.2.2.1
    exact .inr ⟨p1, ⟨s, by omega, q2⟩, p3, p4, p5.mono l, p6, p7.mono l⟩
theorem RuR.mono {r : Nat} (l : c.le d) (p : RuR h u G c r) : RuR h u G d r := by
  obtain ⟨l', k, n, v, h1, h2, h3, h4, h5, h6, h7, h8, h9, ha, hb, hc, hd, he, hf⟩ := p
  have := l.2.2.2.1
  exact ⟨l', k, n, v, by omega, h2, h3, h4, h5, h6, h7, h8, h9, ha, hb, hc, hd, he.mono l, fun i hi => (hf i hi).mono l⟩
end MO2
/-- the data of both, up to the sizes c, while a text is read -/
def CT (h : PH) (u : MS) (G : Gh) (c : Sz) (D : Nat → Nat × Nat × Nat × List Nat) (t : Nat) : Prop := (∀ i, i < c.np → NR (hB h 7 i) (mB u 25 i)) ∧ (∀ i, i < c.nw → NR (hB h 9 i) (mB u 27 i)) ∧ (∀ i, i < c.ns → NR (hB h 11 i) (mB u 29 i)) ∧ (∀ i, i < c.nl → NR (hB h 13 i) (mB u 30 i)) ∧ (∀ i, i < c.nr → NR (hB h 15 i) (mB u 38 i)) ∧ (c.nr ≤ G.nr) ∧ (∀ r, r < c.nr → ∃ k, k ≤ 2 ∧ hI h 1025 (G.rl r) = nI k ∧ mA u 40 r = nI k) ∧ (∀ w, w < c.nw → (∃ k, k ≤ 2 ∧ hA h 16 w = nI k ∧ mA u 28 w = nI k) ∨ ∃ q, FP u q ∧ q < (D t).1) ∧ (mI u 15 = 0 → ∀ i, i < c.nl → hA h 18 (5 * i) = mA u 31 i ∧ hA h 18 (5 * i + 1) = mA u 32 i ∧ hA h 18 (5 * i + 2) = mA u 33 i ∧ hA h 18 (5 * i + 3) = mA u 34 i ∧ hA h 18 (5 * i + 4) = mA u 35 i) ∧ (mI u 15 = 0 → ∀ r, r < c.nr → RuR h u G c r)
theorem CT.pn {h : PH} {u : MS} {G : Gh} {c : Sz} {D : Nat → Nat × Nat × Nat × List Nat} {t : Nat} (X_ : CT h u G c D t) : ∀ i, i < c.np → NR (hB h 7 i) (mB u 25 i) := X_.1
theorem CT.wn {h : PH} {u : MS} {G : Gh} {c : Sz} {D : Nat → Nat × Nat × Nat × List Nat} {t : Nat} (X_ : CT h u G c D t) : ∀ i, i < c.nw → NR (hB h 9 i) (mB u 27 i) := X_.2.1
theorem CT.sn {h : PH} {u : MS} {G : Gh} {c : Sz} {D : Nat → Nat × Nat × Nat × List Nat} {t : Nat} (X_ : CT h u G c D t) : ∀ i, i < c.ns → NR (hB h 11 i) (mB u 29 i) := X_.2.2.1
theorem CT.ln {h : PH} {u : MS} {G : Gh} {c : Sz} {D : Nat → Nat × Nat × Nat × List Nat} {t : Nat} (X_ : CT h u G c D t) : ∀ i, i < c.nl → NR (hB h 13 i) (mB u 30 i) := X_.2.2.2.1
theorem CT.rn {h : PH} {u : MS} {G : Gh} {c : Sz} {D : Nat → Nat × Nat × Nat × List Nat} {t : Nat} (X_ : CT h u G c D t) : ∀ i, i < c.nr → NR (hB h 15 i) (mB u 38 i) := X_.2.2.2.2.1
theorem CT.rG {h : PH} {u : MS} {G : Gh} {c : Sz} {D : Nat → Nat × Nat × Nat × List Nat} {t : Nat} (X_ : CT h u G c D t) : c.nr ≤ G.nr := X_.2.2.2.2.2.1
theorem CT.kd {h : PH} {u : MS} {G : Gh} {c : Sz} {D : Nat → Nat × Nat × Nat × List Nat} {t : Nat} (X_ : CT h u G c D t) : ∀ r, r < c.nr → ∃ k, k ≤ 2 ∧ hI h 1025 (G.rl r) = nI k ∧ mA u 40 r = nI k := X_.2.2.2.2.2.2.1
theorem CT.pl {h : PH} {u : MS} {G : Gh} {c : Sz} {D : Nat → Nat × Nat × Nat × List Nat} {t : Nat} (X_ : CT h u G c D t) : ∀ w, w < c.nw → (∃ k, k ≤ 2 ∧ hA h 16 w = nI k ∧ mA u 28 w = nI k) ∨ ∃ q, FP u q ∧ q < (D t).1 := X_.2.2.2.2.2.2.2.1
theorem CT.lw {h : PH} {u : MS} {G : Gh} {c : Sz} {D : Nat → Nat × Nat × Nat × List Nat} {t : Nat} (X_ : CT h u G c D t) : mI u 15 = 0 → ∀ i, i < c.nl → hA h 18 (5 * i) = mA u 31 i ∧ hA h 18 (5 * i + 1) = mA u 32 i ∧ hA h 18 (5 * i + 2) = mA u 33 i ∧ hA h 18 (5 * i + 3) = mA u 34 i ∧ hA h 18 (5 * i + 4) = mA u 35 i := X_.2.2.2.2.2.2.2.2.1
theorem CT.ru {h : PH} {u : MS} {G : Gh} {c : Sz} {D : Nat → Nat × Nat × Nat × List Nat} {t : Nat} (X_ : CT h u G c D t) : mI u 15 = 0 → ∀ r, r < c.nr → RuR h u G c r := X_.2.2.2.2.2.2.2.2.2
theorem CT.mk {h : PH} {u : MS} {G : Gh} {c : Sz} {D : Nat → Nat × Nat × Nat × List Nat} {t : Nat} (pn_ : ∀ i, i < c.np → NR (hB h 7 i) (mB u 25 i)) (wn_ : ∀ i, i < c.nw → NR (hB h 9 i) (mB u 27 i)) (sn_ : ∀ i, i < c.ns → NR (hB h 11 i) (mB u 29 i)) (ln_ : ∀ i, i < c.nl → NR (hB h 13 i) (mB u 30 i)) (rn_ : ∀ i, i < c.nr → NR (hB h 15 i) (mB u 38 i)) (rG_ : c.nr ≤ G.nr) (kd_ : ∀ r, r < c.nr → ∃ k, k ≤ 2 ∧ hI h 1025 (G.rl r) = nI k ∧ mA u 40 r = nI k) (pl_ : ∀ w, w < c.nw → (∃ k, k ≤ 2 ∧ hA h 16 w = nI k ∧ mA u 28 w = nI k) ∨ ∃ q, FP u q ∧ q < (D t).1) (lw_ : mI u 15 = 0 → ∀ i, i < c.nl → hA h 18 (5 * i) = mA u 31 i ∧ hA h 18 (5 * i + 1) = mA u 32 i ∧ hA h 18 (5 * i + 2) = mA u 33 i ∧ hA h 18 (5 * i + 3) = mA u 34 i ∧ hA h 18 (5 * i + 4) = mA u 35 i) (ru_ : mI u 15 = 0 → ∀ r, r < c.nr → RuR h u G c r) : CT h u G c D t := ⟨pn_, wn_, sn_, ln_, rn_, rG_, kd_, pl_, lw_, ru_⟩
theorem FM.z {h : PH} {u u' : MS} (F : FL h u) (M : FM u u') (z : mI u' 15 = 0) : mI u 15 = 0 := by
  by_cases c : mI u 15 = 0
  · exact c
  · obtain ⟨p, h1, _, h3⟩ := F.2.1 c
    exact absurd z (M 4000 ⟨c, p, h1, h1, h3⟩).1
theorem TS.le {h : PH} {u : MS} {G : Gh} {L n : Nat} {D : Nat → Nat × Nat × Nat × List Nat} (T : TS h u G L n D) {i j : Nat} (hij : i ≤ j) (hj : j < n) : (D i).1 ≤ (D j).1 := by
  by_cases c : i = j
  · rw [c]; exact Nat.le_refl _
  · exact Nat.le_of_lt (T.mo i j (by omega) hj)
theorem RuR.d {h h' : PH} {u u' : MS} {G G' : Gh} {z : Sz} (X : CD h h' G G' z) (M : MD u u' z) {r : Nat} (hr : r < z.nr) (kn : z.nr ≤ G.nr) (K : RuR h u G z r) : RuR h' u' G' z r := by
  obtain ⟨b1, b2, b3, b4, b5⟩ := X.gd.ru r (by omega)
  obtain ⟨l, k, n, v, h1, h2, h3, h4, h5, h6, h7, h8, h9, ha, hb, hc, hd, he, hf⟩ := K
  have eR : ∀ f, hI h' f (G'.rl r) = hI h f (G.rl r) := fun f => by rw [b1]; exact X.ko _ ⟨r, hr, .inl rfl⟩ f
  have eH : ∀ f, hI h' f (G'.hd r) = hI h f (G.hd r) := fun f => by rw [b2]; exact X.ko _ ⟨r, hr, .inr (.inl rfl)⟩ f
  have m : ∀ k, 38 ≤ k → k ≤ 50 → k ≠ 43 → mA u' k r = mA u k r := fun k h1 h2 h3 => (M.kp k r (by unfold kM; omega)).1
  refine ⟨l, k, n, v, h1, h2, h3, by omega, h5, ?_⟩
  simp only [eR, m 39 (by omega) (by omega) (by omega), m 40 (by omega) (by omega) (by omega), m 41 (by omega) (by omega) (by omega), m 42 (by omega) (by omega) (by omega)]
  refine ⟨h6, h7, h8, h9, ha, hb, hc, hd, he.d hr eH X.pg M, fun i hi => (hf i hi).d (by omega) (fun f => ?_) X.pg M⟩
  rw [b5 i (by omega)]
  exact X.ko _ ⟨r, hr, .inr (.inr ⟨i, by omega, rfl⟩)⟩ f
theorem CT.d {h h' : PH} {u u' : MS} {G G' : Gh} {c : Sz} {D : Nat → Nat × Nat × Nat × List Nat} {t t' : Nat} (C : CT h u G c D t) (F : FL h u) (X : CD h h' G G' c) (M : MD u u' c) (fm : FM u u') (hD : (D t).1 ≤ (D t').1) : CT h' u' G' c D t' := by
  have mA_ : ∀ k i, kM c k i → mA u' k i = mA u k i := fun k i q => (M.kp k i q).1
  have mB_ : ∀ k i, kM c k i → mB u' k i = mB u k i := fun k i q => (M.kp k i q).2
  have rG := C.rG
  refine CT.mk ?_ ?_ ?_ ?_ ?_ (Nat.le_trans rG X.gd.nr) ?_ ?_ ?_ ?_
  · exact fun i hi => by rw [(X.kp 7 i (by unfold kC; omega)).2, mB_ 25 i (by unfold kM; omega)]; exact C.pn i hi
  · exact fun i hi => by rw [(X.kp 9 i (by unfold kC; omega)).2, mB_ 27 i (by unfold kM; omega)]; exact C.wn i hi
  · exact fun i hi => by rw [(X.kp 11 i (by unfold kC; omega)).2, mB_ 29 i (by unfold kM; omega)]; exact C.sn i hi
  · exact fun i hi => by rw [(X.kp 13 i (by unfold kC; omega)).2, mB_ 30 i (by unfold kM; omega)]; exact C.ln i hi
  · exact fun i hi => by rw [(X.kp 15 i (by unfold kC; omega)).2, mB_ 38 i (by unfold kM; omega)]; exact C.rn i hi
  · intro r hr
    obtain ⟨k, k1, k2, k3⟩ := C.kd r hr
    refine ⟨k, k1, ?_, (mA_ 40 r (by unfold kM; omega)).trans k3⟩
    rw [(X.gd.ru r (by omega)).1]
    exact (X.ko _ ⟨r, hr, .inl rfl⟩ _).trans k2
  · intro w hw
    rcases C.pl w hw with ⟨k, k1, k2, k3⟩ | ⟨q, q1, q2⟩
    · exact .inl ⟨k, k1, ((X.kp 16 w (by unfold kC; omega)).1).trans k2, (mA_ 28 w (by unfold kM; omega)).trans k3⟩
    · exact .inr ⟨q, fm q q1, by omega⟩
  · intro e i hi
    have m : ∀ k, 31 ≤ k → k ≤ 35 → mA u' k i = mA u k i := fun k h1 h2 => mA_ k i (by unfold kM; omega)
    have a : ∀ k, k < 5 → hA h' 18 (5 * i + k) = hA h 18 (5 * i + k) := fun k hk => (X.kp 18 _ (by unfold kC; omega)).1
    have a0 := a 0 (by omega)
    rw [Nat.add_zero] at a0
    rw [a0, a 1 (by omega), a 2 (by omega), a 3 (by omega), a 4 (by omega), m 31 (by omega) (by omega), m 32 (by omega) (by omega), m 33 (by omega) (by omega), m 34 (by omega) (by omega), m 35 (by omega) (by omega)]
    exact C.lw (FM.z F fm e) i hi
  · exact fun e r hr => (C.ru (FM.z F fm e) r hr).d X M hr rG
/-- both stand between two tokens, nothing has stopped them: c is what was told up to here -/
def LR (h : PH) (u : MS) (G : Gh) (z : Sz) (c : Sz) (n : Nat) (D : Nat → Nat × Nat × Nat × List Nat) (t : Nat) : Prop := (z.le c) ∧ (c.ok) ∧ (hI h 897 6 = nI c.np ∧ hI h 897 8 = nI c.nw ∧ hI h 897 10 = nI c.ns ∧ hI h 897 12 = nI c.nl ∧ hI h 897 14 = nI c.nr ∧ hI h 139 5 = nI z.no ∧ hI h 142 5 = nI c.pc) ∧ (SzM u c) ∧ (hI h 517 23 = nI (c.no - z.no)) ∧ (mI u 63 = nI (2 * (c.no - z.no))) ∧ (∀ i, i < c.no - z.no → ∃ k, k + 1 < n ∧ (D k).2.1 = 1 ∧ (D (k + 1)).2.1 = 1 ∧ hA h 30 i = nI k ∧ mA u 64 (2 * i) = nI k ∧ mA u 64 (2 * i + 1) = nI (k + 1)) ∧ (CT h u G c D t) ∧ (c.pc ≤ z.pc + t) ∧ (c.rc ≤ z.rc + t) ∧ (c.pc ≤ hN h G.pg) ∧ (c.pc ≤ z.pc + 1200 * (c.nr - z.nr) ∧ c.rc ≤ z.rc + 1200 * (c.nr - z.nr))
theorem LR.le {h : PH} {u : MS} {G : Gh} {z : Sz} {c : Sz} {n : Nat} {D : Nat → Nat × Nat × Nat × List Nat} {t : Nat} (X_ : LR h u G z c n D t) : z.le c := X_.1
theorem LR.ok {h : PH} {u : MS} {G : Gh} {z : Sz} {c : Sz} {n : Nat} {D : Nat → Nat × Nat × Nat × List Nat} {t : Nat} (X_ : LR h u G z c n D t) : c.ok := X_.2.1
theorem LR.zc {h : PH} {u : MS} {G : Gh} {z : Sz} {c : Sz} {n : Nat} {D : Nat → Nat × Nat × Nat × List Nat} {t : Nat} (X_ : LR h u G z c n D t) : hI h 897 6 = nI c.np ∧ hI h 897 8 = nI c.nw ∧ hI h 897 10 = nI c.ns ∧ hI h 897 12 = nI c.nl ∧ hI h 897 14 = nI c.nr ∧ hI h 139 5 = nI z.no ∧ hI h 142 5 = nI c.pc := X_.2.2.1
theorem LR.zm {h : PH} {u : MS} {G : Gh} {z : Sz} {c : Sz} {n : Nat} {D : Nat → Nat × Nat × Nat × List Nat} {t : Nat} (X_ : LR h u G z c n D t) : SzM u c := X_.2.2.2.1
theorem LR.o1 {h : PH} {u : MS} {G : Gh} {z : Sz} {c : Sz} {n : Nat} {D : Nat → Nat × Nat × Nat × List Nat} {t : Nat} (X_ : LR h u G z c n D t) : hI h 517 23 = nI (c.no - z.no) := X_.2.2.2.2.1
theorem LR.o2 {h : PH} {u : MS} {G : Gh} {z : Sz} {c : Sz} {n : Nat} {D : Nat → Nat × Nat × Nat × List Nat} {t : Nat} (X_ : LR h u G z c n D t) : mI u 63 = nI (2 * (c.no - z.no)) := X_.2.2.2.2.2.1
theorem LR.ot {h : PH} {u : MS} {G : Gh} {z : Sz} {c : Sz} {n : Nat} {D : Nat → Nat × Nat × Nat × List Nat} {t : Nat} (X_ : LR h u G z c n D t) : ∀ i, i < c.no - z.no → ∃ k, k + 1 < n ∧ (D k).2.1 = 1 ∧ (D (k + 1)).2.1 = 1 ∧ hA h 30 i = nI k ∧ mA u 64 (2 * i) = nI k ∧ mA u 64 (2 * i + 1) = nI (k + 1) := X_.2.2.2.2.2.2.1
theorem LR.ct {h : PH} {u : MS} {G : Gh} {z : Sz} {c : Sz} {n : Nat} {D : Nat → Nat × Nat × Nat × List Nat} {t : Nat} (X_ : LR h u G z c n D t) : CT h u G c D t := X_.2.2.2.2.2.2.2.1
theorem LR.p1 {h : PH} {u : MS} {G : Gh} {z : Sz} {c : Sz} {n : Nat} {D : Nat → Nat × Nat × Nat × List Nat} {t : Nat} (X_ : LR h u G z c n D t) : c.pc ≤ z.pc + t := X_.2.2.2.2.2.2.2.2.1
theorem LR.p2 {h : PH} {u : MS} {G : Gh} {z : Sz} {c : Sz} {n : Nat} {D : Nat → Nat × Nat × Nat × List Nat} {t : Nat} (X_ : LR h u G z c n D t) : c.rc ≤ z.rc + t := X_.2.2.2.2.2.2.2.2.2.1
theorem LR.p3 {h : PH} {u : MS} {G : Gh} {z : Sz} {c : Sz} {n : Nat} {D : Nat → Nat × Nat × Nat × List Nat} {t : Nat} (X_ : LR h u G z c n D t) : c.pc ≤ hN h G.pg := X_.2.2.2.2.2.2.2.2.2.2.1
theorem LR.p4 {h : PH} {u : MS} {G : Gh} {z : Sz} {c : Sz} {n : Nat} {D : Nat → Nat × Nat × Nat × List Nat} {t : Nat} (X_ : LR h u G z c n D t) : c.pc ≤ z.pc + 1200 * (c.nr - z.nr) ∧ c.rc ≤ z.rc + 1200 * (c.nr - z.nr) := X_.2.2.2.2.2.2.2.2.2.2.2
theorem LR.mk {h : PH} {u : MS} {G : Gh} {z : Sz} {c : Sz} {n : Nat} {D : Nat → Nat × Nat × Nat × List Nat} {t : Nat} (le_ : z.le c) (ok_ : c.ok) (zc_ : hI h 897 6 = nI c.np ∧ hI h 897 8 = nI c.nw ∧ hI h 897 10 = nI c.ns ∧ hI h 897 12 = nI c.nl ∧ hI h 897 14 = nI c.nr ∧ hI h 139 5 = nI z.no ∧ hI h 142 5 = nI c.pc) (zm_ : SzM u c) (o1_ : hI h 517 23 = nI (c.no - z.no)) (o2_ : mI u 63 = nI (2 * (c.no - z.no))) (ot_ : ∀ i, i < c.no - z.no → ∃ k, k + 1 < n ∧ (D k).2.1 = 1 ∧ (D (k + 1)).2.1 = 1 ∧ hA h 30 i = nI k ∧ mA u 64 (2 * i) = nI k ∧ mA u 64 (2 * i + 1) = nI (k + 1)) (ct_ : CT h u G c D t) (p1_ : c.pc ≤ z.pc + t) (p2_ : c.rc ≤ z.rc + t) (p3_ : c.pc ≤ hN h G.pg) (p4_ : c.pc ≤ z.pc + 1200 * (c.nr - z.nr) ∧ c.rc ≤ z.rc + 1200 * (c.nr - z.nr)) : LR h u G z c n D t := ⟨le_, ok_, zc_, zm_, o1_, o2_, ot_, ct_, p1_, p2_, p3_, p4_⟩
/-- a move over tokens changes no data -/
theorem LR.q {h h' : PH} {u u' : MS} {G : Gh} {z c : Sz} {n : Nat} {D : Nat → Nat × Nat × Nat × List Nat} {t t' : Nat} (R : LR h u G z c n D t) (S : SX h G) (F : FL h u) (X : Q h h') (M : W' u u') (fm : FM u u') (ht : t ≤ t') (hD : (D t).1 ≤ (D t').1) : LR h' u' G z c n D t' := by
  have mi : ∀ k, ¬ (k = 11 ∨ (13 ≤ k ∧ k ≤ 16)) → mI u' k = mI u k := M.I
  obtain ⟨c1, c2, c3, c4, c5, c6, c7⟩ := R.zc
  refine LR.mk R.le R.ok ⟨(X.I _ _ (by omega)).trans c1, (X.I _ _ (by omega)).trans c2, (X.I _ _ (by omega)).trans c3, (X.I _ _ (by omega)).trans c4, (X.I _ _ (by omega)).trans c5, (X.I _ _ (by omega)).trans c6, (X.I _ _ (by omega)).trans c7⟩ ?_ ((X.g _ (by omega)).trans R.o1) ((mi _ (by omega)).trans R.o2) ?_ (R.ct.d F (X.cd S R.ct.rG) (M.md c) fm hD) (by have := R.p1; omega) (by have := R.p2; omega) (by rw [X.N]; exact R.p3) R.p4
  · have := R.zm
    unfold SzM at *
    rw [mi 18 (by omega), mi 19 (by omega), mi 20 (by omega), mi 21 (by omega), mi 22 (by omega), mi 23 (by omega), mi 24 (by omega)]
    exact this
  · intro i hi
    obtain ⟨k, q1, q2, q3, q4, q5, q6⟩ := R.ot i hi
    exact ⟨k, q1, q2, q3, by rw [X.A]; exact q4, by rw [M.A]; exact q5, by rw [M.A]; exact q6⟩
