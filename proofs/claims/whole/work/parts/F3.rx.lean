/-! a rule is read -/
def inL (u : MS) (l : Nat) : MS := mSA u 35 l (mA u 35 l + 1)
def Sz.wC (c : Sz) (pc rc : Nat) : Sz := Sz.mk c.np c.nw c.ns c.nl c.nr c.no pc rc
theorem Sz.wC_le {c : Sz} {pc rc pc' rc' : Nat} (h1 : pc ≤ pc') (h2 : rc ≤ rc') : (c.wC pc rc).le (c.wC pc' rc') := ⟨Nat.le_refl _, Nat.le_refl _, Nat.le_refl _, Nat.le_refl _, Nat.le_refl _, Nat.le_refl _, h1, h2⟩
theorem MD.inL' {u u' : MS} {c : Sz} (M : MD u u' c) {l : Nat} (hl : l < c.nl) : MD (inL u l) (inL u' l) c := by
  have e := (M.kp 35 l (by unfold kM; omega)).1
  refine ⟨fun k hk => ⟨(M.ag k hk).1, (M.ag k hk).2.1, fun i => ?_, (M.ag k hk).2.2.2⟩, fun k i q => ⟨?_, (M.kp k i q).2⟩⟩
  · unfold inL
    simp only [z_mI_mSI, z_mL_mSI, z_mA_mSI, z_mB_mSI, z_mI_mSL, z_mL_mSL, z_mA_mSL, z_mB_mSL, z_mI_mSA, z_mL_mSA, z_mA_mSA, z_mB_mSA, z_mI_mSB, z_mL_mSB, z_mA_mSB, z_mB_mSB]
    rw [if_neg (fun q => by omega), if_neg (fun q => by omega)]
    exact (M.ag k hk).2.2.1 i
  · unfold inL
    simp only [z_mI_mSI, z_mL_mSI, z_mA_mSI, z_mB_mSI, z_mI_mSL, z_mL_mSL, z_mA_mSL, z_mB_mSL, z_mI_mSA, z_mL_mSA, z_mA_mSA, z_mB_mSA, z_mI_mSB, z_mL_mSB, z_mA_mSB, z_mB_mSB]
    by_cases q1 : k = 35 ∧ i = l
    · rw [if_pos q1, if_pos q1, e]
    · rw [if_neg q1, if_neg q1]; exact (M.kp k i q).1
theorem okE.nv {a b np : Nat} {e : List Tok} (hv : a ≤ b) (p : okE a np e) : okE b np e := ⟨fun t ht => (p.1 t ht).nv hv, p.2⟩
section MV
variable {h h' : PH} {u u' : MS} {G G' : Gh} {c c' : Sz} {nv nv' : Nat}
theorem PgR.x {a b x y : Int32} (pg : ∀ i, i < c.pc → hA h' G'.pg i = hA h G.pg i) (mp : ∀ k i, 60 ≤ k → k ≤ 62 → i < c.rc → mA u' k i = mA u k i) (l : c.le c') (hv : nv ≤ nv') (p : PgR h u G c nv a b x y) : PgR h' u' G' c' nv' a b x y := by
  obtain ⟨e, i, j, p1, p2, p3, p4, p5, p6, p7, p8, p9⟩ := p
  obtain ⟨l1, _, _, _, _, _, l7, l8⟩ := l
  refine ⟨e, i, j, (p1.mono l1).nv hv, p2, p3, p4, p5, by omega, by omega, fun k hk => (pg _ (by omega)).trans (p8 k hk), fun k hk => ?_⟩
  rw [mp 60 _ (by omega) (by omega) (by omega), mp 61 _ (by omega) (by omega) (by omega), mp 62 _ (by omega) (by omega) (by omega)]
  exact p9 k hk
theorem LtR.x {s o f g s' o' f' g' : Int32} (m28 : ∀ j, j < c.nw → mA u' 28 j = mA u 28 j) (l : c.le c') (hv : nv ≤ nv') (p : LtR u c nv s o f g s' o' f' g') : LtR u' c' nv' s o f g s' o' f' g' := by
  obtain ⟨w, k, p1, p2, p3, p4, p5, p6, p7, p8, p9⟩ := p
  have l2 := l.2.1
  refine ⟨w, k, by omega, p2, (m28 w p1).trans p3, p4, p5, p6, p7, ?_, ?_⟩
  · by_cases q : 0 < k
    · rw [if_pos q] at p8 ⊢; exact (p8.mono l).nv hv
    · rw [if_neg q] at p8 ⊢; exact p8
  · by_cases q : 1 < k
    · rw [if_pos q] at p9 ⊢; exact (p9.mono l).nv hv
    · rw [if_neg q] at p9 ⊢; exact p9
theorem CdR.x {a a' i : Nat} (eI : ∀ f, hI h' f a' = hI h f a) (m : ∀ k, 51 ≤ k → k ≤ 59 → mA u' k i = mA u k i) (m28 : ∀ j, j < c.nw → mA u' 28 j = mA u 28 j) (pg : ∀ i, i < c.pc → hA h' G'.pg i = hA h G.pg i) (mp : ∀ k i, 60 ≤ k → k ≤ 62 → i < c.rc → mA u' k i = mA u k i) (l : c.le c') (hv : nv ≤ nv') (p : CdR h u G c nv a i) : CdR h' u' G' c' nv' a' i := by
  unfold CdR at *
  simp only [eI, m 51 (by omega) (by omega), m 52 (by omega) (by omega), m 53 (by omega) (by omega), m 54 (by omega) (by omega), m 55 (by omega) (by omega), m 56 (by omega) (by omega), m 57 (by omega) (by omega), m 58 (by omega) (by omega), m 59 (by omega) (by omega)]
  rcases p with ⟨p1, p2, p3⟩ | ⟨p1, p2, p3, p4⟩ | ⟨p1, p2, p3, p4⟩ | ⟨p1, p2, p3, p4⟩
  · exact .inl ⟨p1, p2, p3.x m28 l hv⟩
  · exact .inr (.inl ⟨p1, p2, (p3.mono l).nv hv, (p4.mono l).nv hv⟩)
  · exact .inr (.inr (.inl ⟨p1, p2, (p3.mono l).nv hv, (p4.mono l).nv hv⟩))
  · exact .inr (.inr (.inr ⟨p1, p2, p3.x pg mp l hv, p4.x pg mp l hv⟩))
end MV
/-- both in rule w, behind c: kc conditions begun by the class, k told by both -/
def RX (h : PH) (u : MS) (G : Gh) (z : Sz) (c : Sz) (w : Nat) (v : Nat) (L : Nat) (n : Nat) (D : Nat → Nat × Nat × Nat × List Nat) (t : Nat) (pc : Nat) (rc : Nat) (y : Nat) (kc : Nat) (k : Nat) : Prop := (PI h u G z L n D) ∧ (Liv h u D n t) ∧ (FL h u) ∧ (VS h u w v) ∧ (z.le c) ∧ (c.ok) ∧ (c.nr = w) ∧ (w < G.nr) ∧ (z.nl < c.nl) ∧ (hI h 897 6 = nI c.np ∧ hI h 897 8 = nI c.nw ∧ hI h 897 10 = nI c.ns ∧ hI h 897 12 = nI c.nl ∧ hI h 897 14 = nI (w + 1) ∧ hI h 139 5 = nI z.no) ∧ (hI h 142 5 = nI pc) ∧ (mI u 18 = nI c.np ∧ mI u 19 = nI c.nw ∧ mI u 20 = nI c.ns ∧ mI u 21 = nI c.nl ∧ mI u 22 = nI w ∧ mI u 23 = nI c.no) ∧ (mI u 24 = nI rc) ∧ (hI h 517 23 = nI (c.no - z.no)) ∧ (mI u 63 = nI (2 * (c.no - z.no))) ∧ (∀ i, i < c.no - z.no → ∃ k, k + 1 < n ∧ (D k).2.1 = 1 ∧ (D (k + 1)).2.1 = 1 ∧ hA h 30 i = nI k ∧ mA u 64 (2 * i) = nI k ∧ mA u 64 (2 * i + 1) = nI (k + 1)) ∧ (CT h (inL u (c.nl - 1)) G c D t) ∧ (NR (hB h 15 w) (mB u 38 w)) ∧ (c.pc ≤ pc) ∧ (c.rc ≤ rc) ∧ (pc ≤ z.pc + t) ∧ (rc ≤ z.rc + t) ∧ (pc ≤ hN h G.pg) ∧ (hI h 1024 (G.rl w) = nI (c.nl - 1) ∧ mA u 39 w = nI (c.nl - 1)) ∧ (y ≤ 2) ∧ (hI h 1025 (G.rl w) = nI y ∧ mA u 40 w = nI y) ∧ (hI h 1027 (G.rl w) = nI kc) ∧ (mA u 41 w = nI k) ∧ (kc ≤ 6) ∧ (kc ≤ G.nc w) ∧ (k ≤ kc) ∧ (mI u 15 = 0 → ∀ i, i < k → CdR h u G (c.wC pc rc) v (G.cd w i) (6 * w + i))
theorem RX.i {h : PH} {u : MS} {G : Gh} {z : Sz} {c : Sz} {w : Nat} {v : Nat} {L : Nat} {n : Nat} {D : Nat → Nat × Nat × Nat × List Nat} {t : Nat} {pc : Nat} {rc : Nat} {y : Nat} {kc : Nat} {k : Nat} (X_ : RX h u G z c w v L n D t pc rc y kc k) : PI h u G z L n D := X_.1
theorem RX.V {h : PH} {u : MS} {G : Gh} {z : Sz} {c : Sz} {w : Nat} {v : Nat} {L : Nat} {n : Nat} {D : Nat → Nat × Nat × Nat × List Nat} {t : Nat} {pc : Nat} {rc : Nat} {y : Nat} {kc : Nat} {k : Nat} (X_ : RX h u G z c w v L n D t pc rc y kc k) : Liv h u D n t := X_.2.1
theorem RX.F {h : PH} {u : MS} {G : Gh} {z : Sz} {c : Sz} {w : Nat} {v : Nat} {L : Nat} {n : Nat} {D : Nat → Nat × Nat × Nat × List Nat} {t : Nat} {pc : Nat} {rc : Nat} {y : Nat} {kc : Nat} {k : Nat} (X_ : RX h u G z c w v L n D t pc rc y kc k) : FL h u := X_.2.2.1
theorem RX.K {h : PH} {u : MS} {G : Gh} {z : Sz} {c : Sz} {w : Nat} {v : Nat} {L : Nat} {n : Nat} {D : Nat → Nat × Nat × Nat × List Nat} {t : Nat} {pc : Nat} {rc : Nat} {y : Nat} {kc : Nat} {k : Nat} (X_ : RX h u G z c w v L n D t pc rc y kc k) : VS h u w v := X_.2.2.2.1
theorem RX.le {h : PH} {u : MS} {G : Gh} {z : Sz} {c : Sz} {w : Nat} {v : Nat} {L : Nat} {n : Nat} {D : Nat → Nat × Nat × Nat × List Nat} {t : Nat} {pc : Nat} {rc : Nat} {y : Nat} {kc : Nat} {k : Nat} (X_ : RX h u G z c w v L n D t pc rc y kc k) : z.le c := X_.2.2.2.2.1
theorem RX.ok {h : PH} {u : MS} {G : Gh} {z : Sz} {c : Sz} {w : Nat} {v : Nat} {L : Nat} {n : Nat} {D : Nat → Nat × Nat × Nat × List Nat} {t : Nat} {pc : Nat} {rc : Nat} {y : Nat} {kc : Nat} {k : Nat} (X_ : RX h u G z c w v L n D t pc rc y kc k) : c.ok := X_.2.2.2.2.2.1
theorem RX.wc {h : PH} {u : MS} {G : Gh} {z : Sz} {c : Sz} {w : Nat} {v : Nat} {L : Nat} {n : Nat} {D : Nat → Nat × Nat × Nat × List Nat} {t : Nat} {pc : Nat} {rc : Nat} {y : Nat} {kc : Nat} {k : Nat} (X_ : RX h u G z c w v L n D t pc rc y kc k) : c.nr = w := X_.2.2.2.2.2.2.1
theorem RX.wG {h : PH} {u : MS} {G : Gh} {z : Sz} {c : Sz} {w : Nat} {v : Nat} {L : Nat} {n : Nat} {D : Nat → Nat × Nat × Nat × List Nat} {t : Nat} {pc : Nat} {rc : Nat} {y : Nat} {kc : Nat} {k : Nat} (X_ : RX h u G z c w v L n D t pc rc y kc k) : w < G.nr := X_.2.2.2.2.2.2.2.1
theorem RX.l1 {h : PH} {u : MS} {G : Gh} {z : Sz} {c : Sz} {w : Nat} {v : Nat} {L : Nat} {n : Nat} {D : Nat → Nat × Nat × Nat × List Nat} {t : Nat} {pc : Nat} {rc : Nat} {y : Nat} {kc : Nat} {k : Nat} (X_ : RX h u G z c w v L n D t pc rc y kc k) : z.nl < c.nl := X_.2.2.2.2.2.2.2.2.1
theorem RX.zc {h : PH} {u : MS} {G : Gh} {z : Sz} {c : Sz} {w : Nat} {v : Nat} {L : Nat} {n : Nat} {D : Nat → Nat × Nat × Nat × List Nat} {t : Nat} {pc : Nat} {rc : Nat} {y : Nat} {kc : Nat} {k : Nat} (X_ : RX h u G z c w v L n D t pc rc y kc k) : hI h 897 6 = nI c.np ∧ hI h 897 8 = nI c.nw ∧ hI h 897 10 = nI c.ns ∧ hI h 897 12 = nI c.nl ∧ hI h 897 14 = nI (w + 1) ∧ hI h 139 5 = nI z.no := X_.2.2.2.2.2.2.2.2.2.1
theorem RX.sz {h : PH} {u : MS} {G : Gh} {z : Sz} {c : Sz} {w : Nat} {v : Nat} {L : Nat} {n : Nat} {D : Nat → Nat × Nat × Nat × List Nat} {t : Nat} {pc : Nat} {rc : Nat} {y : Nat} {kc : Nat} {k : Nat} (X_ : RX h u G z c w v L n D t pc rc y kc k) : hI h 142 5 = nI pc := X_.2.2.2.2.2.2.2.2.2.2.1
theorem RX.zm {h : PH} {u : MS} {G : Gh} {z : Sz} {c : Sz} {w : Nat} {v : Nat} {L : Nat} {n : Nat} {D : Nat → Nat × Nat × Nat × List Nat} {t : Nat} {pc : Nat} {rc : Nat} {y : Nat} {kc : Nat} {k : Nat} (X_ : RX h u G z c w v L n D t pc rc y kc k) : mI u 18 = nI c.np ∧ mI u 19 = nI c.nw ∧ mI u 20 = nI c.ns ∧ mI u 21 = nI c.nl ∧ mI u 22 = nI w ∧ mI u 23 = nI c.no := X_.2.2.2.2.2.2.2.2.2.2.2.1
theorem RX.m24 {h : PH} {u : MS} {G : Gh} {z : Sz} {c : Sz} {w : Nat} {v : Nat} {L : Nat} {n : Nat} {D : Nat → Nat × Nat × Nat × List Nat} {t : Nat} {pc : Nat} {rc : Nat} {y : Nat} {kc : Nat} {k : Nat} (X_ : RX h u G z c w v L n D t pc rc y kc k) : mI u 24 = nI rc := X_.2.2.2.2.2.2.2.2.2.2.2.2.1
theorem RX.o1 {h : PH} {u : MS} {G : Gh} {z : Sz} {c : Sz} {w : Nat} {v : Nat} {L : Nat} {n : Nat} {D : Nat → Nat × Nat × Nat × List Nat} {t : Nat} {pc : Nat} {rc : Nat} {y : Nat} {kc : Nat} {k : Nat} (X_ : RX h u G z c w v L n D t pc rc y kc k) : hI h 517 23 = nI (c.no - z.no) := X_.2.2.2.2.2.2.2.2.2.2.2.2.2.1
theorem RX.o2 {h : PH} {u : MS} {G : Gh} {z : Sz} {c : Sz} {w : Nat} {v : Nat} {L : Nat} {n : Nat} {D : Nat → Nat × Nat × Nat × List Nat} {t : Nat} {pc : Nat} {rc : Nat} {y : Nat} {kc : Nat} {k : Nat} (X_ : RX h u G z c w v L n D t pc rc y kc k) : mI u 63 = nI (2 * (c.no - z.no)) := X_.2.2.2.2.2.2.2.2.2.2.2.2.2.2.1
theorem RX.ot {h : PH} {u : MS} {G : Gh} {z : Sz} {c : Sz} {w : Nat} {v : Nat} {L : Nat} {n : Nat} {D : Nat → Nat × Nat × Nat × List Nat} {t : Nat} {pc : Nat} {rc : Nat} {y : Nat} {kc : Nat} {k : Nat} (X_ : RX h u G z c w v L n D t pc rc y kc k) : ∀ i, i < c.no - z.no → ∃ k, k + 1 < n ∧ (D k).2.1 = 1 ∧ (D (k + 1)).2.1 = 1 ∧ hA h 30 i = nI k ∧ mA u 64 (2 * i) = nI k ∧ mA u 64 (2 * i + 1) = nI (k + 1) := X_.2.2.2.2.2.2.2.2.2.2.2.2.2.2.2.1
theorem RX.ct {h : PH} {u : MS} {G : Gh} {z : Sz} {c : Sz} {w : Nat} {v : Nat} {L : Nat} {n : Nat} {D : Nat → Nat × Nat × Nat × List Nat} {t : Nat} {pc : Nat} {rc : Nat} {y : Nat} {kc : Nat} {k : Nat} (X_ : RX h u G z c w v L n D t pc rc y kc k) : CT h (inL u (c.nl - 1)) G c D t := X_.2.2.2.2.2.2.2.2.2.2.2.2.2.2.2.2.1
theorem RX.nm {h : PH} {u : MS} {G : Gh} {z : Sz} {c : Sz} {w : Nat} {v : Nat} {L : Nat} {n : Nat} {D : Nat → Nat × Nat × Nat × List Nat} {t : Nat} {pc : Nat} {rc : Nat} {y : Nat} {kc : Nat} {k : Nat} (X_ : RX h u G z c w v L n D t pc rc y kc k) : NR (hB h 15 w) (mB u 38 w) := X_.2.2.2.2.2.2.2.2.2.2.2.2.2.2.2.2.2.1
theorem RX.p0 {h : PH} {u : MS} {G : Gh} {z : Sz} {c : Sz} {w : Nat} {v : Nat} {L : Nat} {n : Nat} {D : Nat → Nat × Nat × Nat × List Nat} {t : Nat} {pc : Nat} {rc : Nat} {y : Nat} {kc : Nat} {k : Nat} (X_ : RX h u G z c w v L n D t pc rc y kc k) : c.pc ≤ pc := X_.2.2.2.2.2.2.2.2.2.2.2.2.2.2.2.2.2.2.1
theorem RX.r0 {h : PH} {u : MS} {G : Gh} {z : Sz} {c : Sz} {w : Nat} {v : Nat} {L : Nat} {n : Nat} {D : Nat → Nat × Nat × Nat × List Nat} {t : Nat} {pc : Nat} {rc : Nat} {y : Nat} {kc : Nat} {k : Nat} (X_ : RX h u G z c w v L n D t pc rc y kc k) : c.rc ≤ rc := X_.2.2.2.2.2.2.2.2.2.2.2.2.2.2.2.2.2.2.2.1
theorem RX.b1 {h : PH} {u : MS} {G : Gh} {z : Sz} {c : Sz} {w : Nat} {v : Nat} {L : Nat} {n : Nat} {D : Nat → Nat × Nat × Nat × List Nat} {t : Nat} {pc : Nat} {rc : Nat} {y : Nat} {kc : Nat} {k : Nat} (X_ : RX h u G z c w v L n D t pc rc y kc k) : pc ≤ z.pc + t := X_.2.2.2.2.2.2.2.2.2.2.2.2.2.2.2.2.2.2.2.2.1
theorem RX.b2 {h : PH} {u : MS} {G : Gh} {z : Sz} {c : Sz} {w : Nat} {v : Nat} {L : Nat} {n : Nat} {D : Nat → Nat × Nat × Nat × List Nat} {t : Nat} {pc : Nat} {rc : Nat} {y : Nat} {kc : Nat} {k : Nat} (X_ : RX h u G z c w v L n D t pc rc y kc k) : rc ≤ z.rc + t := X_.2.2.2.2.2.2.2.2.2.2.2.2.2.2.2.2.2.2.2.2.2.1
theorem RX.hp {h : PH} {u : MS} {G : Gh} {z : Sz} {c : Sz} {w : Nat} {v : Nat} {L : Nat} {n : Nat} {D : Nat → Nat × Nat × Nat × List Nat} {t : Nat} {pc : Nat} {rc : Nat} {y : Nat} {kc : Nat} {k : Nat} (X_ : RX h u G z c w v L n D t pc rc y kc k) : pc ≤ hN h G.pg := X_.2.2.2.2.2.2.2.2.2.2.2.2.2.2.2.2.2.2.2.2.2.2.1
theorem RX.lw {h : PH} {u : MS} {G : Gh} {z : Sz} {c : Sz} {w : Nat} {v : Nat} {L : Nat} {n : Nat} {D : Nat → Nat × Nat × Nat × List Nat} {t : Nat} {pc : Nat} {rc : Nat} {y : Nat} {kc : Nat} {k : Nat} (X_ : RX h u G z c w v L n D t pc rc y kc k) : hI h 1024 (G.rl w) = nI (c.nl - 1) ∧ mA u 39 w = nI (c.nl - 1) := X_.2.2.2.2.2.2.2.2.2.2.2.2.2.2.2.2.2.2.2.2.2.2.2.1
theorem RX.y2 {h : PH} {u : MS} {G : Gh} {z : Sz} {c : Sz} {w : Nat} {v : Nat} {L : Nat} {n : Nat} {D : Nat → Nat × Nat × Nat × List Nat} {t : Nat} {pc : Nat} {rc : Nat} {y : Nat} {kc : Nat} {k : Nat} (X_ : RX h u G z c w v L n D t pc rc y kc k) : y ≤ 2 := X_.2.2.2.2.2.2.2.2.2.2.2.2.2.2.2.2.2.2.2.2.2.2.2.2.1
theorem RX.kd {h : PH} {u : MS} {G : Gh} {z : Sz} {c : Sz} {w : Nat} {v : Nat} {L : Nat} {n : Nat} {D : Nat → Nat × Nat × Nat × List Nat} {t : Nat} {pc : Nat} {rc : Nat} {y : Nat} {kc : Nat} {k : Nat} (X_ : RX h u G z c w v L n D t pc rc y kc k) : hI h 1025 (G.rl w) = nI y ∧ mA u 40 w = nI y := X_.2.2.2.2.2.2.2.2.2.2.2.2.2.2.2.2.2.2.2.2.2.2.2.2.2.1
theorem RX.n1 {h : PH} {u : MS} {G : Gh} {z : Sz} {c : Sz} {w : Nat} {v : Nat} {L : Nat} {n : Nat} {D : Nat → Nat × Nat × Nat × List Nat} {t : Nat} {pc : Nat} {rc : Nat} {y : Nat} {kc : Nat} {k : Nat} (X_ : RX h u G z c w v L n D t pc rc y kc k) : hI h 1027 (G.rl w) = nI kc := X_.2.2.2.2.2.2.2.2.2.2.2.2.2.2.2.2.2.2.2.2.2.2.2.2.2.2.1
theorem RX.n2 {h : PH} {u : MS} {G : Gh} {z : Sz} {c : Sz} {w : Nat} {v : Nat} {L : Nat} {n : Nat} {D : Nat → Nat × Nat × Nat × List Nat} {t : Nat} {pc : Nat} {rc : Nat} {y : Nat} {kc : Nat} {k : Nat} (X_ : RX h u G z c w v L n D t pc rc y kc k) : mA u 41 w = nI k := X_.2.2.2.2.2.2.2.2.2.2.2.2.2.2.2.2.2.2.2.2.2.2.2.2.2.2.2.1
theorem RX.k6 {h : PH} {u : MS} {G : Gh} {z : Sz} {c : Sz} {w : Nat} {v : Nat} {L : Nat} {n : Nat} {D : Nat → Nat × Nat × Nat × List Nat} {t : Nat} {pc : Nat} {rc : Nat} {y : Nat} {kc : Nat} {k : Nat} (X_ : RX h u G z c w v L n D t pc rc y kc k) : kc ≤ 6 := X_.2.2.2.2.2.2.2.2.2.2.2.2.2.2.2.2.2.2.2.2.2.2.2.2.2.2.2.2.1
theorem RX.kn {h : PH} {u : MS} {G : Gh} {z : Sz} {c : Sz} {w : Nat} {v : Nat} {L : Nat} {n : Nat} {D : Nat → Nat × Nat × Nat × List Nat} {t : Nat} {pc : Nat} {rc : Nat} {y : Nat} {kc : Nat} {k : Nat} (X_ : RX h u G z c w v L n D t pc rc y kc k) : kc ≤ G.nc w := X_.2.2.2.2.2.2.2.2.2.2.2.2.2.2.2.2.2.2.2.2.2.2.2.2.2.2.2.2.2.1
theorem RX.kk {h : PH} {u : MS} {G : Gh} {z : Sz} {c : Sz} {w : Nat} {v : Nat} {L : Nat} {n : Nat} {D : Nat → Nat × Nat × Nat × List Nat} {t : Nat} {pc : Nat} {rc : Nat} {y : Nat} {kc : Nat} {k : Nat} (X_ : RX h u G z c w v L n D t pc rc y kc k) : k ≤ kc := X_.2.2.2.2.2.2.2.2.2.2.2.2.2.2.2.2.2.2.2.2.2.2.2.2.2.2.2.2.2.2.1
theorem RX.cs {h : PH} {u : MS} {G : Gh} {z : Sz} {c : Sz} {w : Nat} {v : Nat} {L : Nat} {n : Nat} {D : Nat → Nat × Nat × Nat × List Nat} {t : Nat} {pc : Nat} {rc : Nat} {y : Nat} {kc : Nat} {k : Nat} (X_ : RX h u G z c w v L n D t pc rc y kc k) : mI u 15 = 0 → ∀ i, i < k → CdR h u G (c.wC pc rc) v (G.cd w i) (6 * w + i) := X_.2.2.2.2.2.2.2.2.2.2.2.2.2.2.2.2.2.2.2.2.2.2.2.2.2.2.2.2.2.2.2
theorem RX.mk {h : PH} {u : MS} {G : Gh} {z : Sz} {c : Sz} {w : Nat} {v : Nat} {L : Nat} {n : Nat} {D : Nat → Nat × Nat × Nat × List Nat} {t : Nat} {pc : Nat} {rc : Nat} {y : Nat} {kc : Nat} {k : Nat} (i_ : PI h u G z L n D) (V_ : Liv h u D n t) (F_ : FL h u) (K_ : VS h u w v) (le_ : z.le c) (ok_ : c.ok) (wc_ : c.nr = w) (wG_ : w < G.nr) (l1_ : z.nl < c.nl) (zc_ : hI h 897 6 = nI c.np ∧ hI h 897 8 = nI c.nw ∧ hI h 897 10 = nI c.ns ∧ hI h 897 12 = nI c.nl ∧ hI h 897 14 = nI (w + 1) ∧ hI h 139 5 = nI z.no) (sz_ : hI h 142 5 = nI pc) (zm_ : mI u 18 = nI c.np ∧ mI u 19 = nI c.nw ∧ mI u 20 = nI c.ns ∧ mI u 21 = nI c.nl ∧ mI u 22 = nI w ∧ mI u 23 = nI c.no) (m24_ : mI u 24 = nI rc) (o1_ : hI h 517 23 = nI (c.no - z.no)) (o2_ : mI u 63 = nI (2 * (c.no - z.no))) (ot_ : ∀ i, i < c.no - z.no → ∃ k, k + 1 < n ∧ (D k).2.1 = 1 ∧ (D (k + 1)).2.1 = 1 ∧ hA h 30 i = nI k ∧ mA u 64 (2 * i) = nI k ∧ mA u 64 (2 * i + 1) = nI (k + 1)) (ct_ : CT h (inL u (c.nl - 1)) G c D t) (nm_ : NR (hB h 15 w) (mB u 38 w)) (p0_ : c.pc ≤ pc) (r0_ : c.rc ≤ rc) (b1_ : pc ≤ z.pc + t) (b2_ : rc ≤ z.rc + t) (hp_ : pc ≤ hN h G.pg) (lw_ : hI h 1024 (G.rl w) = nI (c.nl - 1) ∧ mA u 39 w = nI (c.nl - 1)) (y2_ : y ≤ 2) (kd_ : hI h 1025 (G.rl w) = nI y ∧ mA u 40 w = nI y) (n1_ : hI h 1027 (G.rl w) = nI kc) (n2_ : mA u 41 w = nI k) (k6_ : kc ≤ 6) (kn_ : kc ≤ G.nc w) (kk_ : k ≤ kc) (cs_ : mI u 15 = 0 → ∀ i, i < k → CdR h u G (c.wC pc rc) v (G.cd w i) (6 * w + i)) : RX h u G z c w v L n D t pc rc y kc k := ⟨i_, V_, F_, K_, le_, ok_, wc_, wG_, l1_, zc_, sz_, zm_, m24_, o1_, o2_, ot_, ct_, nm_, p0_, r0_, b1_, b2_, hp_, lw_, y2_, kd_, n1_, n2_, k6_, kn_, kk_, cs_⟩
section RX
variable {h h' : PH} {u u' : MS} {G G' : Gh} {z c : Sz} {w v v' L n t t' pc rc pc' rc' y kc k a : Nat} {D : Nat → Nat × Nat × Nat × List Nat}
theorem RX.zs (X : RX h u G z c w v L n D t pc rc y kc k) : z.nr ≤ w ∧ z.pc ≤ pc ∧ z.rc ≤ rc := by
  obtain ⟨_, _, _, _, l5, _, l7, l8⟩ := X.le
  have := X.wc
  have := X.p0
  have := X.r0
  exact ⟨by omega, by omega, by omega⟩
theorem RX.bp (X : RX h u G z c w v L n D t pc rc y kc k) : z.pc ≤ 37700 ∧ z.rc ≤ 35670 ∧ pc ≤ 38902 ∧ rc < 36880 ∧ t ≤ 1200 := by
  have a1 := X.i.rm.p4
  have a2 := X.i.rm.p5
  have a3 := X.zs.1
  have a4 := X.K.w3
  have a5 := X.b1
  have a6 := X.b2
  have a7 := X.V.lt
  have a8 := X.i.ts.n2
  omega
/-- the object that is told now: the head, or a condition behind those told -/
def OA (G : Gh) (w k a : Nat) : Prop := a = 23 ∨ G.ow a = 330000 + w ∨ ∃ j, k ≤ j ∧ j < 6 ∧ G.ow a = 340000 + 10 * w + j
theorem OA.ne (S : SX h G) (o : OA G w k a) (hw : w < 30) {b x : Nat} (hb : G.ow b = x) (h1 : x < 330000 ∨ 350000 ≤ x) (h2 : x ≠ 700023) : b ≠ a := by
  rcases o with o | o | ⟨j, _, _, o⟩
  · rw [o]; exact ne_ow hb S.o23 h2
  · exact ne_ow hb o (by omega)
  · exact ne_ow hb o (by omega)
theorem RX.rd (X : RX h u G z c w v L n D t pc rc y kc k) (R : RD h u h' u' G G' w a pc rc) (oa : OA G w k a) (V' : Liv h' u' D n t') (F' : FL h' u') (fm : FM u u') (K' : VS h' u' w v') (hv : v ≤ v') (ht : t ≤ t') (hp1 : pc ≤ pc') (hr1 : rc ≤ rc') (sz' : hI h' 142 5 = nI pc') (m24' : mI u' 24 = nI rc') (hp' : pc' ≤ hN h' G'.pg) (b1' : pc' ≤ z.pc + t') (b2' : rc' ≤ z.rc + t') : RX h' u' G' z c w v' L n D t' pc' rc' y kc k := by
  have S := X.i.sx
  have zz := S.zz
  have w3 := X.K.w3
  have r30 := S.nr30
  obtain ⟨q1, q2, q3⟩ := X.zs
  obtain ⟨g1, g2, g3, g4, g5, g6⟩ := R.ge
  obtain ⟨z1, z2, z3, z4, z5, z6⟩ := X.zc
  obtain ⟨m1, m2, m3, m4, m5, m6⟩ := X.zm
  have wc := X.wc
  have l1 := X.l1
  have hD : (D t).1 ≤ (D t').1 := X.i.ts.le ht V'.lt
  have i' : ∀ f b x, G.ow b = x → (x < 330000 ∨ 350000 ≤ x) → x ≠ 700023 → ¬ (f = 142 ∧ b = 5) → hI h' f b = hI h f b := fun f b x e h1 h2 h3 => R.I f b (ne_ow e S.o23 h2) (oa.ne S w3 e h1 h2) h3
  have rl : ∀ f, hI h' f (G'.rl w) = hI h f (G.rl w) := fun f => by
    rw [g1]
    have e := S.rlo w X.wG
    exact i' f _ _ e (by omega) (by omega) (fun q => by rw [q.2, S.o5] at e; omega)
  have ma : ∀ k i, k ≠ 42 → k ≠ 43 → ¬ (60 ≤ k ∧ k ≤ 62) → k ≠ 71 → mA u' k i = mA u k i := R.ma
  refine RX.mk (X.i.rd R q1 q2 q3) V' F' K' X.le X.ok wc (by rw [g5]; exact X.wG) l1 ⟨(i' _ _ _ S.o6 (by omega) (by omega) (by omega)).trans z1, (i' _ _ _ S.o8 (by omega) (by omega) (by omega)).trans z2, (i' _ _ _ S.o10 (by omega) (by omega) (by omega)).trans z3, (i' _ _ _ S.o12 (by omega) (by omega) (by omega)).trans z4, (i' _ _ _ S.o14 (by omega) (by omega) (by omega)).trans z5, (i' _ _ _ S.o5 (by omega) (by omega) (by omega)).trans z6⟩ sz' ⟨(R.mi 18 (by omega)).trans m1, (R.mi 19 (by omega)).trans m2, (R.mi 20 (by omega)).trans m3, (R.mi 21 (by omega)).trans m4, (R.mi 22 (by omega)).trans m5, (R.mi 23 (by omega)).trans m6⟩ m24' ((R.g 517 (by omega) (by omega)).trans X.o1) ((R.mi 63 (by omega)).trans X.o2) (fun i hi => ?_) ?_ (by rw [R.B 15 w (by omega), R.mb]; exact X.nm) (Nat.le_trans X.p0 hp1) (Nat.le_trans X.r0 hr1) b1' b2' hp' ⟨(rl _).trans X.lw.1, (ma 39 w (by omega) (by omega) (by omega) (by omega)).trans X.lw.2⟩ X.y2 ⟨(rl _).trans X.kd.1, (ma 40 w (by omega) (by omega) (by omega) (by omega)).trans X.kd.2⟩ ((rl _).trans X.n1) ((ma 41 w (by omega) (by omega) (by omega) (by omega)).trans X.n2) X.k6 (by rw [g6]; exact X.kn) X.kk (fun e i hi => ?_)
  · obtain ⟨k, b1, b2, b3, b4, b5, b6⟩ := X.ot i hi
    exact ⟨k, b1, b2, b3, (R.A 30 i (by omega) (by omega) (by rw [S.o30]; omega)).trans b4, (ma 64 _ (by omega) (by omega) (by omega) (by omega)).trans b5, (ma 64 _ (by omega) (by omega) (by omega) (by omega)).trans b6⟩
  · exact X.ct.d (t' := t') X.F (R.cd c (by omega) X.ct.rG X.p0) ((R.md c (by omega) X.r0).inL' (by omega)) fm hD
  · have kn := X.kn
    have kk := X.kk
    have e' := S.cdo w X.wG i (by omega)
    have n6 := S.nc6 w X.wG
    have ca : G.cd w i ≠ a := by
      rcases oa with o | o | ⟨j, j1, j2, o⟩
      · rw [o]; exact ne_ow e' S.o23 (by omega)
      · exact ne_ow e' o (by omega)
      · exact ne_ow e' o (by omega)
    refine (X.cs (FM.z X.F fm e) i hi).x (c := c.wC pc rc) (c' := c.wC pc' rc') (fun f => ?_) (fun k h1 h2 => ma k _ (by omega) (by omega) (by omega) (by omega)) (fun j _ => ma 28 j (by omega) (by omega) (by omega) (by omega)) (fun i hi => R.pg i hi) (fun k i h1 h2 h3 => R.mp k i h1 h2 h3) (Sz.wC_le hp1 hr1) hv
    rw [g4]
    exact R.I f _ (ne_ow e' S.o23 (by omega)) ca (fun q => by rw [q.2, S.o5] at e'; omega)
theorem RX.ld (X : RX h u G z c w v L n D t pc rc y kc k) (T : LD h u h' u' G w a) (oa : OA G w k a) (V' : Liv h' u' D n t') (F' : FL h' u') (fm : FM u u') (K' : VS h' u' w v') (hv : v ≤ v') (ht : t ≤ t') : RX h' u' G z c w v' L n D t' pc rc y kc k :=
  X.rd (RD.ld X.i.sx T pc rc) oa V' F' fm K' hv ht (Nat.le_refl _) (Nat.le_refl _) ((T.I _ _ (by omega) (oa.ne X.i.sx X.K.w3 X.i.sx.o5 (by omega) (by omega))).trans X.sz) ((T.mi 24 (by omega)).trans X.m24) (by rw [T.N]; exact X.hp) (by have := X.b1; omega) (by have := X.b2; omega)
theorem RX.mv (X : RX h u G z c w v L n D t pc rc y kc k) (Q1 : Q h h') (W1 : W' u u') (V' : Liv h' u' D n t') (F' : FL h' u') (fm : FM u u') (ht : t ≤ t') : RX h' u' G z c w v L n D t' pc rc y kc k := X.ld (a := 23) (LD.q X.i.sx Q1 W1) (.inl rfl) V' F' fm (X.K.q Q1 W1) (Nat.le_refl _) ht
theorem OA.ob (o : OA G w k a) (h : a ≠ 23) : OB G w a := by
  rcases o with o | o | ⟨j, _, j2, o⟩
  · exact absurd o h
  · exact .inl o
  · exact .inr ⟨j, j2, o⟩
theorem RX.setC (X : RX h u G z c w v L n D t pc rc y kc k) (oa : OA G w k a) (ob : OB G w a) (f : Nat) (hf : 256 ≤ f ∧ f ≤ 263) (x : Int32) : RX (sI h f a x) u G z c w v L n D t pc rc y kc k := by
  have n23 := ob.n23 X.i.sx X.K.w3
  have e : ∀ g, hI (sI h f a x) g 23 = hI h g 23 := fun g => by simp only [z_hI_sI, z_hL_sI, z_hR_sI, z_hA_sI, z_hB_sI, z_hC_sI, z_hT_sI, z_hN_sI, z_hZ_sI, z_hI_sL, z_hL_sL, z_hR_sL, z_hA_sL, z_hB_sL, z_hC_sL, z_hT_sL, z_hN_sL, z_hZ_sL, z_hI_sR, z_hL_sR, z_hR_sR, z_hA_sR, z_hB_sR, z_hC_sR, z_hT_sR, z_hN_sR, z_hZ_sR, z_hI_sA, z_hL_sA, z_hR_sA, z_hA_sA, z_hB_sA, z_hC_sA, z_hT_sA, z_hN_sA, z_hZ_sA, z_hI_sB, z_hL_sB, z_hR_sB, z_hA_sB, z_hB_sB, z_hC_sB, z_hT_sB, z_hN_sB, z_hZ_sB, z_hI_sC, z_hL_sC, z_hR_sC, z_hA_sC, z_hB_sC, z_hC_sC, z_hT_sC, z_hN_sC, z_hZ_sC, z_hI_sY, z_hL_sY, z_hR_sY, z_hA_sY, z_hB_sY, z_hC_sY, z_hT_sY, z_hN_sY, z_hZ_sY, z_hI_nO, z_hL_nO, z_hR_nO, z_hA_nO, z_hB_nO, z_hC_nO, z_hT_nO, z_hN_nO, z_hZ_nO, z_hI_nA, z_hL_nA, z_hR_nA, z_hA_nA, z_hB_nA, z_hC_nA, z_hT_nA, z_hN_nA, z_hZ_nA]; rw [if_neg (fun q => n23 q.2.symm)]
  exact X.ld (LD.sI X.i.sx ob X.K.w3 f hf x) oa (X.V.fr (fun g _ => e g) rfl rfl rfl) (X.F.fr (e _) (e _) rfl rfl) (FM.refl u) ⟨X.K.v3, X.K.w3, (e _).trans X.K.vc, X.K.m65, X.K.m42, X.K.vl⟩ (Nat.le_refl _) (Nat.le_refl _)
/-- the reference's own rows of the rule -/
def RMs (u : MS) (u' : MS) (w : Nat) (k : Nat) : Prop := (∀ zz : Sz, zz.nr ≤ w → MD u u' zz) ∧ (mI u' = mI u) ∧ (mB u' = mB u) ∧ (∀ j i, ¬ ((51 ≤ j ∧ j ≤ 59 ∧ i = 6 * w + k) ∨ (44 ≤ j ∧ j ≤ 50 ∧ i = w)) → mA u' j i = mA u j i)
theorem RMs.md {u : MS} {u' : MS} {w : Nat} {k : Nat} (X_ : RMs u u' w k) : ∀ zz : Sz, zz.nr ≤ w → MD u u' zz := X_.1
theorem RMs.I {u : MS} {u' : MS} {w : Nat} {k : Nat} (X_ : RMs u u' w k) : mI u' = mI u := X_.2.1
theorem RMs.B {u : MS} {u' : MS} {w : Nat} {k : Nat} (X_ : RMs u u' w k) : mB u' = mB u := X_.2.2.1
theorem RMs.A {u : MS} {u' : MS} {w : Nat} {k : Nat} (X_ : RMs u u' w k) : ∀ j i, ¬ ((51 ≤ j ∧ j ≤ 59 ∧ i = 6 * w + k) ∨ (44 ≤ j ∧ j ≤ 50 ∧ i = w)) → mA u' j i = mA u j i := X_.2.2.2
theorem RMs.mk {u : MS} {u' : MS} {w : Nat} {k : Nat} (md_ : ∀ zz : Sz, zz.nr ≤ w → MD u u' zz) (I_ : mI u' = mI u) (B_ : mB u' = mB u) (A_ : ∀ j i, ¬ ((51 ≤ j ∧ j ≤ 59 ∧ i = 6 * w + k) ∨ (44 ≤ j ∧ j ≤ 50 ∧ i = w)) → mA u' j i = mA u j i) : RMs u u' w k := ⟨md_, I_, B_, A_⟩
theorem RMs.refl (u : MS) (w k : Nat) : RMs u u w k := ⟨fun zz _ => MD.refl u zz, rfl, rfl, fun _ _ _ => rfl⟩
theorem RMs.sA {u u' : MS} {w k : Nat} (X : RMs u u' w k) {j i : Nat} {x : Int32} (h : (51 ≤ j ∧ j ≤ 59 ∧ i = 6 * w + k) ∨ (44 ≤ j ∧ j ≤ 50 ∧ i = w)) : RMs u (mSA u' j i x) w k := by
  refine ⟨fun zz hz => (X.md zz hz).sA (by omega) (by unfold kM; omega), X.I, X.B, fun j' i' q => ?_⟩
  simp only [z_mI_mSI, z_mL_mSI, z_mA_mSI, z_mB_mSI, z_mI_mSL, z_mL_mSL, z_mA_mSL, z_mB_mSL, z_mI_mSA, z_mL_mSA, z_mA_mSA, z_mB_mSA, z_mI_mSB, z_mL_mSB, z_mA_mSB, z_mB_mSB]
  rw [if_neg (fun e => q (by rw [e.1, e.2]; exact h))]
  exact X.A j' i' q
theorem RX.am (X : RX h u G z c w v L n D t pc rc y kc k) (M : RMs u u' w k) : RX h u' G z c w v L n D t pc rc y kc k := by
  have S := X.i.sx
  obtain ⟨q1, q2, q3⟩ := X.zs
  have wc := X.wc
  have l1 := X.l1
  have I := M.I
  have ma : ∀ j i, j < 44 ∨ 59 < j → mA u' j i = mA u j i := fun j i hj => M.A j i (by omega)
  have V' : Liv h u' D n t := X.V.fr (fun _ _ => rfl) rfl (by rw [I]) (by rw [I])
  have F' : FL h u' := X.F.fr rfl rfl (by rw [I]) (by rw [I])
  have fm : FM u u' := FM.of (by rw [I]) (by rw [I])
  have K' : VS h u' w v := ⟨X.K.v3, X.K.w3, X.K.vc, by rw [I]; exact X.K.m65, (ma 42 w (by omega)).trans X.K.m42, fun i hi => by rw [ma 43 _ (by omega)]; exact X.K.vl i hi⟩
  refine RX.mk (X.i.d (CD.refl S z) (M.md z q1) X.i.rm.p3) V' F' K' X.le X.ok wc X.wG l1 X.zc X.sz (by rw [I]; exact X.zm) (by rw [I]; exact X.m24) X.o1 (by rw [I]; exact X.o2) (fun i hi => ?_) ?_ (by rw [M.B]; exact X.nm) X.p0 X.r0 X.b1 X.b2 X.hp ⟨X.lw.1, (ma 39 w (by omega)).trans X.lw.2⟩ X.y2 ⟨X.kd.1, (ma 40 w (by omega)).trans X.kd.2⟩ X.n1 ((ma 41 w (by omega)).trans X.n2) X.k6 X.kn X.kk (fun e i hi => ?_)
  · obtain ⟨k, b1, b2, b3, b4, b5, b6⟩ := X.ot i hi
    exact ⟨k, b1, b2, b3, b4, (ma 64 _ (by omega)).trans b5, (ma 64 _ (by omega)).trans b6⟩
  · exact X.ct.d (t' := t) X.F (CD.refl S c) ((M.md c (by omega)).inL' (by omega)) fm (Nat.le_refl _)
  · rw [I] at e
    exact (X.cs e i hi).x (c := c.wC pc rc) (c' := c.wC pc rc) (fun _ => rfl) (fun j h1 h2 => M.A j _ (by omega)) (fun j _ => ma 28 j (by omega)) (fun _ _ => rfl) (fun j i h1 h2 h3 => ma j i (by omega)) (Sz.le_refl _) (Nat.le_refl _)
theorem RX.lx (X : RX h u G z c w v L n D t pc rc y kc k) (ob : OB G w a) (ta : hT h a = 3) : LX h u G z c w v a L n D t := ⟨X.i, X.V, X.F, X.K, X.zc.1, X.zc.2.1, X.zm.1, X.zm.2.1, X.ct.pn, X.ct.wn, X.ct.pl, ta, X.zs.1, X.ok.1, X.ok.2.1, ob⟩
theorem RX.fx (X : RX h u G z c w v L n D t pc rc y kc k) : FX h (mSI (mSI u 70 0) 12 0) G z w v L n D t c.np pc rc 0 0 [] := by
  have S := X.i.sx
  obtain ⟨q1, q2, q3⟩ := X.zs
  have g : ∀ j, j ≠ 70 → j ≠ 12 → mI (mSI (mSI u 70 0) 12 0) j = mI u j := fun j h1 h2 => by simp only [z_mI_mSI, z_mL_mSI, z_mA_mSI, z_mB_mSI, z_mI_mSL, z_mL_mSL, z_mA_mSL, z_mB_mSL, z_mI_mSA, z_mL_mSA, z_mA_mSA, z_mB_mSA, z_mI_mSB, z_mL_mSB, z_mA_mSB, z_mB_mSB]; rw [if_neg h2, if_neg h1]
  have R : RD h u h (mSI (mSI u 70 0) 12 0) G G w 23 pc rc := (RD.si S u w pc rc (k := 70) (by omega) 0).trans (RD.si S _ w pc rc (k := 12) (by omega) 0) (Nat.le_refl _) (Nat.le_refl _)
  exact ⟨X.i.rd R q1 q2 q3, X.V.fr (fun _ _ => rfl) rfl (g 11 (by omega) (by omega)) (g 13 (by omega) (by omega)), X.F.fr rfl rfl (g 15 (by omega) (by omega)) (g 16 (by omega) (by omega)), ⟨X.K.v3, X.K.w3, X.K.vc, (g 65 (by omega) (by omega)).trans X.K.m65, X.K.m42, X.K.vl⟩, X.zc.1, X.ok.1, X.ct.pn, (g 18 (by omega) (by omega)).trans X.zm.1, q1, X.wG, q2, q3, X.sz, X.hp, (g 24 (by omega) (by omega)).trans X.m24, X.b1, X.b2, by simp only [z_mI_mSI, z_mL_mSI, z_mA_mSI, z_mB_mSI, z_mI_mSL, z_mL_mSL, z_mA_mSL, z_mB_mSL, z_mI_mSA, z_mL_mSA, z_mA_mSA, z_mB_mSA, z_mI_mSB, z_mL_mSB, z_mA_mSB, z_mB_mSB, if_true, if_false, and_false, false_and, and_true, true_and, and_self, decide_true, decide_false, reduceCtorEq, not_false_eq_true, not_true_eq_false, Nat.reduceEqDiff, Nat.reduceAdd, Nat.reduceMul, Nat.add_zero, Nat.zero_add]; rfl, fun i hi => absurd hi (by simp), by simp only [z_mI_mSI, z_mL_mSI, z_mA_mSI, z_mB_mSI, z_mI_mSL, z_mL_mSL, z_mA_mSL, z_mB_mSL, z_mI_mSA, z_mL_mSA, z_mA_mSA, z_mB_mSA, z_mI_mSB, z_mL_mSB, z_mA_mSB, z_mB_mSB, if_true, if_false, and_false, false_and, and_true, true_and, and_self, decide_true, decide_false, reduceCtorEq, not_false_eq_true, not_true_eq_false, Nat.reduceEqDiff, Nat.reduceAdd, Nat.reduceMul, Nat.add_zero, Nat.zero_add]; rfl⟩
end RX
