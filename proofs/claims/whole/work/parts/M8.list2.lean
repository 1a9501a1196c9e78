theorem growJ {h : PH} {G : Gh} {i t : Nat} (S : SX h G) (J : G.jj = true) (hi : li3 i t) (li : G.jd i < hZ h) : ∃ h' G', SX h' G' ∧ GJ (fun _ => False) h h' G G' ∧ hI h' = hI h ∧ (∀ k, k ≠ i → G'.jd k = G.jd k) ∧ hN h' (G'.jd i) = 2 * hN h (G.jd i) ∧ (∀ q, hA h' (G'.jd i) q = if q < hN h (G.jd i) then hA h (G.jd i) q else 0) ∧ sR (cpH h t (G.jd i)) (637 + i) (G.jd 0) (some (hZ h)) = h' := by
  refine ⟨grH h G i t, grG h G i, grow_sx S J hi, grow_gj (by unfold li3 at hi; omega), rfl, fun k hk => jup_n hk, ?_, ?_, rfl⟩
  · have e : (grG h G i).jd i = hZ h := jup_s
    rw [e, grH_N, if_pos rfl]
  · intro q
    have e : (grG h G i).jd i = hZ h := jup_s
    rw [e, grH_v li]
theorem GJ.all {h h' : PH} {G G' : Gh} (a : GJ (fun _ => False) h h' G G') {b : Nat} (lb : b < hZ h) : (∀ f, hI h' f b = hI h f b) ∧ (∀ f, hL h' f b = hL h f b) ∧ (∀ q, hA h' b q = hA h b q) ∧ ∀ q, hB h' b q = hB h b q := a.ag b ⟨lb, fun _ _ p => p.elim⟩
theorem cpH_T {h : PH} {t a b : Nat} (lb : b < hZ h) : hT (cpH h t a) b = hT h b := by
  unfold cpH
  simp only [z_hI_sI, z_hL_sI, z_hR_sI, z_hA_sI, z_hB_sI, z_hC_sI, z_hT_sI, z_hN_sI, z_hZ_sI, z_hI_sL, z_hL_sL, z_hR_sL, z_hA_sL, z_hB_sL, z_hC_sL, z_hT_sL, z_hN_sL, z_hZ_sL, z_hI_sR, z_hL_sR, z_hR_sR, z_hA_sR, z_hB_sR, z_hC_sR, z_hT_sR, z_hN_sR, z_hZ_sR, z_hI_sA, z_hL_sA, z_hR_sA, z_hA_sA, z_hB_sA, z_hC_sA, z_hT_sA, z_hN_sA, z_hZ_sA, z_hI_sB, z_hL_sB, z_hR_sB, z_hA_sB, z_hB_sB, z_hC_sB, z_hT_sB, z_hN_sB, z_hZ_sB, z_hI_sC, z_hL_sC, z_hR_sC, z_hA_sC, z_hB_sC, z_hC_sC, z_hT_sC, z_hN_sC, z_hZ_sC, z_hI_sY, z_hL_sY, z_hR_sY, z_hA_sY, z_hB_sY, z_hC_sY, z_hT_sY, z_hN_sY, z_hZ_sY, z_hI_nO, z_hL_nO, z_hR_nO, z_hA_nO, z_hB_nO, z_hC_nO, z_hT_nO, z_hN_nO, z_hZ_nO, z_hI_nA, z_hL_nA, z_hR_nA, z_hA_nA, z_hB_nA, z_hC_nA, z_hT_nA, z_hN_nA, z_hZ_nA]
  rw [if_neg (by omega)]
theorem grow_v {h : PH} {G : Gh} {L : List Nat} {hd : Nat → Nat} {x : Nat} (S : SX h G) (J : G.jj = true) (Ls : LSt h G L hd) (lt : L.length = hN h (G.jd 15)) (h4 : L.length ≤ 4096) : ∃ h' G', fX5_list h (G.jd 0) (nI x) (nI (hd x)) = oK3 1 (2 * L.length) (oK3 1 (2 * L.length) (oK3 1 (2 * L.length) (fX5_list_63 h' (G.jd 0) (nI x) (nI (hd x))))) ∧ SX h' G' ∧ GJ (fun _ => False) h h' G G' ∧ LSt h' G' L hd ∧ hN h' (G'.jd 15) = 2 * L.length ∧ hI h' = hI h ∧ G'.jd 0 = G.jd 0 := by
  have k1 := Ls.k1
  have k2 := Ls.k2
  have k3 := Ls.k3
  have e2 : nI L.length * 2 = nI (2 * L.length) := by rw [show (2 : Int32) = nI 2 from rfl, nI_mul]; congr 1; omega
  have l0 : G.jd 0 < hZ h := S.lt (S.jt0 J) (by decide)
  have l15 : G.jd 15 < hZ h := S.lt (S.jt15 J) (by decide)
  have l16 : G.jd 16 < hZ h := S.lt (S.jt16 J) (by decide)
  have l17 : G.jd 17 < hZ h := S.lt (S.jt17 J) (by decide)
  obtain ⟨h1, G1, S1, g1, I1, d1, n1, a1, q1⟩ := growJ (i := 15) (t := 101) S J (.inl ⟨rfl, rfl⟩) l15
  have J1 : G1.jj = true := g1.jj.trans J
  have z1 := g1.Z
  have d10 := d1 0 (by decide)
  have d16 := d1 16 (by decide)
  have d17 := d1 17 (by decide)
  have N16 : hN h1 (G1.jd 16) = L.length := by rw [d16, g1.N _ l16, k1, lt]
  have l16' : G1.jd 16 < hZ h1 := by rw [d16]; omega
  obtain ⟨h2, G2, S2, g2, I2, d2, n2, a2, q2⟩ := growJ (i := 16) (t := 101) S1 J1 (.inr (.inl ⟨rfl, rfl⟩)) l16'
  have J2 : G2.jj = true := g2.jj.trans J1
  have z2 := g2.Z
  have d20 : G2.jd 0 = G.jd 0 := (d2 0 (by decide)).trans d10
  have d27 : G2.jd 17 = G.jd 17 := (d2 17 (by decide)).trans d17
  have N17 : hN h2 (G2.jd 17) = L.length := by rw [d27, g2.N _ (by omega), g1.N _ l17, k2, lt]
  have l17' : G2.jd 17 < hZ h2 := by rw [d27]; omega
  have A17 : ∀ q, hA h2 (G2.jd 17) q = hA h (G.jd 17) q := fun q => by
    rw [d27, (g2.all (by omega)).2.2.1, (g1.all l17).2.2.1]
  obtain ⟨h3, G3, S3, g3, I3, d3, n3, a3, q3⟩ := growJ (i := 17) (t := 100) S2 J2 (.inr (.inr ⟨rfl, rfl⟩)) l17'
  have z3 := g3.Z
  have d30 : G3.jd 0 = G.jd 0 := (d3 0 (by decide)).trans d20
  have l15' : G1.jd 15 < hZ h1 := S1.lt (S1.jt15 J1) (by decide)
  have e15 : G3.jd 15 = G1.jd 15 := (d3 15 (by decide)).trans (d2 15 (by decide))
  have e16 : G3.jd 16 = G2.jd 16 := d3 16 (by decide)
  have l16'' : G2.jd 16 < hZ h2 := S2.lt (S2.jt16 J2) (by decide)
  have m15 : hN h3 (G3.jd 15) = 2 * L.length := by rw [e15, g3.N _ (by omega), g2.N _ l15', n1, lt]
  have m16 : hN h3 (G3.jd 16) = 2 * L.length := by rw [e16, g3.N _ l16'', n2, N16]
  have m17 : hN h3 (G3.jd 17) = 2 * L.length := by rw [n3, N17]
  have b15 : ∀ q, hA h3 (G3.jd 15) q = if q < L.length then hA h (G.jd 15) q else 0 := fun q => by
    rw [e15, (g3.all (by omega)).2.2.1, (g2.all l15').2.2.1, a1, lt]
  have b16 : ∀ q, hA h3 (G3.jd 16) q = if q < L.length then hA h (G.jd 16) q else 0 := fun q => by
    rw [e16, (g3.all l16'').2.2.1, a2, N16, d16, (g1.all l16).2.2.1]
  have b17 : ∀ q, hA h3 (G3.jd 17) q = if q < L.length then hA h (G.jd 17) q else 0 := fun q => by
    rw [a3, N17, A17]
  have c1 : fJ7_copyOf_59c91 h (some (G.jd 15)) (nI (2 * L.length)) = some (cpH h 101 (G.jd 15), some (hZ h), 1, 2 * L.length) := by
    rw [lt]; exact copyI_v (S.jt15 J) l15 (by omega) (by omega)
  have c2 : fJ7_copyOf_59c91 h1 (some (G1.jd 16)) (nI (2 * L.length)) = some (cpH h1 101 (G1.jd 16), some (hZ h1), 1, 2 * L.length) := by
    rw [← N16]; exact copyI_v (S1.jt16 J1) l16' (by omega) (by omega)
  have c3 : fJ7_copyOf_9075b h2 (some (G2.jd 17)) (nI (2 * L.length)) = some (cpH h2 100 (G2.jd 17), some (hZ h2), 1, 2 * L.length) := by
    rw [← N17]; exact copyB_v (S2.jt17 J2) l17' (by omega) (by omega) (fun i => by rw [A17]; exact Ls.bt i)
  have i1 : hI h1 655 (G.jd 0) = nI L.length := by rw [I1]; exact Ls.n
  have i2 : hI h2 655 (G.jd 0) = nI L.length := by rw [I2]; exact i1
  have i3 : hI h3 = hI h := by rw [I3, I2, I1]
  have r1 : hR h1 653 (G.jd 0) = some (G1.jd 16) := by rw [← d10]; exact S1.jr653 J1
  have r2 : hR h2 654 (G.jd 0) = some (G2.jd 17) := by rw [← d20]; exact S2.jr654 J2
  have t1 : hT (cpH h 101 (G.jd 15)) (G.jd 0) = 6 := by rw [cpH_T l0]; exact S.jt0 J
  have t2 : hT (cpH h1 101 (G1.jd 16)) (G.jd 0) = 6 := by rw [cpH_T (by omega), ← d10]; exact S1.jt0 J1
  have t3 : hT (cpH h2 100 (G2.jd 17)) (G.jd 0) = 6 := by rw [cpH_T (by omega), ← d20]; exact S2.jt0 J2
  have q1' : sR (cpH h 101 (G.jd 15)) 652 (G.jd 0) (some (hZ h)) = h1 := q1
  have q2' : sR (cpH h1 101 (G1.jd 16)) 653 (G.jd 0) (some (hZ h1)) = h2 := by rw [← d10]; exact q2
  have q3' : sR (cpH h2 100 (G2.jd 17)) 654 (G.jd 0) (some (hZ h2)) = h3 := by rw [← d20]; exact q3
  refine ⟨h3, G3, ?_, S3, (g1.trans g2).trans g3, LSt.mk ?_ ?_ ?_ ?_ ?_ ?_ ?_ ?_, m15, i3, d30⟩
  · rw [fX5_list, fX5_list_0, oC_d (S.jt0 J), S.jr652 J, oN_v, oC_d (S.jt15 J), Ls.n, ← lt, if_neg (nI_nlt (Nat.le_refl L.length) (by omega)), e2, c1, oB4_v, oC_d t1, oL_v, q1', r1, i1, e2, c2, oB4_v, oC_d t2, oL_v, q2', r2, i2, e2, c3, oB4_v, oC_d t3, oL_v, q3']
  · rw [i3, d30]; exact Ls.n
  · intro i hi
    rw [b15, b16, b17, if_pos hi, if_pos hi, if_pos hi]
    exact Ls.a i hi
  · rw [m15]; omega
  · rw [m15, m16]
  · rw [m15, m17]
  · rw [m15]; omega
  · rw [m15]; omega
  · intro i
    rw [b17]
    by_cases c : i < L.length
    · rw [if_pos c]; exact Ls.bt i
    · rw [if_neg c]; exact bs_0
def jp3 (h : PH) (G : Gh) : Nat := 3 * hN h (G.jd 15)
theorem list_v {h : PH} {G : Gh} {L : List Nat} {hd : Nat → Nat} {x : Nat} (S : SX h G) (J : G.jj = true) (Ls : LSt h G L hd) (h4 : L.length ≤ 4096) : ∃ h' G' ci cj, fX5_list h (G.jd 0) (nI x) (nI (hd x)) = some (h', ci, cj) ∧ SX h' G' ∧ GJ (fun i => i = 0 ∨ i = 15 ∨ i = 16 ∨ i = 17) h h' G G' ∧ LSt h' G' (L ++ [x]) hd ∧ (∀ f, f ≠ 655 → hI h' f (G.jd 0) = hI h f (G.jd 0)) ∧ ci + jp3 h G ≤ jp3 h' G' ∧ cj + 3 * jp3 h G ≤ 3 * jp3 h' G' := by
  have k4 := Ls.k4
  have k3 := Ls.k3
  by_cases c : L.length < hN h (G.jd 15)
  · obtain ⟨h', a1, a2, a3, a4⟩ := putL_v (x := x) S J Ls c
    refine ⟨h', G, 0, 0, ?_, a2.sx S, GJ.of a2, a3, a4, ?_, ?_⟩
    · rw [fX5_list, fX5_list_0, oC_d (S.jt0 J), S.jr652 J, oN_v, oC_d (S.jt15 J), Ls.n, if_pos (nI_lt c (by omega))]
      exact a1
    · unfold jp3; rw [a2.1.2.2.2.1]; omega
    · unfold jp3; rw [a2.1.2.2.2.1]; omega
  · have el : L.length = hN h (G.jd 15) := by have := Ls.le; omega
    obtain ⟨h1, G1, b1, b2, b3, b4, b5, b6, b7⟩ := grow_v (x := x) S J Ls el h4
    have J1 : G1.jj = true := b3.jj.trans J
    obtain ⟨h', a1, a2, a3, a4⟩ := putL_v (x := x) b2 J1 b4 (by rw [b5]; omega)
    have n15 : hN h' (G1.jd 15) = 2 * L.length := by rw [a2.1.2.2.2.1]; exact b5
    rw [b7] at a1 a4
    refine ⟨h', G1, 1 + (1 + (1 + 0)), 2 * L.length + (2 * L.length + (2 * L.length + 0)), ?_, a2.sx b2, (b3.mono fun i h => h.elim).trans (GJ.of a2), a3, ?_, ?_, ?_⟩
    · rw [b1, a1, oK3_v, oK3_v, oK3_v]
    · intro f hf; rw [a4 f hf, b6]
    · unfold jp3; rw [n15]; omega
    · unfold jp3; rw [n15]; omega
