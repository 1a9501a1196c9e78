section L3
def lG3 (h : PH) (r21 r29 r37 : Int32) : Option PH := oC (decide (hT h 23 = 5)) (oB2 (fX4_skip h 23 306) (fun h42 r41 => if r41 = 0 then (fX4_tellLaw_75 h42 23 r21 r29 r37 (-1)) else (oC (decide (hT h42 23 = 5)) (oB2 (fX4_integer h42 23 (r37 + 1) 999999) (fun h47 r46 => fX4_tellLaw_75 h47 23 r21 r29 r37 r46)))))
def lG2 (h : PH) (r21 r29 : Int32) : Option PH := oC (decide (hT h 23 = 5)) (oB2 (fX4_expect h 23 305) (fun h34 _ => oC (decide (hT h34 23 = 5)) (oB2 (fX4_integer h34 23 0 999999) (fun h38 r37 => lG3 h38 r21 r29 r37))))
def lG1 (h : PH) (r21 : Int32) : Option PH := oC (decide (hT h 23 = 5)) (oB2 (fX4_expect h 23 304) (fun h26 _ => oC (decide (hT h26 23 = 5)) (oB2 (fX4_integer h26 23 0 9) (fun h30 r29 => lG2 h30 r21 r29))))
def lH3 (w : MS) (r45 r50 : Int32) : Option MS := oB (fX12_is w 26) (fun r53 => if r53 = 0 then (fX12_tellLaw_101 w r45 r50 (-1)) else (oB (fX12_next w) (fun h56 => oB2 (fX12_whole h56 999999) (fun h59 r58 => if (mI h59 13) = 0 then (oC (ix r58 (mlen 7)) (oC (ix r50 (mlen 7)) (if (mA h59 7 (Int32.toNatClampNeg r50)) < (mA h59 7 (Int32.toNatClampNeg r58)) then (fX12_tellLaw_101 h59 r45 r50 r58) else (oB (fX12_wrong h59 5 r58) (fun h65 => fX12_tellLaw_101 h65 r45 r50 r58))))) else (fX12_tellLaw_101 h59 r45 r50 r58)))))
def lH2 (w : MS) (r45 : Int32) : Option MS := oB (fX12_must w 25) (fun h48 => oB2 (fX12_whole h48 999999) (fun h51 r50 => lH3 h51 r45 r50))
def lH1 (w : MS) : Option MS := oB (fX12_must w 24) (fun h43 => oB2 (fX12_whole h43 9) (fun h46 r45 => lH2 h46 r45))
variable {h : PH} {u : MS} {G : Gh} {z c : Sz} {L n t : Nat} {D : Nat → Nat × Nat × Nat × List Nat}
theorem law_split (S : SX h G) {h0 : PH} {r0 : Int32} (e : fX4_expect h 23 303 = some (h0, r0)) (S0 : SX h0 G) : fX4_tellLaw h 23 = oB2 (fX4_tellName h0 23 (some 12)) (fun h22 r21 => lG1 h22 r21) := by
  unfold fX4_tellLaw fX4_tellLaw_0
  rw [oC_d S.t23, e, oB2_v, oC_d S0.t23, S0.r512_23, oN_v, oC_d S0.t5, S0.r131_5]
  rfl
theorem lawM_split : fX12_tellLaw u = oB (fX12_next u) (fun h38 => oB2 (fX12_tells h38 30 (mI h38 21) 10) (fun h41 _ => lH1 h41)) := rfl
/-- behind a stop -/
theorem lo_d {hn : Nat → Nat} {md : Int32} (I : PI h u G z L n D) (X : Ded h u) (en : hN h = hn) (em : hI h 518 23 = md) {x1 x2 x3 s0 : Int32} (o : x1 = -1 ∨ ∃ s m, x1 = nI s ∧ s < m ∧ m ≤ 10 ∧ hI h 897 12 = nI m ∧ z.nl ≤ s) : LO G z c L n D t hn md (fX4_tellLaw_75 h 23 x1 x2 x3 s0) (some u) := by
  have S := I.sx
  have e := expect_d S X (k := 5) (by omega) (by omega)
  have e' : fX4_expect h 23 59 = some (h, 0) := e
  have X1 : CD h (sI h 519 23 0) G G z := CD.s23 S I.kr.nrG 519 0
  have i : ∀ f, f ≠ 519 → hI (sI h 519 23 0) f 23 = hI h f 23 := fun f hf => by simp only [z_hI_sI, z_hL_sI, z_hR_sI, z_hA_sI, z_hB_sI, z_hC_sI, z_hT_sI, z_hN_sI, z_hZ_sI, z_hI_sL, z_hL_sL, z_hR_sL, z_hA_sL, z_hB_sL, z_hC_sL, z_hT_sL, z_hN_sL, z_hZ_sL, z_hI_sR, z_hL_sR, z_hR_sR, z_hA_sR, z_hB_sR, z_hC_sR, z_hT_sR, z_hN_sR, z_hZ_sR, z_hI_sA, z_hL_sA, z_hR_sA, z_hA_sA, z_hB_sA, z_hC_sA, z_hT_sA, z_hN_sA, z_hZ_sA, z_hI_sB, z_hL_sB, z_hR_sB, z_hA_sB, z_hB_sB, z_hC_sB, z_hT_sB, z_hN_sB, z_hZ_sB, z_hI_sC, z_hL_sC, z_hR_sC, z_hA_sC, z_hB_sC, z_hC_sC, z_hT_sC, z_hN_sC, z_hZ_sC, z_hI_sY, z_hL_sY, z_hR_sY, z_hA_sY, z_hB_sY, z_hC_sY, z_hT_sY, z_hN_sY, z_hZ_sY, z_hI_nO, z_hL_nO, z_hR_nO, z_hA_nO, z_hB_nO, z_hC_nO, z_hT_nO, z_hN_nO, z_hZ_nO, z_hI_nA, z_hL_nA, z_hR_nA, z_hA_nA, z_hB_nA, z_hC_nA, z_hT_nA, z_hN_nA, z_hZ_nA]; rw [if_neg (fun q => hf q.1)]
  rcases o with q | ⟨s, m, q, q2, q3, q4, q5⟩
  · refine ⟨sI h 519 23 0, ?_, en, (i 518 (by omega)).trans em, .inr ⟨u, rfl, I.cq X1, ?_⟩⟩
    · rw [q]; exact law75_n S e' (Q.refl h) (.inl rfl)
    · exact ⟨by rw [i 524 (by omega)]; exact X.st, by rw [i 524 (by omega)]; exact X.fa, by rw [i 525 (by omega)]; exact X.pl, by rw [i 521 (by omega)]; exact X.kd, X.tt⟩
  · refine ⟨lwH (sI h 519 23 0) s x2 (hI h 518 23) x3 s0, ?_, en, (i 518 (by omega)).trans em, .inr ⟨u, rfl, I.cq (CD.trans I.kr.nrG X1 (CD.lw (h := sI h 519 23 0) S I.kr.nrG q5 x2 _ x3 s0)), ?_⟩⟩
    · rw [q]; exact law75_y S e' (Q.refl h) (.inl rfl) q2 q3 q4
    · exact ⟨by rw [(lwH_I _ _ _ _ _ _).1, i 524 (by omega)]; exact X.st, by rw [(lwH_I _ _ _ _ _ _).1, i 524 (by omega)]; exact X.fa, by rw [(lwH_I _ _ _ _ _ _).1, i 525 (by omega)]; exact X.pl, by rw [(lwH_I _ _ _ _ _ _).1, i 521 (by omega)]; exact X.kd, X.tt⟩
theorem h101_d (X : Ded h u) (a b d : Int32) : fX12_tellLaw_101 u a b d = some u := by
  unfold fX12_tellLaw_101
  rw [must_d X, oB_v, if_neg X.f.2.1]
theorem g3_d (S : SX h G) (X : Ded h u) (a b d : Int32) : lG3 h a b d = fX4_tellLaw_75 h 23 a b d (-1) := by
  have e := skip_d S X (k := 26) (by omega) (by omega)
  have e' : fX4_skip h 23 306 = some (h, 0) := e
  unfold lG3
  rw [oC_d S.t23, e', oB2_v, if_pos rfl]
theorem h3_d (X : Ded h u) (a b : Int32) : lH3 u a b = some u := by
  unfold lH3
  rw [is_d X, oB_v, if_pos rfl, h101_d X]
theorem g2_d (S : SX h G) (X : Ded h u) (a b : Int32) : lG2 h a b = fX4_tellLaw_75 h 23 a b 0 (-1) := by
  have e := expect_d S X (k := 25) (by omega) (by omega)
  have e' : fX4_expect h 23 305 = some (h, 0) := e
  unfold lG2
  rw [oC_d S.t23, e', oB2_v, oC_d S.t23, int_d S X, oB2_v, g3_d S X]
theorem h2_d (X : Ded h u) (a : Int32) : lH2 u a = some u := by
  unfold lH2
  rw [must_d X, oB_v, whole_d X, oB2_v, h3_d X]
theorem g1_d (S : SX h G) (X : Ded h u) (a : Int32) : lG1 h a = fX4_tellLaw_75 h 23 a 0 0 (-1) := by
  have e := expect_d S X (k := 24) (by omega) (by omega)
  have e' : fX4_expect h 23 304 = some (h, 0) := e
  unfold lG1
  rw [oC_d S.t23, e', oB2_v, oC_d S.t23, int_d S X, oB2_v, g2_d S X]
theorem h1_d (X : Ded h u) : lH1 u = some u := by
  unfold lH1
  rw [must_d X, oB_v, whole_d X, oB2_v, h2_d X]
end L3
