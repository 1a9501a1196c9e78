/-- the heap when the parts are made -/
theorem make_v {h : PH} {G : Gh} (S : SX h G) : ∃ X, fX5_init (nO h 6) (hZ h) (some 5) = some (X, 44, 3319) ∧ MadeJ h (sR X 1416 0 (some (hZ h))) := by
  have zz := S.zz
  obtain ⟨gp, ep, PP⟩ := mkP_v h
  obtain ⟨gr, er, PQ⟩ := mkR_v gp
  have pz := PP.z
  have qz : hZ gr = hZ h + 21 := by rw [PQ.z, pz]
  have qb := PQ.b
  have gb : BeL h gr (hZ h) := PP.b.trans PQ.b (by omega)
  have q768 : hR gr 768 (hZ h + 13) = some 5 := by rw [← pz]; exact PQ.r
  have t13 : hT gr (hZ h + 13) = 7 := by rw [← pz]; exact PQ.t0
  have eA : ∀ j, hZ gp + (1 + j) = hZ h + (14 + j) := fun j => by omega
  have rA : ∀ j, j < 2 → hT gr (hZ h + (14 + j)) = rT j ∧ hN gr (hZ h + (14 + j)) = rL j ∧ hR gr (rF j) (hZ h + 13) = some (hZ h + (14 + j)) := fun j hj => by
    rw [← eA, ← pz]; exact PQ.A j hj
  have eF : ∀ j, hZ gp + (3 + j) = hZ h + (16 + j) := fun j => by omega
  have rFr : ∀ j, j < 5 → hT gr (hZ h + (16 + j)) = 4 ∧ hR gr (771 + j) (hZ h + 13) = some (hZ h + (16 + j)) := fun j hj => by
    rw [← eF, ← pz]; exact PQ.F j hj
  have t14 : hT gr (hZ h + 14) = 101 := (rA 0 (by decide)).1
  have n14 : hN gr (hZ h + 14) = 8 := (rA 0 (by decide)).2.1
  have r69 : hR gr 769 (hZ h + 13) = some (hZ h + 14) := (rA 0 (by decide)).2.2
  have t15 : hT gr (hZ h + 15) = 107 := (rA 1 (by decide)).1
  have n15 : hN gr (hZ h + 15) = 24 := (rA 1 (by decide)).2.1
  have r70 : hR gr 770 (hZ h + 13) = some (hZ h + 15) := (rA 1 (by decide)).2.2
  have q1 := who83 (g := gr) t13 r69 t14 n14
  have bw : BeL h (sA (sA (sA (sA (sA gr (hZ h + 14) 0 (nI 0)) (hZ h + 14) 1 (nI 1)) (hZ h + 14) 2 (nI 2)) (hZ h + 14) 3 (nI 3)) (hZ h + 14) 4 (nI 4)) (hZ h) := ((((gb.sA' (by omega)).sA' (by omega)).sA' (by omega)).sA' (by omega)).sA' (by omega)
  have wT : ∀ a, hT (sA (sA (sA (sA (sA gr (hZ h + 14) 0 (nI 0)) (hZ h + 14) 1 (nI 1)) (hZ h + 14) 2 (nI 2)) (hZ h + 14) 3 (nI 3)) (hZ h + 14) 4 (nI 4)) a = hT gr a := fun _ => rfl
  have wN : ∀ a, hN (sA (sA (sA (sA (sA gr (hZ h + 14) 0 (nI 0)) (hZ h + 14) 1 (nI 1)) (hZ h + 14) 2 (nI 2)) (hZ h + 14) 3 (nI 3)) (hZ h + 14) 4 (nI 4)) a = hN gr a := fun _ => rfl
  have wR : ∀ f a, hR (sA (sA (sA (sA (sA gr (hZ h + 14) 0 (nI 0)) (hZ h + 14) 1 (nI 1)) (hZ h + 14) 2 (nI 2)) (hZ h + 14) 3 (nI 3)) (hZ h + 14) 4 (nI 4)) f a = hR gr f a := fun _ _ => rfl
  have wZ : hZ (sA (sA (sA (sA (sA gr (hZ h + 14) 0 (nI 0)) (hZ h + 14) 1 (nI 1)) (hZ h + 14) 2 (nI 2)) (hZ h + 14) 3 (nI 3)) (hZ h + 14) 4 (nI 4)) = hZ h + 21 := qz
  have wA : ∀ p, p < 5 → hA (sA (sA (sA (sA (sA gr (hZ h + 14) 0 (nI 0)) (hZ h + 14) 1 (nI 1)) (hZ h + 14) 2 (nI 2)) (hZ h + 14) 3 (nI 3)) (hZ h + 14) 4 (nI 4)) (hZ h + 14) p = nI p := fun p hp => by
    rw [z_hA_sA, z_hA_sA, z_hA_sA, z_hA_sA, z_hA_sA]
    rcases (show p = 0 ∨ p = 1 ∨ p = 2 ∨ p = 3 ∨ p = 4 by omega) with e | e | e | e | e <;> subst e
    · rw [if_neg (by omega), if_neg (by omega), if_neg (by omega), if_neg (by omega), if_pos ⟨rfl, rfl⟩]
    · rw [if_neg (by omega), if_neg (by omega), if_neg (by omega), if_pos ⟨rfl, rfl⟩]
    · rw [if_neg (by omega), if_neg (by omega), if_pos ⟨rfl, rfl⟩]
    · rw [if_neg (by omega), if_pos ⟨rfl, rfl⟩]
    · rw [if_pos ⟨rfl, rfl⟩]
  have wA9 : ∀ i, hA (sA (sA (sA (sA (sA gr (hZ h + 14) 0 (nI 0)) (hZ h + 14) 1 (nI 1)) (hZ h + 14) 2 (nI 2)) (hZ h + 14) 3 (nI 3)) (hZ h + 14) 4 (nI 4)) (hZ h + 9) i = 0 := fun i => by
    rw [z_hA_sA, z_hA_sA, z_hA_sA, z_hA_sA, z_hA_sA, if_neg (by omega), if_neg (by omega), if_neg (by omega), if_neg (by omega), if_neg (by omega), qb.A _ _ (by omega)]
    exact (PP.T 8 (by decide)).2.2.1 i
  generalize (sA (sA (sA (sA (sA gr (hZ h + 14) 0 (nI 0)) (hZ h + 14) 1 (nI 1)) (hZ h + 14) 2 (nI 2)) (hZ h + 14) 3 (nI 3)) (hZ h + 14) 4 (nI 4)) = w at q1 bw wT wN wR wZ wA wA9
  obtain ⟨X, a1, F⟩ := fr103 (x := hZ h + 13) (st := hZ h + 15) 24 0 99975 w (by omega) (by rw [wT]; exact t13) (by rw [wR]; exact r70) (by rw [wT]; exact t15) (by rw [wN]; exact n15) (by omega) (by omega)
  have i1 : fX6_init_83 FU gr (hZ gp) 0 = some (X, 24, 72) := by
    rw [pz, q1, show FU = 99975 + (24 + 1) from rfl, show (0 : Int32) = nI 0 from rfl]
    exact a1
  have i2 := rk_init er i1
  have kT : ∀ a, a < hZ h + 21 → hT X a = hT gr a := fun a ha => by rw [F.T a (by omega), wT]
  have kN : ∀ a, hN X a = hN gr a := fun a => by rw [F.N, wN]
  have kR : ∀ f a, a < hZ h + 21 → hR X f a = hR gr f a := fun f a ha => by rw [F.R f a (by omega), wR]
  have lT : ∀ a, a < hZ h + 13 → hT X a = hT gp a := fun a ha => by rw [kT a (by omega), qb.T a (by omega)]
  have lN : ∀ a, a < hZ h + 13 → hN X a = hN gp a := fun a ha => by rw [kN a, qb.N a (by omega)]
  have lR : ∀ f, hR X f (hZ h) = hR gp f (hZ h) := fun f => by rw [kR f _ (by omega), qb.R f _ (by omega)]
  have t6 : hT X (hZ h) = 6 := by rw [lT _ (by omega)]; exact PP.t0
  have i3 := jn_init ep i2 t6
  rw [pz] at i3
  have rr : ∀ f a, ¬ (f = 1416 ∧ a = 0) → ¬ (f = 641 ∧ a = hZ h) → hR (sR (sR X 641 (hZ h) (some (hZ h + 13))) 1416 0 (some (hZ h))) f a = hR X f a := fun f a n1 n2 => by
    rw [z_hR_sR, if_neg n1, z_hR_sR, if_neg n2]
  have tr : ∀ j, j < 12 → hT X (hZ h + (1 + j)) = jT j ∧ hN X (hZ h + (1 + j)) = jL j ∧ hR (sR (sR X 641 (hZ h) (some (hZ h + 13))) 1416 0 (some (hZ h))) (jF j) (hZ h) = some (hZ h + (1 + j)) := fun j hj => by
    have nf : jF j ≠ 640 ∧ jF j ≠ 641 ∧ jF j ≠ 1416 := jF_n j hj
    obtain ⟨u1, u2, _, u4⟩ := PP.T j hj
    exact ⟨by rw [lT _ (by omega)]; exact u1, by rw [lN _ (by omega)]; exact u2, by rw [rr _ _ (fun e => nf.2.2 e.1) (fun e => nf.2.1 e.1), lR]; exact u4⟩
  refine ⟨_, i3, ?_⟩
  apply MadeJ.mk
  · show hZ X = hZ h + 45
    rw [F.z, wZ]
  · intro f a ha; show hI X f a = _; rw [F.I f a (by omega)]; exact bw.I f a ha
  · intro f a ha; show hL X f a = _; rw [F.L f a (by omega)]; exact bw.L f a ha
  · intro a i ha; show hA X a i = _; rw [F.A]; exact bw.A a i ha
  · intro a i ha; show hB X a i = _; rw [F.B]; exact bw.B a i ha
  · intro a ha; show hT X a = _; rw [F.T a (by omega)]; exact bw.T a ha
  · intro a ha; show hN X a = _; rw [F.N]; exact bw.N a ha
  · intro f a ha hn; rw [rr f a hn (by omega), F.R f a (by omega)]; exact bw.R f a ha
  · intro a i ha; show hC X a i = _; rw [F.C a i (by omega)]; exact bw.C a i ha
  · intro i hi
    show hT X i = hT h i
    rw [F.fr i (by omega), wT, PQ.fr i (by omega), PP.fr i (by omega)]
  · rw [z_hR_sR, if_pos ⟨rfl, rfl⟩]
  · exact t6
  · exact tr 0 (by decide)
  · exact tr 1 (by decide)
  · exact tr 2 (by decide)
  · exact tr 3 (by decide)
  · exact tr 4 (by decide)
  · exact tr 5 (by decide)
  · exact tr 6 (by decide)
  · exact tr 7 (by decide)
  · exact tr 8 (by decide)
  · exact tr 9 (by decide)
  · exact tr 10 (by decide)
  · exact tr 11 (by decide)
  · refine ⟨?_, ?_, ?_, ?_⟩
    · show hT X (hZ h + 13) = 7
      rw [kT _ (by omega)]; exact t13
    · rw [rr _ _ (by omega) (by omega), kR _ _ (by omega), qb.R _ _ (by omega)]; exact PP.r
    · rw [z_hR_sR, if_neg (by omega), z_hR_sR, if_pos ⟨rfl, rfl⟩]
    · rw [rr _ _ (by omega) (by omega), kR _ _ (by omega)]; exact q768
  · exact ⟨by show hT X (hZ h + 14) = 101; rw [kT _ (by omega)]; exact t14, by show hN X (hZ h + 14) = 8; rw [kN]; exact n14, by rw [rr _ _ (by omega) (by omega), kR _ _ (by omega)]; exact r69⟩
  · exact ⟨by show hT X (hZ h + 15) = 107; rw [kT _ (by omega)]; exact t15, by show hN X (hZ h + 15) = 24; rw [kN]; exact n15, by rw [rr _ _ (by omega) (by omega), kR _ _ (by omega)]; exact r70⟩
  · exact ⟨by show hT X (hZ h + 16) = 4; rw [kT _ (by omega)]; exact (rFr 0 (by decide)).1, by rw [rr _ _ (by omega) (by omega), kR _ _ (by omega)]; exact (rFr 0 (by decide)).2⟩
  · exact ⟨by show hT X (hZ h + 17) = 4; rw [kT _ (by omega)]; exact (rFr 1 (by decide)).1, by rw [rr _ _ (by omega) (by omega), kR _ _ (by omega)]; exact (rFr 1 (by decide)).2⟩
  · exact ⟨by show hT X (hZ h + 18) = 4; rw [kT _ (by omega)]; exact (rFr 2 (by decide)).1, by rw [rr _ _ (by omega) (by omega), kR _ _ (by omega)]; exact (rFr 2 (by decide)).2⟩
  · exact ⟨by show hT X (hZ h + 19) = 4; rw [kT _ (by omega)]; exact (rFr 3 (by decide)).1, by rw [rr _ _ (by omega) (by omega), kR _ _ (by omega)]; exact (rFr 3 (by decide)).2⟩
  · exact ⟨by show hT X (hZ h + 20) = 4; rw [kT _ (by omega)]; exact (rFr 4 (by decide)).1, by rw [rr _ _ (by omega) (by omega), kR _ _ (by omega)]; exact (rFr 4 (by decide)).2⟩
  · intro i hi
    refine ⟨?_, ?_⟩
    · show hT X (hZ h + 21 + i) = 4
      rw [← wZ]; exact F.t4 i hi
    · show hC X (hZ h + 15) i = _
      rw [F.cs, if_pos (by omega), wZ, Nat.sub_zero]
  · intro p hp; show hA X _ _ = _; rw [F.A]; exact wA p hp
  · intro i; show hA X _ _ = _; rw [F.A]; exact wA9 i
