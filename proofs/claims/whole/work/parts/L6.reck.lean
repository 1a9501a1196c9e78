/-- the reference's reckoning, and the state -/
def cR : Option Qq → Int64 → Int64 → Prop
  | none, _, y => y = 0
  | some q, x, y => x = q.1 ∧ y = q.2
def RKs (s : Option SSm) (x3 x5 x7 x9 x11 x13 x15 x17 : Int64) (x20 : Int32) : Prop :=
  match s with
  | none => x20 = 1
  | some (a, m, c, f) => x20 = 0 ∧ x3 = a.1 ∧ x5 = a.2 ∧ x7 = m.1 ∧ x9 = m.2 ∧ cR c x11 x13 ∧ cR f x15 x17
theorem RKs.s : RKs sS 0 1 1 1 0 0 0 0 0 := ⟨rfl, rfl, rfl, rfl, rfl, rfl, rfl⟩
def gRk (k : Nat) : Prop := wk9 k ∧ k ≠ 95
theorem lc_q {q : Qq} (o : okQ q) : ¬ lg_cmp q.2 0 = 0 := by
  rw [lc_eq]
  have := o.2.1
  intro e
  rw [e] at this
  exact absurd this (by decide)
theorem lc_q' {q : Qq} (o : okQ q) : ¬ lg_cmp q.2 0 ≤ 0 := by
  rw [lc_le]
  have := o.2.1
  intro e
  have z : (0 : Int64).toInt = 0 := by decide
  rw [z] at e
  omega
/-- a formula joined to the sum -/
theorem rkJoin {k32 : MS → Int32 → Int32 → Int64 → Int64 → Int64 → Int64 → Int64 → Int64 → Int64 → Int64 → Int32 → Int32 → Int32 → Option MS} {k69 : MS → Int32 → Int32 → Int64 → Int64 → Int64 → Int64 → Int64 → Int64 → Int64 → Int64 → Int32 → Int32 → Int32 → Int32 → Option MS} {u : MS} {s : Option SSm} {x1 x2 x19 x20 x21 : Int32} {b : Nat} {x3 x5 x7 x9 x11 x13 x15 x17 : Int64} {q : Qq} {kd : Int32} (zz : mI u 79 = 0) (R : RKs s x3 x5 x7 x9 x11 x13 x15 x17 x20) (x0 : x20 = 0) (os : okSm s) (oq : okQ q) : ∃ u' y3 y5 y7 y9 y11 y13 y15 y17 y20, (if kd = 0 then (oB (fX12_join u 3 x3 x5 q.1 q.2) (fun h52 => oL (mL h52 80) (fun y53 => oL (mL h52 81) (fun y54 => fX12_reckons_389 k32 k69 h52 x1 x2 y53 y54 x7 x9 x11 x13 x15 x17 x19 x21 (nI b))))) else (if kd = 1 then (oB (fX12_join u 5 x7 x9 q.1 q.2) (fun h57 => oL (mL h57 80) (fun y58 => oL (mL h57 81) (fun y59 => fX12_reckons_389 k32 k69 h57 x1 x2 x3 x5 y58 y59 x11 x13 x15 x17 x19 x21 (nI b))))) else (if kd = 2 then (if (lg_cmp x13 0) = 0 then (fX12_reckons_300 k32 k69 u x1 x2 x3 x5 x7 x9 x11 x13 x15 x17 x19 x21 (nI b) q.1 q.2 1) else (oB (fX12_against q.1 q.2 x11 x13) (fun r63 => if 0 ≤ r63 then (fX12_reckons_300 k32 k69 u x1 x2 x3 x5 x7 x9 x11 x13 x15 x17 x19 x21 (nI b) q.1 q.2 0) else (fX12_reckons_300 k32 k69 u x1 x2 x3 x5 x7 x9 x11 x13 x15 x17 x19 x21 (nI b) q.1 q.2 1)))) else (if (lg_cmp x17 0) = 0 then (fX12_reckons_359 k32 k69 u x1 x2 x3 x5 x7 x9 x11 x13 x15 x17 x19 x21 (nI b) q.1 q.2 1) else (oB (fX12_against q.1 q.2 x15 x17) (fun r67 => if r67 ≤ 0 then (fX12_reckons_359 k32 k69 u x1 x2 x3 x5 x7 x9 x11 x13 x15 x17 x19 x21 (nI b) q.1 q.2 0) else (fX12_reckons_359 k32 k69 u x1 x2 x3 x5 x7 x9 x11 x13 x15 x17 x19 x21 (nI b) q.1 q.2 1))))))) = k69 u' x1 x2 y3 y5 y7 y9 y11 y13 y15 y17 x19 y20 x21 (nI (b + 1)) ∧ MAg wk9 u u' ∧ RKs (stpS kd (some q) s) y3 y5 y7 y9 y11 y13 y15 y17 y20 := by
  have e1 : nI b + 1 = nI (b + 1) := nI_add b 1
  rcases s with _ | ⟨a, m, c, f⟩
  · have : x20 = 1 := R
    rw [x0] at this
    exact absurd this (by decide)
  obtain ⟨_, r1, r2, r3, r4, r5, r6⟩ := R
  obtain ⟨o1, o2, o3, o4⟩ := os _ rfl
  subst r1 r2 r3 r4
  unfold stpS
  simp only
  by_cases k0 : kd = 0
  · rw [if_pos k0, if_pos k0]
    obtain ⟨u', j1, j2, j3⟩ := joinAd o1 oq zz
    rw [j1, oB_v, oL_v, oL_v, fX12_reckons_389, oL_v, fX12_reckons_395, oL_v, e1]
    refine ⟨u', _, _, _, _, _, _, _, _, _, rfl, j2, ?_⟩
    cases h : fadd a q with
    | none => rw [h] at j3; exact j3
    | some t =>
      rw [h] at j3
      exact ⟨j3.1, j3.2.1, j3.2.2, rfl, rfl, r5, r6⟩
  rw [if_neg k0, if_neg k0]
  by_cases k1 : kd = 1
  · rw [if_pos k1, if_pos k1]
    obtain ⟨u', j1, j2, j3⟩ := joinMu o2 oq zz
    rw [j1, oB_v, oL_v, oL_v, fX12_reckons_389, oL_v, fX12_reckons_395, oL_v, e1]
    refine ⟨u', _, _, _, _, _, _, _, _, _, rfl, j2, ?_⟩
    cases h : fmul m q with
    | none => rw [h] at j3; exact j3
    | some t =>
      rw [h] at j3
      exact ⟨j3.1, rfl, rfl, j3.2.1, j3.2.2, r5, r6⟩
  rw [if_neg k1, if_neg k1]
  by_cases k2 : kd = 2
  · rw [if_pos k2, if_pos k2]
    cases c with
    | none =>
      have r5' : x13 = 0 := r5
      subst r5'
      rw [if_pos (show lg_cmp 0 0 = 0 from rfl), fX12_reckons_300, if_neg (by decide), fX12_reckons_314, if_neg (by decide), fX12_reckons_328, fX12_reckons_389, oL_v, fX12_reckons_395, oL_v, e1]
      exact ⟨u, _, _, _, _, _, _, _, _, _, rfl, MAg.refl u, zz, rfl, rfl, rfl, rfl, ⟨rfl, rfl⟩, r6⟩
    | some w =>
      obtain ⟨q1, q2⟩ := r5
      subst q1 q2
      rw [if_neg (lc_q (o3 w rfl)), magainst_v, oB_v]
      unfold capQ
      by_cases d : 0 ≤ cmpQ q w
      · simp only [if_pos d]
        rw [fX12_reckons_300, if_pos rfl, fX12_reckons_314, if_pos rfl, fX12_reckons_328, fX12_reckons_389, oL_v, fX12_reckons_395, oL_v, e1]
        exact ⟨u, _, _, _, _, _, _, _, _, _, rfl, MAg.refl u, zz, rfl, rfl, rfl, rfl, ⟨rfl, rfl⟩, r6⟩
      · simp only [if_neg d]
        rw [fX12_reckons_300, if_neg (by decide), fX12_reckons_314, if_neg (by decide), fX12_reckons_328, fX12_reckons_389, oL_v, fX12_reckons_395, oL_v, e1]
        exact ⟨u, _, _, _, _, _, _, _, _, _, rfl, MAg.refl u, zz, rfl, rfl, rfl, rfl, ⟨rfl, rfl⟩, r6⟩
  · rw [if_neg k2, if_neg k2]
    cases f with
    | none =>
      have r6' : x17 = 0 := r6
      subst r6'
      rw [if_pos (show lg_cmp 0 0 = 0 from rfl), fX12_reckons_359, if_neg (by decide), fX12_reckons_373, if_neg (by decide), fX12_reckons_387, fX12_reckons_389, oL_v, fX12_reckons_395, oL_v, e1]
      exact ⟨u, _, _, _, _, _, _, _, _, _, rfl, MAg.refl u, zz, rfl, rfl, rfl, rfl, r5, ⟨rfl, rfl⟩⟩
    | some w =>
      obtain ⟨q1, q2⟩ := r6
      subst q1 q2
      rw [if_neg (lc_q (o4 w rfl)), magainst_v, oB_v]
      unfold flrQ
      by_cases d : cmpQ q w ≤ 0
      · simp only [if_pos d]
        rw [fX12_reckons_359, if_pos rfl, fX12_reckons_373, if_pos rfl, fX12_reckons_387, fX12_reckons_389, oL_v, fX12_reckons_395, oL_v, e1]
        exact ⟨u, _, _, _, _, _, _, _, _, _, rfl, MAg.refl u, zz, rfl, rfl, rfl, rfl, r5, ⟨rfl, rfl⟩⟩
      · simp only [if_neg d]
        rw [fX12_reckons_359, if_neg (by decide), fX12_reckons_373, if_neg (by decide), fX12_reckons_387, fX12_reckons_389, oL_v, fX12_reckons_395, oL_v, e1]
        exact ⟨u, _, _, _, _, _, _, _, _, _, rfl, MAg.refl u, zz, rfl, rfl, rfl, rfl, r5, ⟨rfl, rfl⟩⟩
