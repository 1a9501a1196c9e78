def kdx (u : MS) (x : Nat) : Int32 := mA u 48 (x / 125)
def vlx (u : MS) (np : Nat) (nu : Nat → Int32) (E3 : Nat → List Tok) (x : Nat) : Option Qq := val (btx u np x) nu (E3 (x / 125))
/-- the instances that go into sum s of person w -/
noncomputable def flS (u : MS) (np : Nat) (A : Nat → Prop) (k : Nat) (l : List Nat) : List Nat := l.filter (cd fun x => hdx u np x = 600 + k ∧ A x)
theorem flS_y {u : MS} {np k x : Nat} {A : Nat → Prop} {l : List Nat} (h1 : hdx u np x = 600 + k) (h2 : A x) : flS u np A k (l ++ [x]) = flS u np A k l ++ [x] := filt_y (P := fun x => hdx u np x = 600 + k ∧ A x) ⟨h1, h2⟩
theorem flS_n {u : MS} {np k x : Nat} {A : Nat → Prop} {l : List Nat} (h : ¬ (hdx u np x = 600 + k ∧ A x)) : flS u np A k (l ++ [x]) = flS u np A k l := filt_n (P := fun x => hdx u np x = 600 + k ∧ A x) h
theorem rk69 {h0 : PH} {u0 : MS} {G : Gh} {z : Sz} {nu : Nat → Int32} {E1 E2 E3 : Nat → List Tok} {A : Nat → Prop} {r s w : Nat} {k32 : MS → Int32 → Int32 → Int64 → Int64 → Int64 → Int64 → Int64 → Int64 → Int64 → Int64 → Int32 → Int32 → Int32 → Option MS} (mo : Mo h0 u0 G z E1 E2 E3) (K : KR h0 u0 G z) (zo : z.ok) (hc : z.rc ≤ 37000) (hr : r < z.nr) (k2 : mA u0 40 r = 2) (es : mA u0 44 r = nI s) (hs : s < 4) (hw : w < 5) : ∀ m b f u x3 x5 x7 x9 x11 x13 x15 x17 x20, b + m = z.np ^ vN u0 r → SBn u0 u z nu → (∀ b, b < z.np ^ vN u0 r → Tf (mA u 89 (125 * r + b)) (A (125 * r + b))) → RKs (smS (kdx u0) (vlx u0 z.np nu E3) (flS u0 z.np A (5 * s + w) (dn z.np (vN u0) r b))) x3 x5 x7 x9 x11 x13 x15 x17 x20 → okSm (smS (kdx u0) (vlx u0 z.np nu E3) (flS u0 z.np A (5 * s + w) (dn z.np (vN u0) r b))) → ∃ u' y3 y5 y7 y9 y11 y13 y15 y17 y20, fX12_reckons_69 k32 (f + (m + 1)) u (nI s) (nI w) x3 x5 x7 x9 x11 x13 x15 x17 (nI (flS u0 z.np A (5 * s + w) (dn z.np (vN u0) r b)).length) x20 (nI r) (nI b) = k32 u' (nI s) (nI w) y3 y5 y7 y9 y11 y13 y15 y17 (nI (flS u0 z.np A (5 * s + w) (dn z.np (vN u0) (r + 1) 0)).length) y20 (nI (r + 1)) ∧ MAg gRk u u' ∧ RKs (smS (kdx u0) (vlx u0 z.np nu E3) (flS u0 z.np A (5 * s + w) (dn z.np (vN u0) (r + 1) 0))) y3 y5 y7 y9 y11 y13 y15 y17 y20 ∧ okSm (smS (kdx u0) (vlx u0 z.np nu E3) (flS u0 z.np A (5 * s + w) (dn z.np (vN u0) (r + 1) 0)))
  | 0, b, f, u, x3, x5, x7, x9, x11, x13, x15, x17, x20, e, B, ha, R, o => by
    have nr := zo.2.2.2.2.1
    obtain ⟨m42, v3, m41, c6⟩ := ruV K hr
    have h125 := pow_le zo.1 v3
    have m42u : mA u 42 r = nI (vN u0 r) := by rw [(B.g 42 (by unfold kS; omega)).2.2.1]; exact m42
    have ed : dn z.np (vN u0) r b = dn z.np (vN u0) (r + 1) 0 := by rw [show b = z.np ^ vN u0 r from e, dn_next, dn_zero]
    rw [ed] at R o ⊢
    refine ⟨u, x3, x5, x7, x9, x11, x13, x15, x17, x20, ?_, MAg.refl u, R, o⟩
    rw [show ∀ c, fX12_reckons_69 k32 (f + (0 + 1)) u (nI s) (nI w) x3 x5 x7 x9 x11 x13 x15 x17 c x20 (nI r) (nI b) = fX12_reckons_69F k32 (fX12_reckons_69 k32 f) u (nI s) (nI w) x3 x5 x7 x9 x11 x13 x15 x17 c x20 (nI r) (nI b) from fun _ => rfl, fX12_reckons_69F, instM B.m18 m42u (by omega) zo.1 v3, oB_v, if_pos (nI_le (by omega) (by omega)), fX12_reckons_401, oL_v, show nI r + 1 = nI (r + 1) from nI_add r 1]
  | m + 1, b, f, u, x3, x5, x7, x9, x11, x13, x15, x17, x20, e, B, ha, R, o => by
    have nr := zo.2.2.2.2.1
    obtain ⟨m42, v3, m41, c6⟩ := ruV K hr
    have h125 := pow_le zo.1 v3
    have hb : b < z.np ^ vN u0 r := by omega
    have m42u : mA u 42 r = nI (vN u0 r) := by rw [(B.g 42 (by unfold kS; omega)).2.2.1]; exact m42
    have e125 : 125 * nI r + nI b = nI (125 * r + b) := by rw [show (125 : Int32) = nI 125 from rfl, nI_mul, nI_add]
    have e1 : nI b + 1 = nI (b + 1) := nI_add b 1
    have id := inst_n (r := r) (b := b) (by omega)
    have bx : btx u0 z.np (125 * r + b) = bt z.np (vN u0 r) b := by unfold btx; rw [id.1, id.2]
    have hv := hdx_v (u0 := u0) (np := z.np) (r := r) (b := b) (by omega)
    rw [if_pos k2, es, nI_clamp (show s < 2147483648 by omega)] at hv
    have cr : Int32.toNatClampNeg (nI r) = r := nI_clamp (by omega)
    have xr : ∀ s, mlen s = 30 → ix (nI r) (mlen s) = true := fun s hs => ix_n (by rw [hs]; omega) (by rw [hs]; decide)
    obtain ⟨l', kk, n, v, h1, h2, h3, h4, h5, h6, h7, h8, h9, ha', hb', hc', hd, he, hf⟩ := K.ru r hr
    have ev : vN u0 r = v := by unfold vN; rw [hd, nI_clamp (by omega)]
    obtain ⟨t, t1, t2, t3⟩ : TmR z v (hI h0 259 (G.hd r)) (mA u0 46 r) := by
      rcases he with q | q
      · exact absurd k2 q.1
      · exact q.2.2.2.2.1
    have nx : ∀ (u3 : MS) (y3 y5 y7 y9 y11 y13 y15 y17 : Int64) (y20 c : Int32), c = nI (flS u0 z.np A (5 * s + w) (dn z.np (vN u0) r (b + 1))).length → MAg gRk u u3 → RKs (smS (kdx u0) (vlx u0 z.np nu E3) (flS u0 z.np A (5 * s + w) (dn z.np (vN u0) r (b + 1)))) y3 y5 y7 y9 y11 y13 y15 y17 y20 → okSm (smS (kdx u0) (vlx u0 z.np nu E3) (flS u0 z.np A (5 * s + w) (dn z.np (vN u0) r (b + 1)))) → ∃ u' y3' y5' y7' y9' y11' y13' y15' y17' y20', fX12_reckons_69 k32 (f + (m + 1)) u3 (nI s) (nI w) y3 y5 y7 y9 y11 y13 y15 y17 c y20 (nI r) (nI (b + 1)) = k32 u' (nI s) (nI w) y3' y5' y7' y9' y11' y13' y15' y17' (nI (flS u0 z.np A (5 * s + w) (dn z.np (vN u0) (r + 1) 0)).length) y20' (nI (r + 1)) ∧ MAg gRk u u' ∧ RKs (smS (kdx u0) (vlx u0 z.np nu E3) (flS u0 z.np A (5 * s + w) (dn z.np (vN u0) (r + 1) 0))) y3' y5' y7' y9' y11' y13' y15' y17' y20' ∧ okSm (smS (kdx u0) (vlx u0 z.np nu E3) (flS u0 z.np A (5 * s + w) (dn z.np (vN u0) (r + 1) 0))) := by
      intro u3 y3 y5 y7 y9 y11 y13 y15 y17 y20 c ec g3 R3 o3
      subst ec
      obtain ⟨u', a3, a5, a7, a9, a11, a13, a15, a17, a20, q1, q2, q3, q4⟩ := rk69 (k32 := k32) (A := A) mo K zo hc hr k2 es hs hw m (b + 1) f u3 y3 y5 y7 y9 y11 y13 y15 y17 y20 (by omega) (B.fr g3 (fun q hq => by unfold gRk wk9; omega)) (fun c hc => by rw [(g3 89 (by unfold gRk wk9; omega)).2.2.1]; exact ha c hc) R3 o3
      exact ⟨u', a3, a5, a7, a9, a11, a13, a15, a17, a20, q1, g3.trans q2, q3, q4⟩
    have sk : ¬ (hdx u0 z.np (125 * r + b) = 600 + (5 * s + w) ∧ A (125 * r + b)) → ∀ u3 : MS, MAg gRk u u3 → ∃ u' y3' y5' y7' y9' y11' y13' y15' y17' y20', fX12_reckons_395 k32 (fX12_reckons_69 k32 (f + (m + 1))) u3 (nI s) (nI w) x3 x5 x7 x9 x11 x13 x15 x17 (nI (flS u0 z.np A (5 * s + w) (dn z.np (vN u0) r b)).length) x20 (nI r) (nI b) = k32 u' (nI s) (nI w) y3' y5' y7' y9' y11' y13' y15' y17' (nI (flS u0 z.np A (5 * s + w) (dn z.np (vN u0) (r + 1) 0)).length) y20' (nI (r + 1)) ∧ MAg gRk u u' ∧ RKs (smS (kdx u0) (vlx u0 z.np nu E3) (flS u0 z.np A (5 * s + w) (dn z.np (vN u0) (r + 1) 0))) y3' y5' y7' y9' y11' y13' y15' y17' y20' ∧ okSm (smS (kdx u0) (vlx u0 z.np nu E3) (flS u0 z.np A (5 * s + w) (dn z.np (vN u0) (r + 1) 0))) := by
      intro hn u3 g3
      have el : flS u0 z.np A (5 * s + w) (dn z.np (vN u0) r (b + 1)) = flS u0 z.np A (5 * s + w) (dn z.np (vN u0) r b) := by rw [dn_succ]; exact flS_n hn
      rw [fX12_reckons_395, oL_v, e1]
      exact nx u3 x3 x5 x7 x9 x11 x13 x15 x17 x20 _ (by rw [el]) g3 (by rw [el]; exact R) (by rw [el]; exact o)
    rw [show ∀ c, fX12_reckons_69 k32 (f + (m + 1 + 1)) u (nI s) (nI w) x3 x5 x7 x9 x11 x13 x15 x17 c x20 (nI r) (nI b) = fX12_reckons_69F k32 (fX12_reckons_69 k32 (f + (m + 1))) u (nI s) (nI w) x3 x5 x7 x9 x11 x13 x15 x17 c x20 (nI r) (nI b) from fun _ => rfl, fX12_reckons_69F, instM B.m18 m42u (by omega) zo.1 v3, oB_v, if_neg (nI_ge hb (by omega)), e125, oC_t (ix_n (show 125 * r + b < mlen 89 by show _ < 3750; omega) (by decide)), nI_clamp (show 125 * r + b < 2147483648 by omega)]
    rcases (ha b hb).cases with ⟨_, a2, a3⟩ | ⟨a1, a2⟩
    · obtain ⟨u2, q1, q2, q3⟩ := givesM B.m18 m42u (by omega) (pow_pos' hb) zo.1 v3 (show b < 1000 by omega)
      have B2 : SBn u0 u2 z nu := B.fr q2 (fun q hq => by omega)
      have M2 := B.mc zo v3 (pow_pos' hb) q2 q3
      have g2 : MAg gRk u u2 := q2.mono fun k hk => hk.2
      have k0 : ∀ q, kS q → ∀ i, mA u2 q i = mA u0 q i := fun q hq => (B2.g q hq).2.2.1
      have t1' : okTm (vN u0 r) z.np t := by rw [ev]; exact t1
      have pe' : fX12_personOf u2 (mA u0 46 r) 95 = some (nI (pM (bt z.np (vN u0 r) b) (mA u0 46 r))) := by
        rw [t3, pM_tm t1']; exact personM M2 t1'
      have pl : pM (bt z.np (vN u0 r) b) (mA u0 46 r) < 5 := by
        rw [t3, pM_tm t1']
        have := pe_lt (fun v hv => (M2.b v hv).2) t1'
        have := zo.1
        omega
      rw [if_neg a2, q1, oB_v, oC_t (xr 46 rfl), cr, k0 46 (by unfold kS; omega), pe', oB_v]
      by_cases pw : pM (bt z.np (vN u0 r) b) (mA u0 46 r) = w
      · have hT : hdx u0 z.np (125 * r + b) = 600 + (5 * s + w) := by rw [hv, pw]; omega
        have el : flS u0 z.np A (5 * s + w) (dn z.np (vN u0) r (b + 1)) = flS u0 z.np A (5 * s + w) (dn z.np (vN u0) r b) ++ [125 * r + b] := by rw [dn_succ]; exact flS_y hT a3
        have es' : smS (kdx u0) (vlx u0 z.np nu E3) (flS u0 z.np A (5 * s + w) (dn z.np (vN u0) r (b + 1))) = stpS (mA u0 48 r) (val (bt z.np (vN u0 r) b) nu (E3 r)) (smS (kdx u0) (vlx u0 z.np nu E3) (flS u0 z.np A (5 * s + w) (dn z.np (vN u0) r b))) := by
          rw [el, smS_app]
          unfold kdx vlx
          rw [bx, id.1]
        have ec : nI (flS u0 z.np A (5 * s + w) (dn z.np (vN u0) r b)).length + 1 = nI (flS u0 z.np A (5 * s + w) (dn z.np (vN u0) r (b + 1))).length := by
          rw [el, List.length_append]; exact nI_add _ 1
        rw [pw, if_pos rfl, oL_v, ec]
        obtain ⟨u3, w1, w2, w3, w4⟩ := (mo.hd r hr k2).worth M2 hc B2.g
        have g3 : MAg gRk u u3 := g2.trans (w2.mono fun k hk => hk.1)
        have oS := stpS_ok (k := mA u0 48 r) o w3
        rw [← es'] at oS
        by_cases x0 : x20 = 0
        · rw [if_pos x0, oC_t (xr 49 rfl), oC_t (xr 50 rfl), k0 49 (by unfold kS; omega), k0 50 (by unfold kS; omega), w1, oB_v]
          cases hq : val (bt z.np (vN u0 r) b) nu (E3 r) with
          | none =>
            rw [hq] at w4 es'
            have w4' : mI u3 79 = 1 := w4
            have en : smS (kdx u0) (vlx u0 z.np nu E3) (flS u0 z.np A (5 * s + w) (dn z.np (vN u0) r (b + 1))) = none := by
              rw [es']
              cases smS (kdx u0) (vlx u0 z.np nu E3) (flS u0 z.np A (5 * s + w) (dn z.np (vN u0) r b)) <;> rfl
            rw [w4', if_neg (by decide), fX12_reckons_395, oL_v, e1]
            exact nx u3 x3 x5 x7 x9 x11 x13 x15 x17 1 _ rfl g3 (by rw [en]; exact rfl) oS
          | some q =>
            rw [hq] at w4 es' w3
            obtain ⟨z1, z2, z3⟩ := w4
            have k48 : mA u3 48 r = mA u0 48 r := by rw [(w2 48 (by unfold wk9; omega)).2.2.1]; exact k0 48 (by unfold kS; omega) r
            rw [z1, if_pos rfl, oL_v, oL_v, oC_t (xr 48 rfl), oL_v, k48, z2, z3]
            obtain ⟨u4, y3, y5, y7, y9, y11, y13, y15, y17, y20, j1, j2, j3⟩ := rkJoin (k32 := k32) (k69 := fX12_reckons_69 k32 (f + (m + 1))) (kd := mA u0 48 r) (x1 := nI s) (x2 := nI w) (x19 := nI (flS u0 z.np A (5 * s + w) (dn z.np (vN u0) r (b + 1))).length) (x21 := nI r) (b := b) z1 R x0 o (w3 q rfl)
            rw [j1]
            exact nx u4 y3 y5 y7 y9 y11 y13 y15 y17 y20 _ rfl (g3.trans (j2.mono fun k hk => hk.1)) (by rw [es']; exact j3) oS
        · have sn : smS (kdx u0) (vlx u0 z.np nu E3) (flS u0 z.np A (5 * s + w) (dn z.np (vN u0) r b)) = none := by
            cases hsm : smS (kdx u0) (vlx u0 z.np nu E3) (flS u0 z.np A (5 * s + w) (dn z.np (vN u0) r b)) with
            | none => rfl
            | some x =>
              rw [hsm] at R
              exact absurd R.1 x0
          have en : smS (kdx u0) (vlx u0 z.np nu E3) (flS u0 z.np A (5 * s + w) (dn z.np (vN u0) r (b + 1))) = none := by rw [es', sn]; rfl
          rw [sn] at R
          rw [if_neg x0, fX12_reckons_395, oL_v, e1]
          exact nx u2 x3 x5 x7 x9 x11 x13 x15 x17 x20 _ rfl g2 (by rw [en]; exact R) oS
      · rw [if_neg (by rw [nI_eq (by omega) (by omega)]; exact pw)]
        exact sk (fun h => pw (by have := h.1; rw [hv] at this; omega)) u2 g2
    · rw [if_pos a1]
      exact sk (fun h => a2 h.2) u (MAg.refl u)
