theorem flS_skip {h0 : PH} {u0 : MS} {G : Gh} {z : Sz} {A : Nat → Prop} {r s w : Nat} (K : KR h0 u0 G z) (zo : z.ok) (hr : r < z.nr) (hw : w < 5) (hn : ¬ (mA u0 40 r = 2 ∧ mA u0 44 r = nI s)) (hs : s < 4) : flS u0 z.np A (5 * s + w) (dn z.np (vN u0) (r + 1) 0) = flS u0 z.np A (5 * s + w) (dn z.np (vN u0) r 0) := by
  rw [dn_zero, dn_zero, insL_succ]
  unfold flS
  rw [List.filter_append]
  have nil : ((List.range (z.np ^ vN u0 r)).map fun b => 125 * r + b).filter (cd fun x => hdx u0 z.np x = 600 + (5 * s + w) ∧ A x) = [] := by
    rw [List.filter_eq_nil_iff]
    intro x hx hc
    obtain ⟨b, hb, e⟩ := List.mem_map.mp hx
    have hb' := List.mem_range.mp hb
    have hh := (cd_t.mp hc).1
    obtain ⟨m42, v3, m41, c6⟩ := ruV K hr
    have h125 := pow_le zo.1 v3
    have np := zo.1
    obtain ⟨l', kk, n, v, h1, h2, h3, h4, h5, h6, h7, h8, h9, ha', hb2, hc', hd, he, hf⟩ := K.ru r hr
    have ev : vN u0 r = v := by unfold vN; rw [hd, nI_clamp (by omega)]
    have bl : ∀ i, i < v → bt z.np (vN u0 r) b i < z.np := fun i hi => bt_lt (by rcases pow_pos' hb' with c | c <;> omega)
    rw [← e, hdx_v (by omega)] at hh
    by_cases c2 : mA u0 40 r = 2
    · rw [if_pos c2] at hh
      rcases he with q | q
      · exact q.1 c2
      · obtain ⟨_, ⟨s', s1, s2, s3⟩, _, _, t, t1, t2, t3⟩ := q
        have ns := zo.2.2.1
        have pl : pM (bt z.np (vN u0 r) b) (mA u0 46 r) < 5 := by
          obtain ⟨t, t1, t2, t3⟩ := (by assumption : TmR z v (hI h0 259 (G.hd r)) (mA u0 46 r))
          rw [t3, pM_tm t1]
          have := pe_lt bl t1
          omega
        rw [s3, nI_clamp (show s' < 2147483648 by omega)] at hh
        have : s' = s := by omega
        exact hn ⟨c2, by rw [s3, this]⟩
    · rw [if_neg c2] at hh
      have LT : LtR u0 z v (hI h0 257 (G.hd r)) (hI h0 258 (G.hd r)) (hI h0 259 (G.hd r)) (hI h0 260 (G.hd r)) (mA u0 44 r) (mA u0 45 r) (mA u0 46 r) (mA u0 47 r) := by
        rcases he with q | q
        · exact q.2
        · exact absurd q.1 c2
      have := (LT.lit (β := bt z.np (vN u0 r) b) zo bl).2
      omega
  rw [nil, List.append_nil]
theorem rk32 {h0 : PH} {u0 : MS} {G : Gh} {z : Sz} {nu : Nat → Int32} {E1 E2 E3 : Nat → List Tok} {A : Nat → Prop} {s w : Nat} (mo : Mo h0 u0 G z E1 E2 E3) (K : KR h0 u0 G z) (zo : z.ok) (hc : z.rc ≤ 37000) (hs : s < 4) (hw : w < 5) : ∀ m r f u x3 x5 x7 x9 x11 x13 x15 x17 x20, r + m = z.nr → SBn u0 u z nu → (∀ x, x ∈ insL z.nr z.np (vN u0) → Tf (mA u 89 x) (A x)) → RKs (smS (kdx u0) (vlx u0 z.np nu E3) (flS u0 z.np A (5 * s + w) (dn z.np (vN u0) r 0))) x3 x5 x7 x9 x11 x13 x15 x17 x20 → okSm (smS (kdx u0) (vlx u0 z.np nu E3) (flS u0 z.np A (5 * s + w) (dn z.np (vN u0) r 0))) → ∃ u' f' y3 y5 y7 y9 y11 y13 y15 y17 y20, fX12_reckons_32 (f + (m + 1)) u (nI s) (nI w) x3 x5 x7 x9 x11 x13 x15 x17 (nI (flS u0 z.np A (5 * s + w) (dn z.np (vN u0) r 0)).length) x20 (nI r) = fX12_reckons_32 (f' + 1) u' (nI s) (nI w) y3 y5 y7 y9 y11 y13 y15 y17 (nI (flS u0 z.np A (5 * s + w) (insL z.nr z.np (vN u0))).length) y20 (nI z.nr) ∧ MAg gRk u u' ∧ RKs (smS (kdx u0) (vlx u0 z.np nu E3) (flS u0 z.np A (5 * s + w) (insL z.nr z.np (vN u0)))) y3 y5 y7 y9 y11 y13 y15 y17 y20 ∧ okSm (smS (kdx u0) (vlx u0 z.np nu E3) (flS u0 z.np A (5 * s + w) (insL z.nr z.np (vN u0))))
  | 0, r, f, u, x3, x5, x7, x9, x11, x13, x15, x17, x20, e, B, ha, R, o => by
    have er : r = z.nr := e
    subst er
    rw [dn_zero] at R o ⊢
    exact ⟨u, f, x3, x5, x7, x9, x11, x13, x15, x17, x20, rfl, MAg.refl u, R, o⟩
  | m + 1, r, f, u, x3, x5, x7, x9, x11, x13, x15, x17, x20, e, B, ha, R, o => by
    have nr := zo.2.2.2.2.1
    have hr : r < z.nr := by omega
    obtain ⟨m42, v3, m41, c6⟩ := ruV K hr
    have h125 := pow_le zo.1 v3
    have cr : Int32.toNatClampNeg (nI r) = r := nI_clamp (by omega)
    have xr : ∀ s, mlen s = 30 → ix (nI r) (mlen s) = true := fun s hs => ix_n (by rw [hs]; omega) (by rw [hs]; decide)
    have k0 : ∀ q, kS q → ∀ i, mA u q i = mA u0 q i := fun q hq => (B.g q hq).2.2.1
    have e1 : nI r + 1 = nI (r + 1) := nI_add r 1
    have nx : ∀ (u3 : MS) (y3 y5 y7 y9 y11 y13 y15 y17 : Int64) (y20 : Int32), MAg gRk u u3 → RKs (smS (kdx u0) (vlx u0 z.np nu E3) (flS u0 z.np A (5 * s + w) (dn z.np (vN u0) (r + 1) 0))) y3 y5 y7 y9 y11 y13 y15 y17 y20 → okSm (smS (kdx u0) (vlx u0 z.np nu E3) (flS u0 z.np A (5 * s + w) (dn z.np (vN u0) (r + 1) 0))) → ∃ u' f' y3' y5' y7' y9' y11' y13' y15' y17' y20', fX12_reckons_32 (f + (m + 1)) u3 (nI s) (nI w) y3 y5 y7 y9 y11 y13 y15 y17 (nI (flS u0 z.np A (5 * s + w) (dn z.np (vN u0) (r + 1) 0)).length) y20 (nI (r + 1)) = fX12_reckons_32 (f' + 1) u' (nI s) (nI w) y3' y5' y7' y9' y11' y13' y15' y17' (nI (flS u0 z.np A (5 * s + w) (insL z.nr z.np (vN u0))).length) y20' (nI z.nr) ∧ MAg gRk u u' ∧ RKs (smS (kdx u0) (vlx u0 z.np nu E3) (flS u0 z.np A (5 * s + w) (insL z.nr z.np (vN u0)))) y3' y5' y7' y9' y11' y13' y15' y17' y20' ∧ okSm (smS (kdx u0) (vlx u0 z.np nu E3) (flS u0 z.np A (5 * s + w) (insL z.nr z.np (vN u0)))) := by
      intro u3 y3 y5 y7 y9 y11 y13 y15 y17 y20 g3 R3 o3
      obtain ⟨u', f', a3, a5, a7, a9, a11, a13, a15, a17, a20, q1, q2, q3, q4⟩ := rk32 (A := A) mo K zo hc hs hw m (r + 1) f u3 y3 y5 y7 y9 y11 y13 y15 y17 y20 (by omega) (B.fr g3 (fun q hq => by unfold gRk wk9; omega)) (fun x hx => by rw [(g3 89 (by unfold gRk wk9; omega)).2.2.1]; exact ha x hx) R3 o3
      exact ⟨u', f', a3, a5, a7, a9, a11, a13, a15, a17, a20, q1, g3.trans q2, q3, q4⟩
    have sk : ¬ (mA u0 40 r = 2 ∧ mA u0 44 r = nI s) → ∃ u' f' y3' y5' y7' y9' y11' y13' y15' y17' y20', fX12_reckons_401 (fX12_reckons_32 (f + (m + 1))) u (nI s) (nI w) x3 x5 x7 x9 x11 x13 x15 x17 (nI (flS u0 z.np A (5 * s + w) (dn z.np (vN u0) r 0)).length) x20 (nI r) = fX12_reckons_32 (f' + 1) u' (nI s) (nI w) y3' y5' y7' y9' y11' y13' y15' y17' (nI (flS u0 z.np A (5 * s + w) (insL z.nr z.np (vN u0))).length) y20' (nI z.nr) ∧ MAg gRk u u' ∧ RKs (smS (kdx u0) (vlx u0 z.np nu E3) (flS u0 z.np A (5 * s + w) (insL z.nr z.np (vN u0)))) y3' y5' y7' y9' y11' y13' y15' y17' y20' ∧ okSm (smS (kdx u0) (vlx u0 z.np nu E3) (flS u0 z.np A (5 * s + w) (insL z.nr z.np (vN u0)))) := by
      intro hn
      have el := flS_skip (A := A) K zo hr hw hn hs
      rw [fX12_reckons_401, oL_v, e1, ← el]
      exact nx u x3 x5 x7 x9 x11 x13 x15 x17 x20 (MAg.refl u) (by rw [el]; exact R) (by rw [el]; exact o)
    rw [show ∀ c, fX12_reckons_32 (f + (m + 1 + 1)) u (nI s) (nI w) x3 x5 x7 x9 x11 x13 x15 x17 c x20 (nI r) = fX12_reckons_32F (fX12_reckons_32 (f + (m + 1))) u (nI s) (nI w) x3 x5 x7 x9 x11 x13 x15 x17 c x20 (nI r) from fun _ => rfl, fX12_reckons_32F, B.m22, if_neg (nI_ge hr (by omega)), oC_t (xr 40 rfl), cr, k0 40 (by unfold kS; omega)]
    by_cases c2 : mA u0 40 r = 2
    · rw [if_pos c2, oC_t (xr 44 rfl), k0 44 (by unfold kS; omega)]
      by_cases c3 : mA u0 44 r = nI s
      · rw [if_pos c3]
        obtain ⟨f2, hf2⟩ : ∃ f', FU = f' + (z.np ^ vN u0 r + 1) := ⟨FU - (z.np ^ vN u0 r + 1), by have : FU = 100000 := rfl; omega⟩
        obtain ⟨u3, y3, y5, y7, y9, y11, y13, y15, y17, y20, q1, q2, q3, q4⟩ := rk69 (k32 := fX12_reckons_32 (f + (m + 1))) (A := A) mo K zo hc hr c2 c3 hs hw (z.np ^ vN u0 r) 0 f2 u x3 x5 x7 x9 x11 x13 x15 x17 x20 (by omega) B (fun b hb => ha _ (mem_insL.mpr ⟨r, b, hr, hb, rfl⟩)) R o
        rw [hf2, show (0 : Int32) = nI 0 from rfl, q1]
        exact nx u3 y3 y5 y7 y9 y11 y13 y15 y17 y20 q2 q3 q4
      · rw [if_neg c3]
        exact sk fun h => c3 h.2
    · rw [if_neg c2]
      exact sk fun h => c2 h.1
/-- a sum told in the reference -/
def SmR (u : MS) (k : Nat) (n : Nat) : Option Qq → Prop
  | none => mA u 110 k = nI n ∧ mA u 111 k = 1 ∧ mB u 108 k = 0 ∧ mB u 109 k = 0
  | some q => mA u 110 k = nI n ∧ mA u 111 k = 0 ∧ mB u 108 k = q.1 ∧ mB u 109 k = q.2
def setS (u : MS) (k : Nat) (c fl : Int32) (n d : Int64) : MS := mSB (mSB (mSA (mSA u 110 k c) 111 k fl) 108 k n) 109 k d
theorem nI_5 {a b : Nat} : 5 * nI a + nI b = nI (5 * a + b) := by
  rw [show (5 : Int32) = nI 5 from rfl, nI_mul, nI_add]
theorem rk500 {u : MS} {s w : Nat} {x3 x5 : Int64} {c x20 : Int32} (hs : s < 4) (hw : w < 5) (hb : b01 x20) : fX12_reckons_500 u (nI s) (nI w) x3 x5 c x20 = some (setS u (5 * s + w) c x20 (if x20 = 0 then x3 else 0) (if x20 = 0 then x5 else 0)) := by
  have ck : Int32.toNatClampNeg (nI (5 * s + w)) = 5 * s + w := nI_clamp (by omega)
  have xk : ∀ q, mlen q = 20 → ix (nI (5 * s + w)) (mlen q) = true := fun q hq => ix_n (by rw [hq]; omega) (by rw [hq]; decide)
  have ib : isB x20 = true := by rcases hb with h | h <;> rw [h] <;> rfl
  rw [fX12_reckons_500, nI_5, oL_v, oC_t (xk 110 rfl), ck, oL_v, oC_t ib, oC_t (xk 111 rfl), oL_v]
  by_cases h : x20 = 0
  · rw [if_pos h, if_pos h, if_pos h, fX12_reckons_541, oC_t (xk 108 rfl), ck, oL_v, if_pos h, fX12_reckons_559, oC_t (xk 109 rfl), ck, oL_v]
    rfl
  · rw [if_neg h, if_neg h, if_neg h, fX12_reckons_541, oC_t (xk 108 rfl), ck, oL_v, if_neg h, fX12_reckons_559, oC_t (xk 109 rfl), ck, oL_v]
    rfl
theorem rk446f {u : MS} {s w : Nat} {x3 x5 x11 x13 x15 x17 : Int64} {c : Int32} (hs : s < 4) (hw : w < 5) : fX12_reckons_446 u (nI s) (nI w) x3 x5 x11 x13 x15 x17 c 1 = some (setS u (5 * s + w) c 1 0 0) := by
  have e : ∀ a b, fX12_reckons_473 u (nI s) (nI w) a b x15 x17 c 1 = some (setS u (5 * s + w) c 1 0 0) := by
    intro a b
    have e5 : ∀ a b, fX12_reckons_500 u (nI s) (nI w) a b c 1 = some (setS u (5 * s + w) c 1 0 0) := fun a b => by
      rw [rk500 hs hw (.inr rfl), if_neg (by decide), if_neg (by decide)]
    rw [fX12_reckons_473]
    by_cases h : lg_cmp x17 0 ≤ 0
    · rw [if_pos h, e5]
    · rw [if_neg h, show fX12_against a b x15 x17 = some (cmpQ (a, b) (x15, x17)) from magainst_v (a, b) (x15, x17), oB_v, e5, e5, ite_self]
  rw [fX12_reckons_446]
  by_cases h : lg_cmp x13 0 ≤ 0
  · rw [if_pos h, e]
  · rw [if_neg h, show fX12_against x3 x5 x11 x13 = some (cmpQ (x3, x5) (x11, x13)) from magainst_v (x3, x5) (x11, x13), oB_v, e, e, ite_self]
theorem rk446 {u : MS} {s w : Nat} {t : Qq} {cp fl : Option Qq} {x11 x13 x15 x17 : Int64} {c : Int32} (hs : s < 4) (hw : w < 5) (rc : cR cp x11 x13) (rf : cR fl x15 x17) (oc : okV cp) (of : okV fl) : fX12_reckons_446 u (nI s) (nI w) t.1 t.2 x11 x13 x15 x17 c 0 = some (setS u (5 * s + w) c 0 (flrT (capT t cp) fl).1 (flrT (capT t cp) fl).2) := by
  have e5 : ∀ a b, fX12_reckons_500 u (nI s) (nI w) a b c 0 = some (setS u (5 * s + w) c 0 a b) := fun a b => by
    rw [rk500 hs hw (.inl rfl), if_pos rfl, if_pos rfl]
  have e : ∀ t : Qq, fX12_reckons_473 u (nI s) (nI w) t.1 t.2 x15 x17 c 0 = some (setS u (5 * s + w) c 0 (flrT t fl).1 (flrT t fl).2) := by
    intro t
    rw [fX12_reckons_473]
    cases fl with
    | none =>
      have r : x17 = 0 := rf
      rw [r, if_pos (show lg_cmp 0 0 ≤ 0 from Int32.le_refl _), e5]
      rfl
    | some q =>
      obtain ⟨r1, r2⟩ := rf
      subst r1 r2
      rw [if_neg (lc_q' (of q rfl)), magainst_v, oB_v, e5, e5]
      unfold flrT
      by_cases d : 0 ≤ cmpQ t q
      · simp only [if_pos d]
      · simp only [if_neg d]
  rw [fX12_reckons_446]
  cases cp with
  | none =>
    have r : x13 = 0 := rc
    rw [r, if_pos (show lg_cmp 0 0 ≤ 0 from Int32.le_refl _), e]
    rfl
  | some q =>
    obtain ⟨r1, r2⟩ := rc
    subst r1 r2
    rw [if_neg (lc_q' (oc q rfl)), magainst_v, oB_v, e, e]
    unfold capT
    by_cases d : cmpQ t q ≤ 0
    · simp only [if_pos d]
    · simp only [if_neg d]
