/-! judge -/
theorem nat32 {x : Int32} (a : -999999 ≤ x) (b : x ≤ 999999) : x.toInt.natAbs ≤ 999999 := by
  have h1 := Int32.le_iff_toInt_le.mp a
  have h2 := Int32.le_iff_toInt_le.mp b
  have e1 : (-999999 : Int32).toInt = -999999 := by decide
  have e2 : (999999 : Int32).toInt = 999999 := by decide
  rw [e1] at h1
  rw [e2] at h2
  omega
theorem judgeT {h hm : PH} {u : MS} {G Gm : Gh} {z : Sz} {d1 d2 : Int32} (I : Iv h u G z) (F : FRm h hm G Gm) (zh : hZ h ≤ hZ hm) (oh : ∀ x, x < hZ h → Gm.ow x = G.ow x) (S : SX hm Gm) (J : Gm.jj = true) (js : JS hm Gm) (x1 : ¬ d1 < 0) (x2 : ¬ 999999 < d1) (x3 : ¬ d2 < 0) (x4 : d2 ≤ 999999) : ∃ h' r ci cj u' G', fX11_judge_41 hm 0 d1 d2 (some (Gm.jd 0)) = some (h', r, ci, cj) ∧ fX12_judge u d1 d2 = some (u', r) ∧ Iv h' u' G' z ∧ ci + jp3 hm Gm ≤ jp3 h' G' ∧ cj + 3 * jp3 hm Gm ≤ 3 * jp3 h' G' ∧ G'.jj = true ∧ hN h' G'.tk = hN h G.tk ∧ hN h' G'.wk = hN h G.wk ∧ hN h' G'.pg = hN h G.pg := by
  have S0 := I.sx
  have zo := I.zo
  have zz := S0.zz
  have nr := zo.2.2.2.2.1
  have K := I.kr
  have at' : ∀ {b : Nat}, b < hZ h → G.ow b / 100000 ≠ 5 → (∀ f, hI hm f b = hI h f b) ∧ (∀ f, hL hm f b = hL h f b) ∧ (∀ i, hA hm b i = hA h b i) ∧ ∀ i, hB hm b i = hB h b i := fun l n => F.ag _ ⟨l, n⟩
  have gg : ∀ {n : Nat}, n ≠ 5 → Ag (gr (hZ h) G n) h hm := fun hn b hb => F.ag b ⟨hb.1, by have := hb.2; omega⟩
  have lpg := S0.lt S0.tpg (by omega)
  have ltk := S0.lt S0.ttk (by omega)
  have lwk := S0.lt S0.twk (by omega)
  have hp4 := I.rm.p4
  have hp5 := I.rm.p5
  have hp1 := I.rm.p1
  have hp3 := I.rm.p3
  obtain ⟨E1, E2, E3, mo0⟩ := Mo.ex K
  have o17 := (at' (b := 17) (by omega) (by rw [S0.o17]; omega)).2.2.1
  have nu : ∀ i, i < 20 → hA h 17 i = mA u 26 i ∧ (mA u 26 i).toInt.natAbs ≤ 999999 := fun i hi => by
    obtain ⟨a, b, c, _⟩ := I.nu i hi
    exact ⟨a, nat32 b c⟩
  have km := K.fr (u' := u) S0 (gg (n := 3) (by decide)) (MAg.refl u)
  have mm := mo0.fr S0 K (gg (n := 3) (by decide))
  have te := I.te.fr (u' := u) S0 ((at' (b := 0) (by omega) (by rw [S0.o0]; omega)).1 1413) (gg (n := 4) (by decide)) (MAg.refl u) (fun _ _ => rfl)
  have npg := F.N _ lpg
  have B0 : SBn u u z (fun i => mA u 26 i) := SBn.mk (MAg.refl u) (fun i hi => ⟨rfl, (nu i hi).2⟩) I.zm.1 I.zm.2.1 I.zm.2.2.1 I.zm.2.2.2.2.1
  have ot : okTe u G.nt := fun k hk => by
    obtain ⟨p, w, hp, _, hw, _, t2, _, _, _, t6, _⟩ := I.te.te k hk
    exact ⟨p, w, hp, hw, t2, t6⟩
  have fl : ∀ p, fax u d1 d2 G.nt p → p < 600 ∧ isLit (plN u) z.nw z.np p := fun p hf => by
    obtain ⟨k, k1, k2⟩ := tly_pos (show 0 < tly u d1 d2 G.nt p by have := hf.1; omega)
    obtain ⟨p', w, hp, hl, hw, _, t2, _⟩ := I.te.te k k1
    rw [t2, nI_clamp (by omega)] at k2
    rw [← k2]; exact ⟨hp, hl⟩
  obtain ⟨u', m1, m2⟩ := judgeM (d1 := d1) (d2 := d2) S0 I.zc I.zm mo0 K zo (by omega) B0 S0.nt100 I.te.n2 ot fl x1 x2 x3 x4
  have zc : SzC hm z := by
    unfold SzC
    rw [(at' (b := 6) (by omega) (by rw [S0.o6]; omega)).1, (at' (b := 8) (by omega) (by rw [S0.o8]; omega)).1, (at' (b := 10) (by omega) (by rw [S0.o10]; omega)).1, (at' (b := 12) (by omega) (by rw [S0.o12]; omega)).1, (at' (b := 14) (by omega) (by rw [S0.o14]; omega)).1, (at' (b := 5) (by omega) (by rw [S0.o5]; omega)).1, (at' (b := 5) (by omega) (by rw [S0.o5]; omega)).1]
    exact I.zc
  obtain ⟨jjm, jdm, owm, eG⟩ := F.ge
  have ent : Gm.nt = G.nt := by rw [eG]; rfl
  have epg : Gm.pg = G.pg := by rw [eG]; rfl
  have etk : Gm.tk = G.tk := by rw [eG]; rfl
  have ewk : Gm.wk = G.wk := by rw [eG]; rfl
  have W : CEv hm Gm z u (fun i => mA u 26 i) E1 E2 E3 := by
    apply CEv.mk
    · exact S
    · exact J
    · exact zc
    · rw [eG]; exact km
    · rw [eG]; exact mm
    · exact js.wh
    · intro i hi; rw [o17]; exact nu i hi
    · rw [epg, npg]; exact hp1
    · rw [epg, npg]; exact hp3
  have T : TeR hm u Gm z := by rw [eG]; exact te
  obtain ⟨h3, a1, a2, a3, a4, a5, a6, a7, a8, a9⟩ := judge1C (d1 := d1) (d2 := d2) W zo T
  have eN : hN h3 = hN hm := a2.1.2.2.2.1
  have js3 : JS h3 Gm := by
    have W3 := W.ch2 a2 (by decide)
    apply JS.mk
    · exact W3.wh
    · rw [eN]; exact js.k1
    · rw [eN]; exact js.k2
    · rw [eN]; exact js.k3
    · rw [eN]; exact js.k4
    · intro i; rw [(a2.own S J (show vj 17 by unfold vj; omega) (by decide)).2.2.1]; exact js.bt i
  rw [ent] at a8
  have jj2 := judge2C (d1 := d1) (d2 := d2) (W.ch2 a2 (by decide)) zo I.zm (by omega) js3 a3 a4 a5 a6 a7 (by rw [ent]; exact a8) a9 (by rw [ent]; exact fl) (by rw [ent]; exact m2.ex)
  rw [ent] at jj2
  obtain ⟨h', G', ci, cj, b1, b2, b3, b4, b5, b6⟩ := jj2
  have S3 := a2.sx S
  have gj : GJ (fun i => i ≠ 3) hm h' Gm G' := (GJ.of (a2.mono fun i e => by omega)).trans b3
  have F' : FRm h h' G G' := F.trans (FRm.gj gj S J) zh oh
  have ej : G'.jj = true := b3.jj.trans J
  have ju : IvJ h' u' G' z := .inr ⟨ej, m2.m96, b4.js, z.np, z.nw, z.ns, jr_v K zo rfl b4 m2⟩
  have I' := I.jud F' b2 m2.ag ju
  have j3 : jp3 h3 Gm = jp3 hm Gm := by unfold jp3; rw [eN]
  obtain ⟨q1, q2, q3, eq⟩ := F'.ge
  refine ⟨h', hA h' (G'.jd 18) 1, ci, cj, u', G', by rw [a1]; exact b1, ?_, I', by omega, by omega, ej, ?_, ?_, ?_⟩
  · rw [m1, b4.c1, m2.jm.c0]
  · rw [show G'.tk = G.tk by rw [eq]; rfl]; exact F'.N _ ltk
  · rw [show G'.wk = G.wk by rw [eq]; rfl]; exact F'.N _ lwk
  · rw [show G'.pg = G.pg by rw [eq]; rfl]; exact F'.N _ lpg
theorem judge41_s {X : PH} {Z : Nat} {d1 d2 : Int32} : fX11_judge_41 X 0 d1 d2 (some Z) = fX11_judge_41 (sR X 1416 0 (some Z)) 0 d1 d2 (some Z) := by
  have e : sR (sR X 1416 0 (some Z)) 1416 0 (some Z) = sR X 1416 0 (some Z) := sR_same (by rw [z_hR_sR, if_pos ⟨rfl, rfl⟩])
  rw [fX11_judge_41, fX11_judge_41, oL_v, oL_v, e, z_hT_sR]
theorem sp_judge : SP_judge Inv := by
  intro n c s h u d1 d2 ⟨G, z, I, Bd⟩
  have S := I.sx
  have zz := S.zz
  have no : ∀ (e1 : fX11_judge h 0 d1 d2 = some (h, -1, 0, 0)) (e2 : fX12_judge u d1 d2 = some (u, -1)), ∃ (h' : PH) (r : Int32) (kc ks : Nat) (u' : MS), fX11_judge h 0 d1 d2 = some (h', r, kc, ks) ∧ fX12_judge u d1 d2 = some (u', r) ∧ Inv n (c + kc) (s + ks) h' u' := fun e1 e2 => ⟨h, -1, 0, 0, u, e1, e2, G, z, I, by unfold Bud at *; omega⟩
  have day : ∀ x : Int32, fX11_isDay x = some (if x < 0 then 0 else if 999999 < x then 0 else 1) := fun x => by
    rw [fX11_isDay, fX11_isDay_0]
    by_cases a : x < 0
    · rw [if_pos a, if_pos a]
    · rw [if_neg a, if_neg a]
      by_cases b : 999999 < x
      · rw [if_pos b, if_pos b]
      · rw [if_neg b, if_neg b]
  by_cases x1 : d1 < 0
  · exact no (by rw [fX11_judge, fX11_judge_0, day, oB_v, if_pos x1, if_pos rfl]) (by rw [fX12_judge, fX12_judge_0, if_pos x1])
  by_cases x2 : 999999 < d1
  · exact no (by rw [fX11_judge, fX11_judge_0, day, oB_v, if_neg x1, if_pos x2, if_pos rfl]) (by rw [fX12_judge, fX12_judge_0, if_neg x1, if_pos x2])
  by_cases x3 : d2 < 0
  · exact no (by rw [fX11_judge, fX11_judge_0, day, oB_v, if_neg x1, if_neg x2, if_neg (by decide), day, oB_v, if_pos x3, if_pos rfl]) (by rw [fX12_judge, fX12_judge_0, if_neg x1, if_neg x2, if_pos x3])
  by_cases x4 : 999999 < d2
  · exact no (by rw [fX11_judge, fX11_judge_0, day, oB_v, if_neg x1, if_neg x2, if_neg (by decide), day, oB_v, if_neg x3, if_pos x4, if_pos rfl]) (by rw [fX12_judge, fX12_judge_0, if_neg x1, if_neg x2, if_neg x3, if_neg (Int32.not_le.mpr x4)])
  have x4' : d2 ≤ 999999 := Int32.not_lt.mp x4
  have st : fX11_judge h 0 d1 d2 = (if (hR h 1416 0) = none then (oL (nO h 6) (fun h72 => oK4 1 19 (oB3 (fX5_init h72 (hZ h) (hR h72 1410 0)) (fun h76 i77 j78 => oK4 i77 j78 (fX11_judge_41 h76 0 d1 d2 (some (hZ h))))))) else (fX11_judge_41 h 0 d1 d2 (hR h 1416 0))) := by
    rw [fX11_judge, fX11_judge_0, day, oB_v, if_neg x1, if_neg x2, if_neg (by decide), day, oB_v, if_neg x3, if_neg x4, if_neg (by decide), oC_d S.t0]
  rcases I.ju with ⟨J, _⟩ | ⟨J, _, js, _⟩
  · obtain ⟨X, e1, M⟩ := make_v S
    have Sm := M.sx (G := G) S
    have jsm : JS (sR X 1416 0 (some (hZ h))) (mG h G) := by
      apply JS.mk
      · exact M.wh
      · show hN _ (hZ h + 8) = hN _ (hZ h + 7); rw [M.T8.2.1, M.T7.2.1]
      · show hN _ (hZ h + 9) = hN _ (hZ h + 7); rw [M.T9.2.1, M.T7.2.1]
      · show 32 ≤ hN _ (hZ h + 7); rw [M.T7.2.1]; omega
      · show hN _ (hZ h + 7) ≤ 8192; rw [M.T7.2.1]; omega
      · intro i; show isBy (hA _ (hZ h + 9) i); rw [M.a9]; exact bs_0
    obtain ⟨h', r, ci, cj, u', G', a1, a2, a3, a4, a5, a6, a7, a8, a9⟩ := judgeT (d1 := d1) (d2 := d2) I (FRm.made M) (by rw [M.z]; omega) (fun x hx => if_pos hx) Sm rfl jsm x1 x2 x3 x4'
    have a1' : fX11_judge_41 X 0 d1 d2 (some (hZ h)) = some (h', r, ci, cj) := by rw [judge41_s]; exact a1
    have r10 : hR (nO h 6) 1410 0 = some 5 := by rw [z_hR_nO, if_neg (by omega)]; exact S.r1410_0
    refine ⟨h', r, 1 + (44 + ci), 19 + (3319 + cj), u', ?_, a2, G', z, a3, ?_⟩
    · rw [st, if_pos (S.jN J), oL_v, r10, e1, oB3_v, a1', oK4_v, oK4_v]
    · unfold Bud pot at *
      unfold jp3 at a4 a5
      rw [J] at Bd
      rw [a6, if_pos rfl, a7, a8, a9]
      rw [if_neg (by decide)] at Bd
      omega
  · obtain ⟨h', r, ci, cj, u', G', a1, a2, a3, a4, a5, a6, a7, a8, a9⟩ := judgeT (d1 := d1) (d2 := d2) I (FRm.gj (P := fun _ => False) (GJ.of (CH.refl G _ h)) S J) (Nat.le_refl _) (fun _ _ => rfl) S J js x1 x2 x3 x4'
    refine ⟨h', r, ci, cj, u', ?_, a2, G', z, a3, ?_⟩
    · rw [st, S.jY J, if_neg (by simp)]; exact a1
    · unfold Bud pot at *
      unfold jp3 at a4 a5
      rw [J, if_pos rfl] at Bd
      rw [a6, if_pos rfl, a7, a8, a9]
      omega
