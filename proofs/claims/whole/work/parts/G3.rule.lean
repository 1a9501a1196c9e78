section RU3
variable {h h' : PH} {u u' : MS} {G G' : Gh} {z c : Sz} {w v v' L n t t' pc rc pc' rc' y kc k a B : Nat} {D : Nat → Nat × Nat × Nat × List Nat}
theorem TO.q {h1 : PH} {e f t1 : Nat} {gg g2 : Nat → Int32} {F : Option (PH × Nat × Nat)} {M : Option MS} (hn : hN h1 = hN h) (hg : ∀ x, x < 520 → x ≠ 516 → g2 x = gg x) (ht : t ≤ t1) (g : TO h1 G z c w L n D t1 e f g2 F M) : TO h G z c w L n D t e f gg F M := by
  obtain ⟨h', G', di, dj, u', a1, a2, a3, a4, a5⟩ := g
  refine ⟨h', G', di, dj, u', a1, a2, ?_, fun x q1 q2 => (a4 x q1 q2).trans (hg x q1 q2), ?_⟩
  · have a := a3.c1
    have b := a3.c2
    rw [pot_n G hn] at a b
    exact ⟨a, b⟩
  · rcases a5 with ⟨t', p', r', b1, b2⟩ | b
    · exact .inl ⟨t', p', r', by omega, b2⟩
    · exact .inr b
theorem t142_h (u : MS) (x : Int32) : fX12_tellRule_142 u x = oB (fX12_must u 15) (fun h19 => if x = 2 then hMt h19 else hMl h19) := rfl
theorem h161_h {h1 : PH} {r : Int32} (S : SX h G) (S1 : SX h1 G) (wG : w < G.nr) (t9 : hT h1 (G.rl w) = 9) (e : fX4_expect h 23 256 = some (h1, r)) (x1 : Int32) : fX4_tellRule_161 h 23 x1 (some (G.rl w)) = if x1 = 311 then oB3 (fX4_takeHead h1 23 (some (G.hd w))) (fun h23 i24 j25 => oK3 i24 j25 (fX4_tellRule_195 h23 23 (some (G.rl w)))) else oB (fX4_literal h1 23 (some (G.hd w))) (fun h18 => fX4_tellRule_195 h18 23 (some (G.rl w))) := by
  unfold fX4_tellRule_161
  rw [oC_d S.t23, e, oB2_v, oN_v, oC_d t9, oC_d S1.t23, S1.hdR w wG, oN_v, oC_d t9, oC_d S1.t23, S1.hdR w wG]
theorem head_dm (X : DR h u G z w L n D pc B) (x2 : Int32) : ∃ u2, fX12_tellRule_142 u x2 = some u2 ∧ DD h u h u2 G G z w ∧ Ded h u2 := by
  have S := X.d.i.sx
  have w3 := X.w3
  rw [t142_h, must_d X.d.X, oB_v]
  by_cases c2 : x2 = 2
  · rw [if_pos c2]
    refine ⟨u, ?_, (RD.refl S u w 23 z.pc z.rc).dd S (.inl rfl) w3 (Nat.le_refl _) (Nat.le_refl _), X.d.X⟩
    unfold hMt
    rw [oL_v, must_d X.d.X, oB_v, if_neg X.d.X.f.2.1]
  · rw [if_neg c2]
    obtain ⟨e1, X1⟩ := lit_dm X.d.X
    have m65 : mI (mSI u 67 1) 65 = nI w := X.m65
    have X3 := X1.rm (h4_m (mSI u 67 1) w 0)
    refine ⟨h4 (mSI u 67 1) w, ?_, ((RD.si S u w z.pc z.rc (k := 67) (by omega) 1).dd S (.inl rfl) w3 (Nat.le_refl _) (Nat.le_refl _)).trans ((h4_m (mSI u 67 1) w 0).dd S), X3⟩
    rw [hMl_v e1 m65 w3 (.inr (by simp only [z_mI_mSI, z_mL_mSI, z_mA_mSI, z_mB_mSI, z_mI_mSL, z_mL_mSL, z_mA_mSL, z_mB_mSL, z_mI_mSA, z_mL_mSA, z_mA_mSA, z_mB_mSA, z_mI_mSB, z_mL_mSB, z_mA_mSB, z_mB_mSB, if_true, if_false, and_false, false_and, and_true, true_and, and_self, decide_true, decide_false, reduceCtorEq, not_false_eq_true, not_true_eq_false, Nat.reduceEqDiff, Nat.reduceAdd, Nat.reduceMul, Nat.add_zero, Nat.zero_add])), t410_d X3]
/-- the head behind a stop -/
theorem head_d (X : DR h u G z w L n D pc B) (hB : B ≤ 1250) (x1 x2 : Int32) : TO h G z c w L n D t 0 0 (fun f => hI h f 23) (fX4_tellRule_161 h 23 x1 (some (G.rl w))) (fX12_tellRule_142 u x2) := by
  have S := X.d.i.sx
  have wG := X.wG
  have w3 := X.w3
  have ta := S.hdT w wG
  have ob : OB G w (G.hd w) := .inl (S.hdo w wG)
  have ed := expect_d S X.d.X (k := 15) (by omega) (by omega)
  have ed' : fX4_expect h 23 256 = some (h, 0) := ed
  obtain ⟨u2, eM, D2, X2⟩ := head_dm X x2
  have Y : DR h u2 G z w L n D pc B := X.dd D2 X2 X.d.sz X.d.hp (Nat.le_refl _) X.pb
  rw [eM, h161_h S S wG (S.rlT w wG) ed']
  have fin : ∀ {hh : PH} {GG : Gh} {ci cj pcc : Nat}, RC h hh G GG ci cj → DD h u2 hh u2 G GG z w → Ded hh u2 → hI hh 142 5 = nI pcc → pcc ≤ hN hh GG.pg → pc ≤ pcc → pcc ≤ pc + 2 → TO h G z c w L n D t 0 0 (fun f => hI h f 23) (oK3 ci cj (fX4_tellRule_195 hh 23 (some (G.rl w)))) (some u2) := fun {hh GG ci cj pcc} f1 f2 f3 f4 f5 f6 f7 => by
    have Y5 : DR hh u2 GG z w L n D pcc (B + 2) := Y.dd f2 f3 f4 f5 f6 (by have := Y.pb; omega)
    have g := tail_d (c := c) (t := t) Y5
    rw [t410_d f3, f2.rl] at g
    have g2 := TO.pre (f1.x 0 0) (Nat.le_refl t) g
    exact TO.q rfl (fun x q1 q2 => f2.g x q1 q2) (Nat.le_refl _) g2
  by_cases c1 : x1 = 311
  · rw [if_pos c1]
    obtain ⟨h12, G12, i12, j12, pc12, e12, C12, D12, X12, q3, q4, q5, q6⟩ := take_dc Y (by omega) ta ob
    rw [e12, oB3_v]
    exact fin C12 D12 X12 q3 q4 q5 q6
  · rw [if_neg c1]
    obtain ⟨h12, e12, T12, X12⟩ := lit_dc Y ta ob
    rw [e12, oB_v]
    have g := fin (ci := 0) (cj := 0) (RC.n T12.N) ((RD.ld S T12 z.pc z.rc).dd S (.inr ob) w3 (Nat.le_refl _) (Nat.le_refl _)) X12 ((T12.I _ _ (by omega) (ob.ne w3 S.o5 (by omega))).trans X.d.sz) (by rw [T12.N]; exact X.d.hp) (Nat.le_refl _) (by omega)
    rw [oK3_0] at g
    exact g
/-- the arrow and the head -/
theorem head_v (X : RX h u G z c w v L n D t pc rc y k k) : TO h G z c w L n D t 0 0 (fun f => hI h f 23) (fX4_tellRule_161 h 23 (nI (309 + y)) (some (G.rl w))) (fX12_tellRule_142 u (nI y)) := by
  have S := X.i.sx
  have wG := X.wG
  have bp := X.bp
  have b1 := X.b1
  have y2 := X.y2
  obtain ⟨h1, u1, r1, e1, e2, Q1, W1, o1⟩ := want_v X.i X.V X.F (k := 15) (by omega) (by omega) (by omega)
  have e1' : fX4_expect h 23 256 = some (h1, r1) := e1
  have e2' : fX12_must u 15 = some u1 := e2
  have S1 := Q1.sx S
  have t91 : hT h1 (G.rl w) = 9 := by rw [Q1.T]; exact S.rlT w wG
  have ey : nI y = 2 ↔ y = 2 := nI_eq (b := 2) (by omega) (by omega)
  have ex : nI (309 + y) = 311 ↔ y = 2 := (nI_eq (a := 309 + y) (b := 311) (by omega) (by omega)).trans (by omega)
  rcases o1 with ⟨_, _, c1, V1, F1, M1⟩ | ⟨_, Xd⟩
  · have X1 := X.mv Q1 W1 V1 F1 M1 (by omega)
    rw [h161_h S S1 wG t91 e1', t142_h, e2', oB_v]
    by_cases c2 : y = 2
    · rw [if_pos (ex.mpr c2), if_pos (ey.mpr c2)]
      exact TO.q Q1.N (fun x q1 q2 => Q1.g x q1) (by omega) (head_take X1 c2)
    · rw [if_neg (fun q => c2 (ex.mp q)), if_neg (fun q => c2 (ey.mp q))]
      exact TO.q Q1.N (fun x q1 q2 => Q1.g x q1) (by omega) (head_lit X1 c2)
  · have Y : DR h1 u1 G z w L n D pc 1201 := X.dr (DD.q S X.K.w3 Q1 W1) Xd ((Q1.I _ _ (by omega)).trans X.sz) (by rw [Q1.N]; exact X.hp) (Nat.le_refl _) (by omega)
    have g := head_d (c := c) (t := t) Y (by omega) (nI (309 + y)) (nI y)
    have ed := expect_d S1 Xd (k := 15) (by omega) (by omega)
    have ed' : fX4_expect h1 23 256 = some (h1, 0) := ed
    rw [h161_h S1 S1 wG t91 ed', t142_h, must_d Xd, oB_v] at g
    rw [h161_h S S1 wG t91 e1', t142_h, e2', oB_v]
    exact TO.q Q1.N (fun x q1 q2 => Q1.g x q1) (Nat.le_refl _) g
theorem l71_0 (g : Nat) (h : PH) (x1 : Int32) (x2 : Option Nat) (x4 : Int32) : fX4_tellRule_71 (g + 1) h 23 x1 x2 0 x4 = fX4_tellRule_161 h 23 x1 x2 := by
  show fX4_tellRule_71F (fX4_tellRule_71 g) h 23 x1 x2 0 x4 = _
  unfold fX4_tellRule_71F
  by_cases c : 6 < x4
  · rw [if_pos c]
  · rw [if_neg c, if_pos rfl]
theorem l106_0 (f : Nat) (u : MS) (x2 : Int32) : fX12_tellRule_106 (f + 1) u x2 0 = fX12_tellRule_142 u x2 := by
  show fX12_tellRule_106F (fX12_tellRule_106 f) u x2 0 = _
  unfold fX12_tellRule_106F
  rw [if_pos rfl]
/-- the conditions of a rule, and its head -/
theorem conds_v : ∀ (j : Nat) (h : PH) (u : MS) (G : Gh) (v t pc rc k g f : Nat), k + j = 7 → RX h u G z c w v L n D t pc rc y k k → 20 ≤ g + k → 20 ≤ f + k → TO h G z c w L n D t j (8 * j) (fun f => hI h f 23) (fX4_tellRule_71 g h 23 (nI (309 + y)) (some (G.rl w)) 1 (nI k)) (fX12_tellRule_106 f u (nI y) 1) := by
  intro j
  induction j with
  | zero =>
    intro h u G v t pc rc k g f hk X
    have := X.k6
    omega
  | succ j ih =>
    intro h u G v t pc rc k g f hk X hg hf
    have S := X.i.sx
    have k6 := X.k6
    have bp := X.bp
    obtain ⟨g1, rfl⟩ : ∃ g1, g = g1 + 1 + 1 := ⟨g - 2, by omega⟩
    obtain ⟨f1, rfl⟩ : ∃ f1, f = f1 + 1 + 1 := ⟨f - 2, by omega⟩
    obtain ⟨h1, G1, ci, cj, u1, eM, C1, gr, g1', o⟩ := cond_v X
    have hC : fX4_tellRule_71 (g1 + 1 + 1) h 23 (nI (309 + y)) (some (G.rl w)) 1 (nI k) = fbody (fX4_tellRule_71 (g1 + 1)) h (nI (309 + y)) (some (G.rl w)) (nI k) := by
      show fX4_tellRule_71F (fX4_tellRule_71 (g1 + 1)) h 23 (nI (309 + y)) (some (G.rl w)) 1 (nI k) = _
      unfold fX4_tellRule_71F
      rw [if_neg (show ¬ 6 < nI k from nI_nlt (a := 6) (by omega) (by omega)), if_neg (by decide), oC_d S.t23]
      rfl
    have hM : fX12_tellRule_106 (f1 + 1 + 1) u (nI y) 1 = oB (fX12_is u1 7) (fun r71 => if r71 = 0 then fX12_tellRule_106 (f1 + 1) u1 (nI y) r71 else oB (fX12_next u1) (fun h74 => fX12_tellRule_106 (f1 + 1) h74 (nI y) r71)) := by
      show fX12_tellRule_106F (fX12_tellRule_106 (f1 + 1)) u (nI y) 1 = _
      unfold fX12_tellRule_106F
      rw [if_neg (by decide), if_pos X.V.f0, eM, oB_v]
    rw [hC, hM]
    have c44 : cK 7 = 44 := rfl
    rcases o with ⟨t1, v1, pc1, rc1, eb, lt1, lv1, lp1, lr1, X1, fm1⟩ | ⟨pc1, Y1, eb⟩
    · have S1 := X1.i.sx
      rw [eb]
      have e1j : TO h1 G1 z c w L n D t1 j (8 * j) (fun f => hI h1 f 23) (fX4_tellRule_148 (fX4_tellRule_71 (g1 + 1)) h1 23 (nI (309 + y)) (some (G.rl w)) (nI k)) (oB (fX12_is u1 7) (fun r71 => if r71 = 0 then fX12_tellRule_106 (f1 + 1) u1 (nI y) r71 else oB (fX12_next u1) (fun h74 => fX12_tellRule_106 (f1 + 1) h74 (nI y) r71))) := by
        unfold fX4_tellRule_148
        rcases may_v X1.i X1.V X1.F (k := 7) (by omega) (by omega) (by omega) with ⟨c7, es, is7⟩ | ⟨c7, is7, h2, u2, r2, es, nx, Q2, W2, o2⟩
        · rw [c44] at es
          have is7' : fX12_is u1 7 = some 0 := is7
          rw [oC_d S1.t23, es, oB2_v, oL_v, is7', oB_v, if_pos rfl, l71_0, l106_0, ← gr]
          exact (head_v X1).mono (Nat.zero_le _) (Nat.zero_le _)
        · rw [c44] at es
          have is7' : fX12_is u1 7 = some 1 := is7
          have S2 := Q2.sx S1
          rw [oC_d S1.t23, es, oB2_v, oL_v, is7', oB_v, if_neg (by decide), nx, oB_v, nI_1]
          rcases o2 with ⟨er, c2, V2, F2, fm2⟩ | ⟨er, Xd⟩
          · subst er
            have X2 := X1.mv Q2 W2 V2 F2 fm2 (by omega)
            have := ih h2 u2 G1 v1 (t1 + 1) pc1 rc1 (k + 1) (g1 + 1) (f1 + 1) (by omega) X2 (by omega) (by omega)
            rw [gr] at this
            exact TO.q Q2.N (fun x q1 q2 => Q2.g x q1) (by omega) this
          · subst er
            have b11 := X1.b1
            have bp1 := X1.bp
            have Y : DR h2 u2 G1 z w L n D pc1 1201 := X1.dr (DD.q S1 X1.K.w3 Q2 W2) Xd ((Q2.I _ _ (by omega)).trans X1.sz) (by rw [Q2.N]; exact X1.hp) (Nat.le_refl _) (by omega)
            have e106 : fX12_tellRule_106 (f1 + 1) u2 (nI y) 1 = fX12_tellRule_142 u2 (nI y) := by
              show fX12_tellRule_106F (fX12_tellRule_106 f1) u2 (nI y) 1 = _
              unfold fX12_tellRule_106F
              rw [if_neg (by decide), if_neg Xd.f.1]
            rw [l71_0, e106, ← gr]
            exact (TO.q Q2.N (fun x q1 q2 => Q2.g x q1) (Nat.le_refl _) (head_d (c := c) Y (by omega) _ _)).mono (Nat.zero_le _) (Nat.zero_le _)
      have := (TO.pre C1 (show t ≤ t1 by omega) e1j).mono (e1 := j + 1) (f1 := 8 * (j + 1)) (by omega) (by omega)
      exact TO.q rfl (fun x q1 q2 => g1' x q1 q2) (Nat.le_refl _) this
    · have S1 := Y1.d.i.sx
      rcases eb with eb | eb
      · have es := skip_d S1 Y1.d.X (k := 7) (by omega) (by omega)
        rw [c44] at es
        have e148 : fX4_tellRule_148 (fX4_tellRule_71 (g1 + 1)) h1 23 (nI (309 + y)) (some (G.rl w)) (nI k) = fX4_tellRule_161 h1 23 (nI (309 + y)) (some (G.rl w)) := by
          unfold fX4_tellRule_148
          rw [oC_d S1.t23, es, oB2_v, oL_v, l71_0]
        rw [eb, e148, is_d Y1.d.X, oB_v, if_pos rfl, l106_0, ← gr]
        have := (TO.pre C1 (Nat.le_refl t) (head_d (c := c) (t := t) Y1 (by omega) (nI (309 + y)) (nI y))).mono (e1 := j + 1) (f1 := 8 * (j + 1)) (by omega) (by omega)
        exact TO.q rfl (fun x q1 q2 => g1' x q1 q2) (Nat.le_refl _) this
      · obtain ⟨u5, a1, a2, a3⟩ := head_dm Y1 (nI y)
        have Y5 : DR h1 u5 G1 z w L n D pc1 1240 := Y1.dd a2 a3 Y1.d.sz Y1.d.hp (Nat.le_refl _) Y1.pb
        rw [eb, is_d Y1.d.X, oB_v, if_pos rfl, l106_0, a1]
        exact ⟨h1, G1, ci, cj, u5, rfl, rfl, C1.mono (by omega) (by omega), g1', .inr ⟨Y5.d.i, a3⟩⟩
end RU3
