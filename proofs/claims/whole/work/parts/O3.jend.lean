theorem r160 {h0 : PH} {G : Gh} {z : Sz} {u0 : MS} {nu : Nat → Int32} {E1 E2 E3 : Nat → List Tok} {d1 d2 : Int32} {L : List Nat} {A : Nat → Prop} (zo : z.ok) (hc : z.pc < 99000) (ll : L.length ≤ 3750) : ∀ m k f h, k + m = 20 → CSt h G z u0 nu E1 E2 E3 d1 d2 L → (∀ i, i < L.length → (hA h (G.jd 17) i = 1 ↔ A (L.getD i 0))) → CH G pRk h0 h → (∀ q, q < k → SmC h G q (flT u0 z.np A q L).length (finS (smS (kdx u0) (vlx u0 z.np nu E3) (flT u0 z.np A q L)))) → ∃ h', fX11_judge_160 (f + (m + 1)) h (some (G.jd 0)) (nI k) = some (h', hA h' (G.jd 18) 1, 0, 0) ∧ CH G pRk h0 h' ∧ CSt h' G z u0 nu E1 E2 E3 d1 d2 L ∧ (∀ q, q < 20 → SmC h' G q (flT u0 z.np A q L).length (finS (smS (kdx u0) (vlx u0 z.np nu E3) (flT u0 z.np A q L)))) := by
  intro m
  induction m with
  | zero =>
    intro k f h e Q ts c X
    have S := Q.W.s
    have J := Q.W.j
    have ek : k = 20 := e
    subst ek
    have ul : fX11_judge_160 (f + (0 + 1)) h (some (G.jd 0)) (nI 20) = fX11_judge_160F (fX11_judge_160 f) h (some (G.jd 0)) (nI 20) := rfl
    refine ⟨h, ?_, c, Q, X⟩
    rw [ul, fX11_judge_160F, if_pos (show (20 : Int32) ≤ nI 20 from Int32.le_refl _), oN_v, oC_d (S.jt0 J), S.jr656 J, oN_v, oC_d (S.jt18 J), S.jn18 J, oC_t (show ix 1 4 = true from rfl)]
    rfl
  | succ m ih =>
    intro k f h e Q ts c X
    have S := Q.W.s
    have J := Q.W.j
    have k20 : k < 20 := by omega
    have ul : fX11_judge_160 (f + (m + 1 + 1)) h (some (G.jd 0)) (nI k) = fX11_judge_160F (fX11_judge_160 (f + (m + 1))) h (some (G.jd 0)) (nI k) := rfl
    obtain ⟨h1, a1, a2, a3, a4, a5, a6⟩ := reckonC (A := A) zo hc Q ll k20 ts
    have o17 := (a2.own S J (show vj 17 by unfold vj; omega) (by unfold pRk; omega)).2.2.1
    obtain ⟨h2, b1, b2⟩ := ih (k + 1) f h1 (by omega) (Q.ch a2 (fun i hi => by unfold pRk; omega) a3) (fun i hi => by rw [o17]; exact ts i hi) (c.trans a2) (fun q hq => by
      by_cases c : q = k
      · rw [c]; exact a4
      · have x := X q (by omega)
        have e1 := a5 q c
        have e2 := a6 (2 * q) (by omega) (by omega)
        have e3 := a6 (2 * q + 1) (by omega) (by omega)
        generalize finS (smS (kdx u0) (vlx u0 z.np nu E3) (flT u0 z.np A q L)) = t at x ⊢
        cases t <;> unfold SmC at * <;> rw [e1, e2, e3] <;> exact x)
    refine ⟨h2, ?_, b2⟩
    rw [ul, fX11_judge_160F, if_neg (show ¬ (20 : Int32) ≤ nI k from nI_ge (b := 20) k20 (by decide)), oN_v, oC_d (S.jt0 J), a1, oB_v, oL_v, show nI k + 1 = nI (k + 1) from nI_add k 1]
    exact b1
theorem xor_2 {p : Nat} (h : p < 600) : (p ^^^ 1) / 2 = p / 2 := by
  rw [xor1 p h]
  split <;> omega
theorem isLit_xor {pl : Nat → Nat} {nw np p : Nat} (h : p < 600) : isLit pl nw np (p ^^^ 1) ↔ isLit pl nw np p := by
  have e := xor_2 h
  have e1 : (p ^^^ 1) / 50 = p / 50 := by omega
  have e2 : (p ^^^ 1) / 10 = p / 10 := by omega
  unfold isLit
  rw [e1, e2, e]
theorem sR_same {h : PH} {f a : Nat} {v : Option Nat} (e : hR h f a = v) : sR h f a v = h := by
  have k : hR (sR h f a v) = hR h := by
    funext f' a'
    rw [z_hR_sR]
    by_cases c : f' = f ∧ a' = a
    · rw [if_pos c, c.1, c.2, e]
    · rw [if_neg c]
  have k' : up2 h.2.2.1 f a v = h.2.2.1 := k
  unfold sR
  rw [k']
theorem find_filter {P Q : Nat → Prop} : ∀ {l : List Nat}, (l.filter (cd P)).find? (cd Q) = l.find? (cd fun x => P x ∧ Q x)
  | [] => rfl
  | a :: l => by
    by_cases p : P a
    · rw [List.filter_cons_of_pos (cd_y p)]
      by_cases q : Q a
      · rw [find_y q, find_y (P := fun x => P x ∧ Q x) ⟨p, q⟩]
      · rw [find_n q, find_n (P := fun x => P x ∧ Q x) (fun h => q h.2)]; exact find_filter
    · rw [List.filter_cons_of_neg (by rw [cd_n p]; decide), find_n (P := fun x => P x ∧ Q x) (fun h => p h.1)]; exact find_filter
theorem chn_cd {D : Mdl} {p : Nat} : chn D p = D.ins.filter (cd fun x => D.hd x = p) := by
  unfold chn
  congr 1
  funext x
  by_cases c : D.hd x = p
  · rw [cd_y (P := fun x => D.hd x = p) c, decide_eq_true c]
  · rw [cd_n (P := fun x => D.hd x = p) c, decide_eq_false c]
theorem count_filter {P Q : Nat → Prop} : ∀ {l : List Nat}, (l.filter (cd P)).countP (cd Q) = l.countP (cd fun x => P x ∧ Q x)
  | [] => rfl
  | a :: l => by
    by_cases p : P a
    · rw [List.filter_cons_of_pos (cd_y p), List.countP_cons, List.countP_cons, count_filter]
      by_cases q : Q a
      · rw [cd_y q, cd_y (P := fun x => P x ∧ Q x) ⟨p, q⟩]
      · rw [cd_n q, cd_n (P := fun x => P x ∧ Q x) (fun h => q h.2)]
    · rw [List.filter_cons_of_neg (by rw [cd_n p]; decide), List.countP_cons, cd_n (P := fun x => P x ∧ Q x) (fun h => p h.1), if_neg (by decide), Nat.add_zero]; exact count_filter
theorem filter_filter' {P Q : Nat → Prop} : ∀ {l : List Nat}, (l.filter (cd P)).filter (cd Q) = l.filter (cd fun x => P x ∧ Q x)
  | [] => rfl
  | a :: l => by
    by_cases p : P a
    · rw [List.filter_cons_of_pos (cd_y p)]
      by_cases q : Q a
      · rw [List.filter_cons_of_pos (cd_y q), List.filter_cons_of_pos (cd_y (P := fun x => P x ∧ Q x) ⟨p, q⟩), filter_filter']
      · rw [List.filter_cons_of_neg (by rw [cd_n q]; decide), List.filter_cons_of_neg (by rw [cd_n (P := fun x => P x ∧ Q x) (fun h => q h.2)]; decide), filter_filter']
    · rw [List.filter_cons_of_neg (by rw [cd_n p]; decide), List.filter_cons_of_neg (by rw [cd_n (P := fun x => P x ∧ Q x) (fun h => p h.1)]; decide), filter_filter']
theorem cd_eq {P Q : Nat → Prop} (h : ∀ x, P x ↔ Q x) : cd P = cd Q := by
  have : P = Q := funext fun x => propext (h x)
  rw [this]
theorem count_eq {P Q : Nat → Prop} {l : List Nat} (h : ∀ x, x ∈ l → (P x ↔ Q x)) : l.countP (cd P) = l.countP (cd Q) := by
  apply Nat.le_antisymm
  · exact count_le fun x hx k => cd_y ((h x hx).mp (cd_t.mp k))
  · exact count_le fun x hx k => cd_y ((h x hx).mpr (cd_t.mp k))
