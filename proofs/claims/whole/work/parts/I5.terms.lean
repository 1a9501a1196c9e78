/-! terms and literals under a binding, in both -/
def Tf (x : Int32) (P : Prop) : Prop := (x = 1 ∧ P) ∨ (x = 0 ∧ ¬ P)
theorem Tf.iff {x : Int32} {P Q : Prop} (t : Tf x P) (e : P ↔ Q) : Tf x Q := by
  rcases t with ⟨a, b⟩ | ⟨a, b⟩
  · exact .inl ⟨a, e.mp b⟩
  · exact .inr ⟨a, fun q => b (e.mpr q)⟩
def pM (β : Nat → Nat) (b : Int32) : Nat := if b = -1 then 0 else if b.toNatClampNeg < 10 then β b.toNatClampNeg else b.toNatClampNeg - 10
theorem pM_tm {β : Nat → Nat} {nv np t : Nat} (o : okTm nv np t) : pM β (nI (tmr t)) = pe β t := by
  unfold pM pe tmr
  rcases o with ⟨o1, o2⟩ | ⟨o1, o2, o3⟩
  · rw [if_pos o2, if_pos o2, if_neg (nI_m1 (by omega)), nI_clamp (by omega), if_neg (by omega)]
    omega
  · rw [if_neg (show ¬ t < 5 by omega), if_neg (show ¬ t < 5 by omega), if_neg (nI_m1 (by omega)), nI_clamp (by omega), if_pos (by omega)]
theorem pM_no (β : Nat → Nat) : pM β (-1) = 0 := if_pos rfl
theorem personC0 {h : PH} {G : Gh} {β : Nat → Nat} {nv np c : Nat} {nu : Nat → Int32} (W : WC h G β nv np c nu) : fX6_personOf h (G.jd 1) 0 = some (nI 0) := by
  have S := W.s
  have J := W.j
  unfold fX6_personOf fX6_personOf_0
  have e := W.w 0 (by decide)
  simp only [show (0 : Int32) = nI 0 from rfl, if_neg (nI_pos (show 0 < 2147483648 by decide)), S.jY J, S.jt0 J, S.jt1 J, S.jt2 J, S.jt3 J, S.jt4 J, S.jt5 J, S.jt6 J, S.jt7 J, S.jt8 J, S.jt9 J, S.jt10 J, S.jt11 J, S.jt12 J, S.jt13 J, S.jt14 J, S.jt15 J, S.jt16 J, S.jt17 J, S.jt18 J, S.jt19 J, S.jt20 J, S.jn2 J, S.jn3 J, S.jn9 J, S.jn10 J, S.jn11 J, S.jn12 J, S.jn13 J, S.jn14 J, S.jn18 J, S.jn19 J, S.jn20 J, S.jr640 J, S.jr641 J, S.jr768 J, S.jr769 J, S.jr770 J, S.jr771 J, S.jr772 J, S.jr773 J, S.jr774 J, S.jr775 J, S.jr645 J, S.jr646 J, S.jr647 J, S.jr648 J, S.jr649 J, S.jr650 J, S.jr652 J, S.jr653 J, S.jr654 J, S.jr656 J, S.jr657 J, S.jr658 J, oN_v, oC_v, oB_v, oB2_v, oB3_v, oB4_v, oK3_v, oK4_v, oL_v, if_true, if_false, and_false, false_and, and_true, true_and, and_self, decide_true, decide_false, reduceCtorEq, not_false_eq_true, not_true_eq_false, Nat.reduceEqDiff, Nat.reduceAdd, Nat.reduceMul, Nat.add_zero, Nat.zero_add, if_neg (nI_ge (show 0 < 8 by decide) (by decide)), oC_t (ix_n (show 0 < 8 by decide) (by decide)), nI_clamp (show 0 < 2147483648 by decide), e, ite_self]
/-- a term or none of it: of the class, of the reference -/
def TmN (z : Sz) (nv : Nat) (p : Prop) (a b : Int32) : Prop := (p ∧ TmR z nv a b) ∨ (¬ p ∧ NoT a b)
theorem TmN.of {z : Sz} {nv : Nat} {p : Prop} {_ : Decidable p} {a b : Int32} (k : if p then TmR z nv a b else NoT a b) : TmN z nv p a b := by
  by_cases c : p
  · rw [if_pos c] at k; exact .inl ⟨c, k⟩
  · rw [if_neg c] at k; exact .inr ⟨c, k⟩
theorem TmN.c {h : PH} {G : Gh} {β : Nat → Nat} {nv c : Nat} {z : Sz} {nu : Nat → Int32} {p : Prop} {a b : Int32} (W : WC h G β nv z.np c nu) (k : TmN z nv p a b) : fX6_personOf h (G.jd 1) a = some (nI (pM β b)) := by
  rcases k with ⟨_, t, o, e1, e2⟩ | ⟨_, e1, e2⟩
  · rw [e1, e2, pM_tm o]; exact personC W o
  · rw [e1, e2, pM_no]; exact personC0 W
theorem TmN.lt {β : Nat → Nat} {nv : Nat} {z : Sz} {p : Prop} {a b : Int32} (hb : ∀ v, v < nv → β v < z.np) (k : TmN z nv p a b) : (p → pM β b < z.np) ∧ (¬ p → pM β b = 0) := by
  rcases k with ⟨q, t, o, e1, e2⟩ | ⟨q, e1, e2⟩
  · rw [e2, pM_tm o]; exact ⟨fun _ => pe_lt hb o, fun n => absurd q n⟩
  · rw [e2, pM_no]; exact ⟨fun n => absurd n q, fun _ => rfl⟩
/-- a literal's number under a binding -/
def ltM (β : Nat → Nat) (s o f g : Int32) : Nat := ((s.toNatClampNeg * 5 + pM β f) * 5 + pM β g) * 2 + so1 o
theorem LtR.c {h : PH} {u : MS} {G : Gh} {β : Nat → Nat} {nv c a : Nat} {z : Sz} {nu : Nat → Int32} {s' o' f' g' : Int32} (W : WC h G β nv z.np c nu) (ta : hT h a = 3) (k : LtR u z nv (hI h 257 a) (hI h 258 a) (hI h 259 a) (hI h 260 a) s' o' f' g') (zo : z.ok) : fX6_literalOf h (G.jd 1) (some a) = some (nI (ltM β s' o' f' g')) := by
  obtain ⟨w, q, k1, k2, k3, k4, k5, k6, k7, k8, k9⟩ := k
  have S := W.s
  have J := W.j
  have l := zo.2.1
  unfold fX6_literalOf fX6_literalOf_0 ltM
  simp only [oN_v, oC_v, oB_v, oB2_v, oB3_v, oB4_v, oK3_v, oK4_v, oL_v, ta, S.jY J, S.jt0 J, S.jt1 J, S.jt2 J, S.jt3 J, S.jt4 J, S.jt5 J, S.jt6 J, S.jt7 J, S.jt8 J, S.jt9 J, S.jt10 J, S.jt11 J, S.jt12 J, S.jt13 J, S.jt14 J, S.jt15 J, S.jt16 J, S.jt17 J, S.jt18 J, S.jt19 J, S.jt20 J, S.jn2 J, S.jn3 J, S.jn9 J, S.jn10 J, S.jn11 J, S.jn12 J, S.jn13 J, S.jn14 J, S.jn18 J, S.jn19 J, S.jn20 J, S.jr640 J, S.jr641 J, S.jr768 J, S.jr769 J, S.jr770 J, S.jr771 J, S.jr772 J, S.jr773 J, S.jr774 J, S.jr775 J, S.jr645 J, S.jr646 J, S.jr647 J, S.jr648 J, S.jr649 J, S.jr650 J, S.jr652 J, S.jr653 J, S.jr654 J, S.jr656 J, S.jr657 J, S.jr658 J, if_true, if_false, and_false, false_and, and_true, true_and, and_self, decide_true, decide_false, reduceCtorEq, not_false_eq_true, not_true_eq_false, Nat.reduceEqDiff, Nat.reduceAdd, Nat.reduceMul, Nat.add_zero, Nat.zero_add, (TmN.of k8).c W, (TmN.of k9).c W, k4, k6, k5, litN, nI_clamp (show w < 2147483648 by omega)]
theorem LtR.lit {u : MS} {β : Nat → Nat} {nv : Nat} {z : Sz} {s o f g s' o' f' g' : Int32} (k : LtR u z nv s o f g s' o' f' g') (zo : z.ok) (hb : ∀ v, v < nv → β v < z.np) : isLit (plN u) z.nw z.np (ltM β s' o' f' g') ∧ ltM β s' o' f' g' < 600 := by
  obtain ⟨w, q, k1, k2, k3, k4, k5, k6, k7, k8, k9⟩ := k
  have l := zo.2.1
  have l5 := zo.1
  have t1 := (TmN.of k8).lt hb
  have t2 := (TmN.of k9).lt hb
  have ew : s'.toNatClampNeg = w := by rw [k5, nI_clamp (by omega)]
  have ep : plN u w = q := by unfold plN; rw [k3, nI_clamp (by omega)]
  have hs : so1 o' < 2 := by unfold so1; split <;> omega
  unfold ltM
  rw [ew]
  have f5 : pM β f' < 5 := by
    by_cases c : 0 < q
    · have := t1.1 c; omega
    · have := t1.2 c; omega
  have g5 : pM β g' < 5 := by
    by_cases c : 1 < q
    · have := t2.1 c; omega
    · have := t2.2 c; omega
  refine ⟨isLit_of k1 hs f5 g5 ?_ ?_, ?_⟩
  · rw [ep]
    by_cases c : 0 < q
    · rw [if_pos c]; exact t1.1 c
    · rw [if_neg c]; exact t1.2 c
  · rw [ep]
    by_cases c : 1 < q
    · rw [if_pos c]; exact t2.1 c
    · rw [if_neg c]; exact t2.2 c
  · generalize so1 o' = b at hs
    generalize pM β f' = x at f5
    generalize pM β g' = y at g5
    omega
/-- the reference's -/
theorem TmN.m {u : MS} {β : Nat → Nat} {nv : Nat} {z : Sz} {nu : Nat → Int32} {p : Prop} {a b : Int32} (M : MC u β nv z.np nu) (k : TmN z nv p a b) : (b = -1 ∧ pM β b = 0) ∨ (¬ b = -1 ∧ fX12_personOf u b 95 = some (nI (pM β b))) := by
  rcases k with ⟨_, t, o, e1, e2⟩ | ⟨_, e1, e2⟩
  · refine .inr ⟨?_, ?_⟩
    · rw [e2]
      refine nI_m1 ?_
      unfold tmr
      rcases o with ⟨o1, o2⟩ | ⟨o1, o2, o3⟩
      · rw [if_pos o2]; omega
      · rw [if_neg (by omega)]; omega
    · rw [e2, pM_tm o]; exact personM M o
  · exact .inl ⟨e2, by rw [e2]; exact pM_no β⟩
theorem litBy62 {u : MS} {x o : Int32} {w a b : Nat} (hx : x = nI w) : fX12_literalBy_38 u x o (nI a) (nI b) = some (nI (((w * 5 + a) * 5 + b) * 2 + so1 o)) := by
  unfold fX12_literalBy_38 fX12_literalBy_62 so1
  have e : (((x * 5 + nI a) * 5 + nI b) * 2) = nI (((w * 5 + a) * 5 + b) * 2) := by
    rw [hx, show (5 : Int32) = nI 5 from rfl, show (2 : Int32) = nI 2 from rfl, nI_mul, nI_add, nI_mul, nI_add, nI_mul]
  rw [e]
  split
  · rw [show (1 : Int32) = nI 1 from rfl, nI_add]
  · rw [show (0 : Int32) = nI 0 from rfl, nI_add]
theorem LtR.m {u v : MS} {β : Nat → Nat} {nv : Nat} {z : Sz} {nu : Nat → Int32} {s o f g s' o' f' g' : Int32} (M : MC v β nv z.np nu) (k : LtR u z nv s o f g s' o' f' g') (zo : z.ok) : fX12_literalBy v s' o' f' g' = some (nI (ltM β s' o' f' g')) := by
  obtain ⟨w, q, k1, k2, k3, k4, k5, k6, k7, k8, k9⟩ := k
  have l := zo.2.1
  unfold fX12_literalBy fX12_literalBy_0 fX12_literalBy_17 ltM
  have ew : s'.toNatClampNeg = w := by rw [k5, nI_clamp (by omega)]
  rw [ew]
  rcases (TmN.of k8).m M with ⟨a1, a2⟩ | ⟨a1, a2⟩
  · rw [if_pos a1, a2]
    rcases (TmN.of k9).m M with ⟨b1, b2⟩ | ⟨b1, b2⟩
    · rw [if_pos b1, b2]; exact litBy62 (a := 0) (b := 0) k5
    · rw [if_neg b1, b2]; exact litBy62 (a := 0) k5
  · rw [if_neg a1, a2]
    show (if g' = -1 then _ else _) = _
    rcases (TmN.of k9).m M with ⟨b1, b2⟩ | ⟨b1, b2⟩
    · rw [if_pos b1, b2]; exact litBy62 (b := 0) k5
    · rw [if_neg b1, b2]; exact litBy62 k5
