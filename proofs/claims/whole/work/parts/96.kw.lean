/-! the words' numbers -/
theorem pk_inj {b : Nat} (hb : 37 ≤ b) : ∀ n (l1 l2 : List Nat), l1.length ≤ n → (∀ x, x ∈ l1 → 1 ≤ x ∧ x ≤ 36) → (∀ x, x ∈ l2 → 1 ≤ x ∧ x ≤ 36) → pk b l1 = pk b l2 → l1 = l2 := by
  intro n
  have sn : ∀ (l : List Nat), l ≠ [] → ∃ l' x, l = l' ++ [x] := fun l hl => ⟨l.dropLast, l.getLast hl, (List.dropLast_concat_getLast hl).symm⟩
  have ps : ∀ (l : List Nat) (x : Nat), 1 ≤ x → pk b (l ++ [x]) ≠ 0 := fun l x hx => by rw [pk_snoc]; omega
  induction n with
  | zero =>
    intro l1 l2 hn _ h2 e
    have : l1 = [] := List.eq_nil_of_length_eq_zero (by omega)
    subst this
    by_cases c : l2 = []
    · exact c.symm
    · obtain ⟨l', x, e2⟩ := sn l2 c
      subst e2
      exact absurd e.symm (ps l' x (h2 x (by simp)).1)
  | succ n ih =>
    intro l1 l2 hn h1 h2 e
    by_cases c1 : l1 = []
    · subst c1
      by_cases c : l2 = []
      · exact c.symm
      · obtain ⟨l', x, e2⟩ := sn l2 c
        subst e2
        exact absurd e.symm (ps l' x (h2 x (by simp)).1)
    · obtain ⟨a, x, e1⟩ := sn l1 c1
      subst e1
      by_cases c : l2 = []
      · subst c
        exact absurd e (ps a x (h1 x (by simp)).1)
      · obtain ⟨a', y, e2⟩ := sn l2 c
        subst e2
        have hx := h1 x (by simp)
        have hy := h2 y (by simp)
        rw [pk_snoc, pk_snoc] at e
        have q1 : x = y := by
          have := congrArg (· % b) e
          simp only [Nat.mul_add_mod] at this
          rw [Nat.mod_eq_of_lt (by omega), Nat.mod_eq_of_lt (by omega)] at this
          exact this
        subst q1
        have q2 : pk b a = pk b a' := Nat.eq_of_mul_eq_mul_left (by omega) (show b * pk b a = b * pk b a' by omega)
        rw [List.length_append, List.length_singleton] at hn
        rw [ih a a' (by omega) (fun z hz => h1 z (by simp [hz])) (fun z hz => h2 z (by simp [hz])) q2]
theorem pk64_lt {ls : List Nat} (h : okN ls) : pk 64 ls < 9223372036854775808 := by
  have h1 := pkl_lt 64 ls fun y hy => by have := h.2.2 y hy; omega
  have h2 := pow64 ls.length h.2.1
  omega
theorem pk37_lt {ls : List Nat} (h : okN ls) : pk 37 ls < 9223372036854775808 := by
  have h1 := pkl_lt 37 ls fun y hy => by have := h.2.2 y hy; omega
  have h2 := pow37 ls.length h.2.1
  omega
theorem kwl_ok : ∀ w, w ∈ kwl → w ≠ [] ∧ w.length ≤ 6 ∧ ∀ x, x ∈ w → 1 ≤ x ∧ x ≤ 36 := by decide +kernel
theorem kwl_okN {w : List Nat} (h : w ∈ kwl) : okN w := ⟨(kwl_ok w h).1, by have := (kwl_ok w h).2.1; omega, (kwl_ok w h).2.2⟩
theorem kws_v : ∀ j, j < 18 → ∃ w, w ∈ kwl ∧ KWS.getD j 0 = nL (pk 64 w) := by
  intro j hj
  have : ∀ j, j < 18 → KWS.getD j 0 = nL (pk 64 (([[16, 5, 18, 19, 15, 14], [23, 15, 18, 4], [19, 21, 13], [12, 1, 23], [18, 1, 14, 11], [6, 18, 15, 13], [21, 14, 20, 9, 12], [5, 14, 4], [15, 22, 5, 18], [18, 21, 12, 5], [2, 1, 18], [20, 1, 11, 5], [13, 15, 19, 20], [12, 5, 1, 19, 20], [19, 1, 13, 5], [15, 20, 8, 5, 18], [9, 6], [14, 15, 20]] : List (List Nat)).getD j [])) ∧ ([[16, 5, 18, 19, 15, 14], [23, 15, 18, 4], [19, 21, 13], [12, 1, 23], [18, 1, 14, 11], [6, 18, 15, 13], [21, 14, 20, 9, 12], [5, 14, 4], [15, 22, 5, 18], [18, 21, 12, 5], [2, 1, 18], [20, 1, 11, 5], [13, 15, 19, 20], [12, 5, 1, 19, 20], [19, 1, 13, 5], [15, 20, 8, 5, 18], [9, 6], [14, 15, 20]] : List (List Nat)).getD j [] ∈ kwl := by decide +kernel
  exact ⟨_, (this j hj).2, (this j hj).1⟩
theorem km_v : ∀ j, j < 18 → kwl.getD j [] ∈ kwl ∧ KM.getD j 0 = nL (pk 37 (kwl.getD j [])) := by decide +kernel
/-- the class's search -/
def kc (x : Int64) : Nat → Nat → Int32
  | 0, _ => 260
  | d + 1, j => if KWS.getD j 0 = x then 300 + nI j else kc x d (j + 1)
theorem kc_no {x : Int64} : ∀ d j, j + d = 18 → (∀ i, i < 18 → KWS.getD i 0 ≠ x) → kc x d j = 260 := by
  intro d
  induction d with
  | zero => intro j _ _; rfl
  | succ d ih =>
    intro j hj h
    unfold kc
    rw [if_neg (h j (by omega))]
    exact ih (j + 1) (by omega) h
theorem kwGo_no {ls : List Nat} : ∀ (l : List (List Nat)) j, ls ∉ l → kwGo ls j l = 1 := by
  intro l
  induction l with
  | nil => intro j _; rfl
  | cons w l ih =>
    intro j h
    unfold kwGo
    rw [if_neg (fun q => h (by rw [q]; exact List.mem_cons_self))]
    exact ih (j + 1) (fun q => h (List.mem_cons_of_mem _ q))
theorem kc_yes : ∀ w, w ∈ kwl → kc (nL (pk 64 w)) 18 0 = cK (kwK w) := by decide +kernel
theorem kc_v {ls : List Nat} (h : okN ls) : kc (nL (pk 64 ls)) 18 0 = cK (kwK ls) := by
  by_cases c : ls ∈ kwl
  · exact kc_yes ls c
  · have e : kwK ls = 1 := kwGo_no kwl 20 c
    rw [e, kc_no 18 0 (by omega) (fun i hi q => ?_)]
    · rfl
    · obtain ⟨w, hw, e2⟩ := kws_v i hi
      have ow := kwl_okN hw
      rw [e2, nL_inj (pk64_lt ow) (pk64_lt h)] at q
      exact c (by rw [← pk_inj (b := 64) (by omega) _ w ls (Nat.le_refl _) ow.2.2 h.2.2 q]; exact hw)
/-- the reference's search -/
def kmF (x : Int64) : Nat → Nat → Nat → Nat
  | 0, _, s => s
  | d + 1, j, s => kmF x d (j + 1) (if KM.getD j 0 = x then 20 + j else s)
theorem kmF_no {x : Int64} : ∀ d j s, j + d = 18 → (∀ i, i < 18 → KM.getD i 0 ≠ x) → kmF x d j s = s := by
  intro d
  induction d with
  | zero => intro j s _ _; rfl
  | succ d ih =>
    intro j s hj h
    unfold kmF
    rw [if_neg (h j (by omega))]
    exact ih (j + 1) s (by omega) h
theorem kmF_yes : ∀ w, w ∈ kwl → kmF (nL (pk 37 w)) 18 0 1 = kwK w := by decide +kernel
theorem kmF_v {ls : List Nat} (h : okN ls) : kmF (nL (pk 37 ls)) 18 0 1 = kwK ls := by
  by_cases c : ls ∈ kwl
  · exact kmF_yes ls c
  · have e : kwK ls = 1 := kwGo_no kwl 20 c
    rw [e, kmF_no 18 0 1 (by omega) (fun i hi q => ?_)]
    obtain ⟨hw, e2⟩ := km_v i hi
    have ow := kwl_okN hw
    rw [e2, nL_inj (pk37_lt ow) (pk37_lt h)] at q
    exact c (by rw [← pk_inj (b := 37) (by omega) _ _ ls (Nat.le_refl _) ow.2.2 h.2.2 q]; exact hw)
theorem kwK_long {ls : List Nat} (h : 6 < ls.length) : kwK ls = 1 := by
  apply kwGo_no
  intro q
  have := (kwl_ok ls q).2.1
  omega
theorem kwK_b : ∀ w, w ∈ kwl → 20 ≤ kwK w ∧ kwK w < 38 := by decide +kernel
theorem kwK_r (ls : List Nat) : kwK ls = 1 ∨ 20 ≤ kwK ls ∧ kwK ls < 38 := by
  by_cases c : ls ∈ kwl
  · exact .inr (kwK_b ls c)
  · exact .inl (kwGo_no kwl 20 c)
theorem nmL_s (b : Nat → Nat) (p n : Nat) : nmL b p (n + 1) = nmL b p n ++ [ltr (b (p + n))] := by
  unfold nmL
  rw [List.range'_1_concat, List.map_append]
  rfl
theorem nmL_len (b : Nat → Nat) (p n : Nat) : (nmL b p n).length = n := by
  unfold nmL
  rw [List.length_map, List.length_range']
theorem nmL_ok {b : Nat → Nat} {p n : Nat} (h1 : 1 ≤ n) (h2 : n ≤ 10) (h : ∀ q, p ≤ q → q < p + n → isAn (b q)) : okN (nmL b p n) := by
  refine ⟨fun q => ?_, by rw [nmL_len]; exact h2, fun x hx => ?_⟩
  · have := nmL_len b p n
    rw [q] at this
    simp only [List.length_nil] at this
    omega
  · unfold nmL at hx
    obtain ⟨q, hq, e⟩ := List.mem_map.mp hx
    subst e
    have := List.mem_range'_1.mp hq
    exact ltr_ok (h q this.1 this.2)
