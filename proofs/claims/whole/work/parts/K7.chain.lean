/-! the chains are made: one instance more -/
theorem Ch.eqv {u u' : MS} : ∀ {l : List Nat} {y : Int32}, (∀ a, a ∈ l → mA u' 86 a = mA u 86 a) → Ch u y l → Ch u' y l
  | [], _, _, h => h
  | a :: l, _, e, h => ⟨h.1, by rw [e a (List.mem_cons_self ..)]; exact Ch.eqv (fun b hb => e b (List.mem_cons_of_mem _ hb)) h.2⟩
theorem Ch.app {u u' : MS} {x c : Nat} (h1 : mA u' 86 c = nI x) (h2 : mA u' 86 x = -1) : ∀ {l : List Nat} {y : Int32}, (∀ a, a ∈ l → mA u' 86 a = mA u 86 a) → Ch u y (l ++ [c]) → Ch u' y (l ++ [c] ++ [x])
  | [], _, _, h => ⟨h.1, h1, h2⟩
  | a :: l, _, e, h => ⟨h.1, by rw [e a (List.mem_cons_self ..)]; exact Ch.app h1 h2 (fun b hb => e b (List.mem_cons_of_mem _ hb)) h.2⟩
def fh (hd : Nat → Nat) (l : List Nat) (p : Nat) : List Nat := l.filter (fun x => decide (hd x = p))
theorem mem_fh {hd : Nat → Nat} {l : List Nat} {p x : Nat} : x ∈ fh hd l p ↔ x ∈ l ∧ hd x = p := by
  unfold fh
  rw [List.mem_filter, decide_eq_true_iff]
theorem fh_app {hd : Nat → Nat} {l : List Nat} {p x : Nat} : fh hd (l ++ [x]) p = if hd x = p then fh hd l p ++ [x] else fh hd l p := by
  unfold fh
  rw [List.filter_append]
  by_cases c : hd x = p
  · rw [if_pos c, List.filter_cons_of_pos (by rw [decide_eq_true_iff]; exact c), List.filter_nil]
  · rw [if_neg c, List.filter_cons_of_neg (by rw [decide_eq_true_iff]; exact c), List.filter_nil, List.append_nil]
def ICn (u : MS) (hd : Nat → Nat) (l : List Nat) (n : Nat) : Prop := (l.Pairwise (· < ·)) ∧ (∀ a, a ∈ l → a < n) ∧ (∀ p, p < 600 → Ch u (mA u 87 p) (fh hd l p)) ∧ (∀ p l0 c, p < 600 → fh hd l p = l0 ++ [c] → mA u 88 p = nI c)
theorem ICn.pw {u : MS} {hd : Nat → Nat} {l : List Nat} {n : Nat} (X_ : ICn u hd l n) : l.Pairwise (· < ·) := X_.1
theorem ICn.lt {u : MS} {hd : Nat → Nat} {l : List Nat} {n : Nat} (X_ : ICn u hd l n) : ∀ a, a ∈ l → a < n := X_.2.1
theorem ICn.ch {u : MS} {hd : Nat → Nat} {l : List Nat} {n : Nat} (X_ : ICn u hd l n) : ∀ p, p < 600 → Ch u (mA u 87 p) (fh hd l p) := X_.2.2.1
theorem ICn.la {u : MS} {hd : Nat → Nat} {l : List Nat} {n : Nat} (X_ : ICn u hd l n) : ∀ p l0 c, p < 600 → fh hd l p = l0 ++ [c] → mA u 88 p = nI c := X_.2.2.2
theorem ICn.mk {u : MS} {hd : Nat → Nat} {l : List Nat} {n : Nat} (pw_ : l.Pairwise (· < ·)) (lt_ : ∀ a, a ∈ l → a < n) (ch_ : ∀ p, p < 600 → Ch u (mA u 87 p) (fh hd l p)) (la_ : ∀ p l0 c, p < 600 → fh hd l p = l0 ++ [c] → mA u 88 p = nI c) : ICn u hd l n := ⟨pw_, lt_, ch_, la_⟩
theorem pw_app {l : List Nat} {x : Nat} (p : l.Pairwise (· < ·)) (h : ∀ a, a ∈ l → a < x) : (l ++ [x]).Pairwise (· < ·) := by
  rw [List.pairwise_append]
  refine ⟨p, List.pairwise_singleton .., fun a ha b hb => ?_⟩
  rw [List.mem_singleton] at hb
  rw [hb]; exact h a ha
theorem lt_app {l : List Nat} {x : Nat} (h : ∀ a, a ∈ l → a < x) : ∀ a, a ∈ l ++ [x] → a < x + 1 := by
  intro a ha
  rcases List.mem_append.mp ha with k | k
  · exact Nat.lt_succ_of_lt (h a k)
  · rw [List.mem_singleton] at k; omega
theorem ICn.skip {u u' : MS} {hd : Nat → Nat} {l : List Nat} {x : Nat} (I : ICn u hd l x) (h6 : 600 ≤ hd x) (e86 : ∀ a, a ≠ x → mA u' 86 a = mA u 86 a) (e87 : ∀ p, mA u' 87 p = mA u 87 p) (e88 : ∀ p, mA u' 88 p = mA u 88 p) : ICn u' hd (l ++ [x]) (x + 1) := by
  apply ICn.mk
  · exact pw_app I.pw I.lt
  · exact lt_app I.lt
  · intro p hp
    rw [fh_app, if_neg (by omega), e87]
    exact (I.ch p hp).eqv fun a ha => e86 a (by have := I.lt a (mem_fh.mp ha).1; omega)
  · intro p l0 c hp e
    rw [fh_app, if_neg (by omega)] at e
    rw [e88]; exact I.la p l0 c hp e
theorem la_x {l l0 : List Nat} {x c : Nat} (e : l ++ [x] = l0 ++ [c]) : c = x := by
  have := congrArg List.getLast? e
  rw [List.getLast?_append, List.getLast?_append] at this
  simpa using this.symm
theorem ICn.first {u u' : MS} {hd : Nat → Nat} {l : List Nat} {x : Nat} (I : ICn u hd l x) (x3 : x < 3750) (e0 : mA u 87 (hd x) = -1) (e86 : ∀ a, mA u' 86 a = if a = x then -1 else mA u 86 a) (e87 : ∀ p, mA u' 87 p = if p = hd x then nI x else mA u 87 p) (e88 : ∀ p, mA u' 88 p = if p = hd x then nI x else mA u 88 p) : ICn u' hd (l ++ [x]) (x + 1) := by
  apply ICn.mk
  · exact pw_app I.pw I.lt
  · exact lt_app I.lt
  · intro p hp
    rw [fh_app, e87]
    by_cases c : hd x = p
    · rw [if_pos c, if_pos c.symm]
      have k := I.ch p hp
      rw [← c, e0] at k
      have nil : fh hd l (hd x) = [] := by
        generalize hg : fh hd l (hd x) = g at k
        cases g with
        | nil => rfl
        | cons a g =>
          have ha := I.lt a (mem_fh.mp (by rw [hg]; exact List.mem_cons_self ..)).1
          exact absurd k.1.symm (nI_m1 (by omega))
      rw [← c, nil]
      exact ⟨rfl, by rw [e86, if_pos rfl]; rfl⟩
    · rw [if_neg c, if_neg (fun h => c h.symm)]
      exact (I.ch p hp).eqv fun a ha => by rw [e86, if_neg (by have := I.lt a (mem_fh.mp ha).1; omega)]
  · intro p l0 c hp e
    rw [fh_app] at e
    rw [e88]
    by_cases k : hd x = p
    · rw [if_pos k] at e
      rw [if_pos k.symm, la_x e]
    · rw [if_neg k] at e
      rw [if_neg (fun h => k h.symm)]; exact I.la p l0 c hp e
theorem ICn.next {u : MS} {hd : Nat → Nat} {l : List Nat} {x : Nat} (I : ICn u hd l x) (hp : hd x < 600) (e0 : ¬ mA u 87 (hd x) = -1) : ∃ c, c < x ∧ mA u 88 (hd x) = nI c ∧ ∀ u' : MS, (∀ a, mA u' 86 a = if a = c then nI x else if a = x then -1 else mA u 86 a) → (∀ p, mA u' 87 p = mA u 87 p) → (∀ p, mA u' 88 p = if p = hd x then nI x else mA u 88 p) → ICn u' hd (l ++ [x]) (x + 1) := by
  have k := I.ch _ hp
  obtain ⟨l0, c, hl⟩ : ∃ l0 c, fh hd l (hd x) = l0 ++ [c] := by
    rcases List.eq_nil_or_concat (fh hd l (hd x)) with h | ⟨l0, c, h⟩
    · rw [h] at k; exact absurd k e0
    · exact ⟨l0, c, by rw [h, List.concat_eq_append]⟩
  have cm : c ∈ fh hd l (hd x) := by rw [hl]; exact List.mem_append_right _ (List.mem_singleton.mpr rfl)
  have cx := I.lt c (mem_fh.mp cm).1
  refine ⟨c, cx, I.la _ l0 c hp hl, fun u' e86 e87 e88 => ?_⟩
  apply ICn.mk
  · exact pw_app I.pw I.lt
  · exact lt_app I.lt
  · intro p hp'
    rw [fh_app, e87]
    by_cases d : hd x = p
    · rw [if_pos d, ← d, hl]
      rw [hl] at k
      refine Ch.app (by rw [e86, if_pos rfl]) (by rw [e86, if_neg (by omega), if_pos rfl]) (fun a ha => ?_) k
      have pw : (l0 ++ [c]).Pairwise (· < ·) := by rw [← hl]; exact I.pw.filter _
      have ac := (List.pairwise_append.mp pw).2.2 a ha c (List.mem_singleton.mpr rfl)
      rw [e86, if_neg (by omega), if_neg (by omega)]
    · rw [if_neg d]
      refine (I.ch p hp').eqv fun a ha => ?_
      have := I.lt a (mem_fh.mp ha).1
      have h2 := (mem_fh.mp ha).2
      have h3 := (mem_fh.mp cm).2
      rw [e86, if_neg (fun e => d (by rw [← h2, ← h3, e])), if_neg (by omega)]
  · intro p l0' c' hp' e
    rw [fh_app] at e
    rw [e88]
    by_cases d : hd x = p
    · rw [if_pos d] at e
      rw [if_pos d.symm, la_x e]
    · rw [if_neg d] at e
      rw [if_neg (fun h => d h.symm)]; exact I.la p l0' c' hp' e
def dn (np : Nat) (v : Nat → Nat) (r b : Nat) : List Nat := insL r np v ++ (List.range b).map fun c => 125 * r + c
theorem dn_succ {np r b : Nat} {v : Nat → Nat} : dn np v r (b + 1) = dn np v r b ++ [125 * r + b] := by
  unfold dn
  rw [List.range_succ, List.map_append, List.append_assoc]
  rfl
theorem insL_succ {np n : Nat} {v : Nat → Nat} : insL (n + 1) np v = insL n np v ++ (List.range (np ^ v n)).map fun b => 125 * n + b := by
  unfold insL
  rw [List.range_succ, List.flatMap_append, List.flatMap_singleton]
theorem dn_next {np r : Nat} {v : Nat → Nat} : dn np v r (np ^ v r) = insL (r + 1) np v := by
  rw [insL_succ]; rfl
theorem dn_zero {np r : Nat} {v : Nat → Nat} : dn np v r 0 = insL r np v := by
  unfold dn
  rw [List.range_zero, List.map_nil, List.append_nil]
theorem ICn.le {u : MS} {hd : Nat → Nat} {l : List Nat} {n m : Nat} (I : ICn u hd l n) (h : n ≤ m) : ICn u hd l m := ICn.mk I.pw (fun a ha => Nat.lt_of_lt_of_le (I.lt a ha) h) I.ch I.la
