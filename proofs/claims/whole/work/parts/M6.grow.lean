/-! the lists grow -/
def Gh.wJ (G : Gh) (jd : Nat → Nat) (ow : Nat → Nat) : Gh := Gh.mk G.tk G.wk G.kd G.st G.vl G.pg G.rl G.ca G.hd G.cd G.nr G.nc G.te G.nt G.jj jd ow
theorem JU'.re15 {R C : Nat → Nat → Option Nat} {T N : Nat → Nat} {Z : Nat} {ow : Nat → Nat} {jd : Nat → Nat} {jj : Bool} {a : Nat} (S : JU' R C T N Z ow jj jd) (J0 : jj = true) (ta : T a = 101) (oa : ow a = 500015) : JU' (fun f b => if f = 652 ∧ b = jd 0 then some a else R f b) C T N Z ow jj (fun k => if k = 15 then a else jd k) := by
  apply JU'.mk
  · exact fun J => absurd (J0.symm.trans J) (by decide)
  · exact fun J => (if_neg (fun e => absurd e.1 (by decide))).trans (S.jY J)
  · exact fun J => S.jt0 J
  · exact fun J => S.jt1 J
  · exact fun J => S.jt2 J
  · exact fun J => S.jt3 J
  · exact fun J => S.jt4 J
  · exact fun J => S.jt5 J
  · exact fun J => S.jt6 J
  · exact fun J => S.jt7 J
  · exact fun J => S.jt8 J
  · exact fun J => S.jt9 J
  · exact fun J => S.jt10 J
  · exact fun J => S.jt11 J
  · exact fun J => S.jt12 J
  · exact fun J => S.jt13 J
  · exact fun J => S.jt14 J
  · exact fun _ => ta
  · exact fun J => S.jt16 J
  · exact fun J => S.jt17 J
  · exact fun J => S.jt18 J
  · exact fun J => S.jt19 J
  · exact fun J => S.jt20 J
  · exact fun J => S.jn2 J
  · exact fun J => S.jn3 J
  · exact fun J => S.jn9 J
  · exact fun J => S.jn10 J
  · exact fun J => S.jn11 J
  · exact fun J => S.jn12 J
  · exact fun J => S.jn13 J
  · exact fun J => S.jn14 J
  · exact fun J => S.jn18 J
  · exact fun J => S.jn19 J
  · exact fun J => S.jn20 J
  · exact fun J => (if_neg (fun e => absurd e.1 (by decide))).trans (S.jr640 J)
  · exact fun J => (if_neg (fun e => absurd e.1 (by decide))).trans (S.jr641 J)
  · exact fun J => (if_neg (fun e => absurd e.1 (by decide))).trans (S.jr768 J)
  · exact fun J => (if_neg (fun e => absurd e.1 (by decide))).trans (S.jr769 J)
  · exact fun J => (if_neg (fun e => absurd e.1 (by decide))).trans (S.jr770 J)
  · exact fun J => (if_neg (fun e => absurd e.1 (by decide))).trans (S.jr771 J)
  · exact fun J => (if_neg (fun e => absurd e.1 (by decide))).trans (S.jr772 J)
  · exact fun J => (if_neg (fun e => absurd e.1 (by decide))).trans (S.jr773 J)
  · exact fun J => (if_neg (fun e => absurd e.1 (by decide))).trans (S.jr774 J)
  · exact fun J => (if_neg (fun e => absurd e.1 (by decide))).trans (S.jr775 J)
  · exact fun J => (if_neg (fun e => absurd e.1 (by decide))).trans (S.jr645 J)
  · exact fun J => (if_neg (fun e => absurd e.1 (by decide))).trans (S.jr646 J)
  · exact fun J => (if_neg (fun e => absurd e.1 (by decide))).trans (S.jr647 J)
  · exact fun J => (if_neg (fun e => absurd e.1 (by decide))).trans (S.jr648 J)
  · exact fun J => (if_neg (fun e => absurd e.1 (by decide))).trans (S.jr649 J)
  · exact fun J => (if_neg (fun e => absurd e.1 (by decide))).trans (S.jr650 J)
  · exact fun _ => if_pos ⟨rfl, rfl⟩
  · exact fun J => (if_neg (fun e => absurd e.1 (by decide))).trans (S.jr653 J)
  · exact fun J => (if_neg (fun e => absurd e.1 (by decide))).trans (S.jr654 J)
  · exact fun J => (if_neg (fun e => absurd e.1 (by decide))).trans (S.jr656 J)
  · exact fun J => (if_neg (fun e => absurd e.1 (by decide))).trans (S.jr657 J)
  · exact fun J => (if_neg (fun e => absurd e.1 (by decide))).trans (S.jr658 J)
  · intro J k hk
    show ow (if k = 15 then a else jd k) = _
    by_cases c : k = 15
    · rw [if_pos c, oa, c]
    · rw [if_neg c]; exact S.jo J k hk
  · intro J k hk
    show C (jd 3) k = some (if 100 + k = 15 then a else jd (100 + k))
    rw [if_neg (by omega)]; exact S.jsC J k hk
  · intro J k hk
    show T (if 100 + k = 15 then a else jd (100 + k)) = _
    rw [if_neg (by omega)]; exact S.jsT J k hk
theorem JU'.re16 {R C : Nat → Nat → Option Nat} {T N : Nat → Nat} {Z : Nat} {ow : Nat → Nat} {jd : Nat → Nat} {jj : Bool} {a : Nat} (S : JU' R C T N Z ow jj jd) (J0 : jj = true) (ta : T a = 101) (oa : ow a = 500016) : JU' (fun f b => if f = 653 ∧ b = jd 0 then some a else R f b) C T N Z ow jj (fun k => if k = 16 then a else jd k) := by
  apply JU'.mk
  · exact fun J => absurd (J0.symm.trans J) (by decide)
  · exact fun J => (if_neg (fun e => absurd e.1 (by decide))).trans (S.jY J)
  · exact fun J => S.jt0 J
  · exact fun J => S.jt1 J
  · exact fun J => S.jt2 J
  · exact fun J => S.jt3 J
  · exact fun J => S.jt4 J
  · exact fun J => S.jt5 J
  · exact fun J => S.jt6 J
  · exact fun J => S.jt7 J
  · exact fun J => S.jt8 J
  · exact fun J => S.jt9 J
  · exact fun J => S.jt10 J
  · exact fun J => S.jt11 J
  · exact fun J => S.jt12 J
  · exact fun J => S.jt13 J
  · exact fun J => S.jt14 J
  · exact fun J => S.jt15 J
  · exact fun _ => ta
  · exact fun J => S.jt17 J
  · exact fun J => S.jt18 J
  · exact fun J => S.jt19 J
  · exact fun J => S.jt20 J
  · exact fun J => S.jn2 J
  · exact fun J => S.jn3 J
  · exact fun J => S.jn9 J
  · exact fun J => S.jn10 J
  · exact fun J => S.jn11 J
  · exact fun J => S.jn12 J
  · exact fun J => S.jn13 J
  · exact fun J => S.jn14 J
  · exact fun J => S.jn18 J
  · exact fun J => S.jn19 J
  · exact fun J => S.jn20 J
  · exact fun J => (if_neg (fun e => absurd e.1 (by decide))).trans (S.jr640 J)
  · exact fun J => (if_neg (fun e => absurd e.1 (by decide))).trans (S.jr641 J)
  · exact fun J => (if_neg (fun e => absurd e.1 (by decide))).trans (S.jr768 J)
  · exact fun J => (if_neg (fun e => absurd e.1 (by decide))).trans (S.jr769 J)
  · exact fun J => (if_neg (fun e => absurd e.1 (by decide))).trans (S.jr770 J)
  · exact fun J => (if_neg (fun e => absurd e.1 (by decide))).trans (S.jr771 J)
  · exact fun J => (if_neg (fun e => absurd e.1 (by decide))).trans (S.jr772 J)
  · exact fun J => (if_neg (fun e => absurd e.1 (by decide))).trans (S.jr773 J)
  · exact fun J => (if_neg (fun e => absurd e.1 (by decide))).trans (S.jr774 J)
  · exact fun J => (if_neg (fun e => absurd e.1 (by decide))).trans (S.jr775 J)
  · exact fun J => (if_neg (fun e => absurd e.1 (by decide))).trans (S.jr645 J)
  · exact fun J => (if_neg (fun e => absurd e.1 (by decide))).trans (S.jr646 J)
  · exact fun J => (if_neg (fun e => absurd e.1 (by decide))).trans (S.jr647 J)
  · exact fun J => (if_neg (fun e => absurd e.1 (by decide))).trans (S.jr648 J)
  · exact fun J => (if_neg (fun e => absurd e.1 (by decide))).trans (S.jr649 J)
  · exact fun J => (if_neg (fun e => absurd e.1 (by decide))).trans (S.jr650 J)
  · exact fun J => (if_neg (fun e => absurd e.1 (by decide))).trans (S.jr652 J)
  · exact fun _ => if_pos ⟨rfl, rfl⟩
  · exact fun J => (if_neg (fun e => absurd e.1 (by decide))).trans (S.jr654 J)
  · exact fun J => (if_neg (fun e => absurd e.1 (by decide))).trans (S.jr656 J)
  · exact fun J => (if_neg (fun e => absurd e.1 (by decide))).trans (S.jr657 J)
  · exact fun J => (if_neg (fun e => absurd e.1 (by decide))).trans (S.jr658 J)
  · intro J k hk
    show ow (if k = 16 then a else jd k) = _
    by_cases c : k = 16
    · rw [if_pos c, oa, c]
    · rw [if_neg c]; exact S.jo J k hk
  · intro J k hk
    show C (jd 3) k = some (if 100 + k = 16 then a else jd (100 + k))
    rw [if_neg (by omega)]; exact S.jsC J k hk
  · intro J k hk
    show T (if 100 + k = 16 then a else jd (100 + k)) = _
    rw [if_neg (by omega)]; exact S.jsT J k hk
theorem JU'.re17 {R C : Nat → Nat → Option Nat} {T N : Nat → Nat} {Z : Nat} {ow : Nat → Nat} {jd : Nat → Nat} {jj : Bool} {a : Nat} (S : JU' R C T N Z ow jj jd) (J0 : jj = true) (ta : T a = 100) (oa : ow a = 500017) : JU' (fun f b => if f = 654 ∧ b = jd 0 then some a else R f b) C T N Z ow jj (fun k => if k = 17 then a else jd k) := by
  apply JU'.mk
  · exact fun J => absurd (J0.symm.trans J) (by decide)
  · exact fun J => (if_neg (fun e => absurd e.1 (by decide))).trans (S.jY J)
  · exact fun J => S.jt0 J
  · exact fun J => S.jt1 J
  · exact fun J => S.jt2 J
  · exact fun J => S.jt3 J
  · exact fun J => S.jt4 J
  · exact fun J => S.jt5 J
  · exact fun J => S.jt6 J
  · exact fun J => S.jt7 J
  · exact fun J => S.jt8 J
  · exact fun J => S.jt9 J
  · exact fun J => S.jt10 J
  · exact fun J => S.jt11 J
  · exact fun J => S.jt12 J
  · exact fun J => S.jt13 J
  · exact fun J => S.jt14 J
  · exact fun J => S.jt15 J
  · exact fun J => S.jt16 J
  · exact fun _ => ta
  · exact fun J => S.jt18 J
  · exact fun J => S.jt19 J
  · exact fun J => S.jt20 J
  · exact fun J => S.jn2 J
  · exact fun J => S.jn3 J
  · exact fun J => S.jn9 J
  · exact fun J => S.jn10 J
  · exact fun J => S.jn11 J
  · exact fun J => S.jn12 J
  · exact fun J => S.jn13 J
  · exact fun J => S.jn14 J
  · exact fun J => S.jn18 J
  · exact fun J => S.jn19 J
  · exact fun J => S.jn20 J
  · exact fun J => (if_neg (fun e => absurd e.1 (by decide))).trans (S.jr640 J)
  · exact fun J => (if_neg (fun e => absurd e.1 (by decide))).trans (S.jr641 J)
  · exact fun J => (if_neg (fun e => absurd e.1 (by decide))).trans (S.jr768 J)
  · exact fun J => (if_neg (fun e => absurd e.1 (by decide))).trans (S.jr769 J)
  · exact fun J => (if_neg (fun e => absurd e.1 (by decide))).trans (S.jr770 J)
  · exact fun J => (if_neg (fun e => absurd e.1 (by decide))).trans (S.jr771 J)
  · exact fun J => (if_neg (fun e => absurd e.1 (by decide))).trans (S.jr772 J)
  · exact fun J => (if_neg (fun e => absurd e.1 (by decide))).trans (S.jr773 J)
  · exact fun J => (if_neg (fun e => absurd e.1 (by decide))).trans (S.jr774 J)
  · exact fun J => (if_neg (fun e => absurd e.1 (by decide))).trans (S.jr775 J)
  · exact fun J => (if_neg (fun e => absurd e.1 (by decide))).trans (S.jr645 J)
  · exact fun J => (if_neg (fun e => absurd e.1 (by decide))).trans (S.jr646 J)
  · exact fun J => (if_neg (fun e => absurd e.1 (by decide))).trans (S.jr647 J)
  · exact fun J => (if_neg (fun e => absurd e.1 (by decide))).trans (S.jr648 J)
  · exact fun J => (if_neg (fun e => absurd e.1 (by decide))).trans (S.jr649 J)
  · exact fun J => (if_neg (fun e => absurd e.1 (by decide))).trans (S.jr650 J)
  · exact fun J => (if_neg (fun e => absurd e.1 (by decide))).trans (S.jr652 J)
  · exact fun J => (if_neg (fun e => absurd e.1 (by decide))).trans (S.jr653 J)
  · exact fun _ => if_pos ⟨rfl, rfl⟩
  · exact fun J => (if_neg (fun e => absurd e.1 (by decide))).trans (S.jr656 J)
  · exact fun J => (if_neg (fun e => absurd e.1 (by decide))).trans (S.jr657 J)
  · exact fun J => (if_neg (fun e => absurd e.1 (by decide))).trans (S.jr658 J)
  · intro J k hk
    show ow (if k = 17 then a else jd k) = _
    by_cases c : k = 17
    · rw [if_pos c, oa, c]
    · rw [if_neg c]; exact S.jo J k hk
  · intro J k hk
    show C (jd 3) k = some (if 100 + k = 17 then a else jd (100 + k))
    rw [if_neg (by omega)]; exact S.jsC J k hk
  · intro J k hk
    show T (if 100 + k = 17 then a else jd (100 + k)) = _
    rw [if_neg (by omega)]; exact S.jsT J k hk
def jup (jd : Nat → Nat) (i a : Nat) : Nat → Nat := fun k => if k = i then a else jd k
theorem jup_s {jd : Nat → Nat} {i a : Nat} : jup jd i a i = a := if_pos rfl
theorem jup_n {jd : Nat → Nat} {i a k : Nat} (h : k ≠ i) : jup jd i a k = jd k := if_neg h
def li3 (i t : Nat) : Prop := (i = 15 ∧ t = 101) ∨ (i = 16 ∧ t = 101) ∨ (i = 17 ∧ t = 100)
theorem SX.re {h : PH} {G : Gh} {i t a : Nat} (S : SX h G) (J : G.jj = true) (hi : li3 i t) (ta : hT h a = t) (oa : G.ow a = 500000 + i) : SX (sR h (637 + i) (G.jd 0) (some a)) (G.wJ (jup G.jd i a) G.ow) := by
  have n : ∀ f b, f ≠ 637 + i → hR (sR h (637 + i) (G.jd 0) (some a)) f b = hR h f b := fun f b q => by rw [z_hR_sR, if_neg (fun e => q e.1)]
  have i3 : i = 15 ∨ i = 16 ∨ i = 17 := by unfold li3 at hi; omega
  have fs : ∀ f b, b < hZ h → fS f → hR (sR h (637 + i) (G.jd 0) (some a)) f b = hR h f b := fun f b _ hf => n f b (by unfold fS at hf; omega)
  have ju : JU' (hR (sR h (637 + i) (G.jd 0) (some a))) (hC h) (hT h) (hN h) (hZ h) G.ow G.jj (jup G.jd i a) := by
    have e : hR (sR h (637 + i) (G.jd 0) (some a)) = fun f b => if f = 637 + i ∧ b = G.jd 0 then some a else hR h f b := by
      funext f b; rw [z_hR_sR]
    rw [e]
    rcases hi with ⟨h1, h2⟩ | ⟨h1, h2⟩ | ⟨h1, h2⟩ <;> subst h1 h2
    · exact JU'.re15 (SX'.ju S) J ta oa
    · exact JU'.re16 (SX'.ju S) J ta oa
    · exact JU'.re17 (SX'.ju S) J ta oa
  exact SX'.mk (SS'.step S.ss (fun _ _ => rfl) (fun _ _ => rfl) (fun _ _ => rfl) fs (Nat.le_refl _) S.fr) (RU'.step S.ru S.fr S.zz (fun _ _ => rfl) (fun _ _ => rfl) (fun _ _ => rfl) fs (fun _ _ _ _ => rfl)) (TE'.step (SX'.te (G := G) S) S.fr (fun _ _ => rfl) (fun _ _ => rfl) (fun _ _ => rfl) fs (fun _ _ => rfl)) ju (P6.step (SX'.tk (G := G) S) (by omega) S.fr (fun _ _ => rfl) (fun _ _ => rfl) (n _ _ (by omega))) (P6.step (SX'.wk (G := G) S) (by omega) S.fr (fun _ _ => rfl) (fun _ _ => rfl) (n _ _ (by omega))) (P6.step (SX'.pg (G := G) S) (by omega) S.fr (fun _ _ => rfl) (fun _ _ => rfl) (n _ _ (by omega))) (P6.step (SX'.kd (G := G) S) (by omega) S.fr (fun _ _ => rfl) (fun _ _ => rfl) (n _ _ (by omega))) (P6.step (SX'.st (G := G) S) (by omega) S.fr (fun _ _ => rfl) (fun _ _ => rfl) (n _ _ (by omega))) (P6.step (SX'.vl (G := G) S) (by omega) S.fr (fun _ _ => rfl) (fun _ _ => rfl) (n _ _ (by omega)))
/-- a copy of a list, twice as long, owned -/
def cpH (h : PH) (t a : Nat) : PH := sY (nA h t (2 * hN h a)) (hZ h) a (hN h a)
theorem cpH_sx {h : PH} {G : Gh} {t a o : Nat} (S : SX h G) : SX (cpH h t a) (G.wJ G.jd (upO G.ow (hZ h) o)) := by
  have hT' : ∀ b, b < hZ h → hT (cpH h t a) b = hT h b := fun b hb => by unfold cpH; simp only [z_hI_sI, z_hL_sI, z_hR_sI, z_hA_sI, z_hB_sI, z_hC_sI, z_hT_sI, z_hN_sI, z_hZ_sI, z_hI_sL, z_hL_sL, z_hR_sL, z_hA_sL, z_hB_sL, z_hC_sL, z_hT_sL, z_hN_sL, z_hZ_sL, z_hI_sR, z_hL_sR, z_hR_sR, z_hA_sR, z_hB_sR, z_hC_sR, z_hT_sR, z_hN_sR, z_hZ_sR, z_hI_sA, z_hL_sA, z_hR_sA, z_hA_sA, z_hB_sA, z_hC_sA, z_hT_sA, z_hN_sA, z_hZ_sA, z_hI_sB, z_hL_sB, z_hR_sB, z_hA_sB, z_hB_sB, z_hC_sB, z_hT_sB, z_hN_sB, z_hZ_sB, z_hI_sC, z_hL_sC, z_hR_sC, z_hA_sC, z_hB_sC, z_hC_sC, z_hT_sC, z_hN_sC, z_hZ_sC, z_hI_sY, z_hL_sY, z_hR_sY, z_hA_sY, z_hB_sY, z_hC_sY, z_hT_sY, z_hN_sY, z_hZ_sY, z_hI_nO, z_hL_nO, z_hR_nO, z_hA_nO, z_hB_nO, z_hC_nO, z_hT_nO, z_hN_nO, z_hZ_nO, z_hI_nA, z_hL_nA, z_hR_nA, z_hA_nA, z_hB_nA, z_hC_nA, z_hT_nA, z_hN_nA, z_hZ_nA]; rw [if_neg (by omega)]
  have hN' : ∀ b, b < hZ h → hN (cpH h t a) b = hN h b := fun b hb => by unfold cpH; simp only [z_hI_sI, z_hL_sI, z_hR_sI, z_hA_sI, z_hB_sI, z_hC_sI, z_hT_sI, z_hN_sI, z_hZ_sI, z_hI_sL, z_hL_sL, z_hR_sL, z_hA_sL, z_hB_sL, z_hC_sL, z_hT_sL, z_hN_sL, z_hZ_sL, z_hI_sR, z_hL_sR, z_hR_sR, z_hA_sR, z_hB_sR, z_hC_sR, z_hT_sR, z_hN_sR, z_hZ_sR, z_hI_sA, z_hL_sA, z_hR_sA, z_hA_sA, z_hB_sA, z_hC_sA, z_hT_sA, z_hN_sA, z_hZ_sA, z_hI_sB, z_hL_sB, z_hR_sB, z_hA_sB, z_hB_sB, z_hC_sB, z_hT_sB, z_hN_sB, z_hZ_sB, z_hI_sC, z_hL_sC, z_hR_sC, z_hA_sC, z_hB_sC, z_hC_sC, z_hT_sC, z_hN_sC, z_hZ_sC, z_hI_sY, z_hL_sY, z_hR_sY, z_hA_sY, z_hB_sY, z_hC_sY, z_hT_sY, z_hN_sY, z_hZ_sY, z_hI_nO, z_hL_nO, z_hR_nO, z_hA_nO, z_hB_nO, z_hC_nO, z_hT_nO, z_hN_nO, z_hZ_nO, z_hI_nA, z_hL_nA, z_hR_nA, z_hA_nA, z_hB_nA, z_hC_nA, z_hT_nA, z_hN_nA, z_hZ_nA]; rw [if_neg (by omega)]
  have ho : ∀ b, b < hZ h → upO G.ow (hZ h) o b = G.ow b := fun b hb => upO_n (by omega)
  have hR' : ∀ f b, hR (cpH h t a) f b = hR h f b := fun f b => by
    unfold cpH
    simp only [z_hI_sI, z_hL_sI, z_hR_sI, z_hA_sI, z_hB_sI, z_hC_sI, z_hT_sI, z_hN_sI, z_hZ_sI, z_hI_sL, z_hL_sL, z_hR_sL, z_hA_sL, z_hB_sL, z_hC_sL, z_hT_sL, z_hN_sL, z_hZ_sL, z_hI_sR, z_hL_sR, z_hR_sR, z_hA_sR, z_hB_sR, z_hC_sR, z_hT_sR, z_hN_sR, z_hZ_sR, z_hI_sA, z_hL_sA, z_hR_sA, z_hA_sA, z_hB_sA, z_hC_sA, z_hT_sA, z_hN_sA, z_hZ_sA, z_hI_sB, z_hL_sB, z_hR_sB, z_hA_sB, z_hB_sB, z_hC_sB, z_hT_sB, z_hN_sB, z_hZ_sB, z_hI_sC, z_hL_sC, z_hR_sC, z_hA_sC, z_hB_sC, z_hC_sC, z_hT_sC, z_hN_sC, z_hZ_sC, z_hI_sY, z_hL_sY, z_hR_sY, z_hA_sY, z_hB_sY, z_hC_sY, z_hT_sY, z_hN_sY, z_hZ_sY, z_hI_nO, z_hL_nO, z_hR_nO, z_hA_nO, z_hB_nO, z_hC_nO, z_hT_nO, z_hN_nO, z_hZ_nO, z_hI_nA, z_hL_nA, z_hR_nA, z_hA_nA, z_hB_nA, z_hC_nA, z_hT_nA, z_hN_nA, z_hZ_nA]
  have hC' : ∀ b i, b < hZ h → hC (cpH h t a) b i = hC h b i := fun b i hb => by unfold cpH; simp only [z_hI_sI, z_hL_sI, z_hR_sI, z_hA_sI, z_hB_sI, z_hC_sI, z_hT_sI, z_hN_sI, z_hZ_sI, z_hI_sL, z_hL_sL, z_hR_sL, z_hA_sL, z_hB_sL, z_hC_sL, z_hT_sL, z_hN_sL, z_hZ_sL, z_hI_sR, z_hL_sR, z_hR_sR, z_hA_sR, z_hB_sR, z_hC_sR, z_hT_sR, z_hN_sR, z_hZ_sR, z_hI_sA, z_hL_sA, z_hR_sA, z_hA_sA, z_hB_sA, z_hC_sA, z_hT_sA, z_hN_sA, z_hZ_sA, z_hI_sB, z_hL_sB, z_hR_sB, z_hA_sB, z_hB_sB, z_hC_sB, z_hT_sB, z_hN_sB, z_hZ_sB, z_hI_sC, z_hL_sC, z_hR_sC, z_hA_sC, z_hB_sC, z_hC_sC, z_hT_sC, z_hN_sC, z_hZ_sC, z_hI_sY, z_hL_sY, z_hR_sY, z_hA_sY, z_hB_sY, z_hC_sY, z_hT_sY, z_hN_sY, z_hZ_sY, z_hI_nO, z_hL_nO, z_hR_nO, z_hA_nO, z_hB_nO, z_hC_nO, z_hT_nO, z_hN_nO, z_hZ_nO, z_hI_nA, z_hL_nA, z_hR_nA, z_hA_nA, z_hB_nA, z_hC_nA, z_hT_nA, z_hN_nA, z_hZ_nA]; rw [if_neg (by omega)]
  have fr' : ∀ i, hZ h + 1 ≤ i → hT (cpH h t a) i = 0 := fun i hi => by
    unfold cpH
    simp only [z_hI_sI, z_hL_sI, z_hR_sI, z_hA_sI, z_hB_sI, z_hC_sI, z_hT_sI, z_hN_sI, z_hZ_sI, z_hI_sL, z_hL_sL, z_hR_sL, z_hA_sL, z_hB_sL, z_hC_sL, z_hT_sL, z_hN_sL, z_hZ_sL, z_hI_sR, z_hL_sR, z_hR_sR, z_hA_sR, z_hB_sR, z_hC_sR, z_hT_sR, z_hN_sR, z_hZ_sR, z_hI_sA, z_hL_sA, z_hR_sA, z_hA_sA, z_hB_sA, z_hC_sA, z_hT_sA, z_hN_sA, z_hZ_sA, z_hI_sB, z_hL_sB, z_hR_sB, z_hA_sB, z_hB_sB, z_hC_sB, z_hT_sB, z_hN_sB, z_hZ_sB, z_hI_sC, z_hL_sC, z_hR_sC, z_hA_sC, z_hB_sC, z_hC_sC, z_hT_sC, z_hN_sC, z_hZ_sC, z_hI_sY, z_hL_sY, z_hR_sY, z_hA_sY, z_hB_sY, z_hC_sY, z_hT_sY, z_hN_sY, z_hZ_sY, z_hI_nO, z_hL_nO, z_hR_nO, z_hA_nO, z_hB_nO, z_hC_nO, z_hT_nO, z_hN_nO, z_hZ_nO, z_hI_nA, z_hL_nA, z_hR_nA, z_hA_nA, z_hB_nA, z_hC_nA, z_hT_nA, z_hN_nA, z_hZ_nA]
    rw [if_neg (by omega)]; exact S.fr i (by omega)
  exact SX'.mk (SS'.step S.ss hT' hN' ho (fun f b _ _ => hR' f b) (show hZ h ≤ hZ h + 1 by omega) fr') (RU'.step S.ru S.fr S.zz hT' hN' ho (fun f b _ _ => hR' f b) (fun b i hb _ => hC' b i hb)) (TE'.step (SX'.te (G := G) S) S.fr hT' hN' ho (fun f b _ _ => hR' f b) (fun i _ => hC' 31 i (by have := S.zz; omega))) (JU'.step (SX'.ju (G := G) S) S.fr hT' hN' ho (fun f b _ _ => hR' f b) (hR' _ _) (fun f _ b _ => hR' f b) (fun b i hb _ => hC' b i hb)) (P6.step (SX'.tk (G := G) S) (by omega) S.fr hT' ho (hR' _ _)) (P6.step (SX'.wk (G := G) S) (by omega) S.fr hT' ho (hR' _ _)) (P6.step (SX'.pg (G := G) S) (by omega) S.fr hT' ho (hR' _ _)) (P6.step (SX'.kd (G := G) S) (by omega) S.fr hT' ho (hR' _ _)) (P6.step (SX'.st (G := G) S) (by omega) S.fr hT' ho (hR' _ _)) (P6.step (SX'.vl (G := G) S) (by omega) S.fr hT' ho (hR' _ _))
theorem copyI_v {h : PH} {a : Nat} (t : hT h a = 101) (la : a < hZ h) (h1 : 1 ≤ hN h a) (h2 : hN h a ≤ 65536) : fJ7_copyOf_59c91 h (some a) (nI (2 * hN h a)) = some (cpH h 101 a, some (hZ h), 1, 2 * hN h a) := by
  have nz : ¬ a = hZ h := by omega
  have c0 : ¬ nI (2 * hN h a) = nI (hN h a) := fun q => by have := (nI_eq (by omega) (by omega)).mp q; omega
  have c1 : ¬ nI (2 * hN h a) < nI (hN h a) := nI_nlt (by omega) (by omega)
  have c2 : ¬ nI (hN h a) < 0 := nI_pos (by omega)
  have c4 : (2 * hN h a * 8 ≤ 536870912) = True := eq_true (by omega)
  have c5 : (0 ≤ nI (2 * hN h a)) = True := eq_true (nI_pos' (by omega))
  simp only [cpH, fJ7_copyOf_59c91, fJ7_copyOf_59c91_0, oN_v, oC_v, oB_v, oB2_v, oB3_v, oB4_v, oK3_v, oK4_v, oL_v, t, if_true, if_false, and_false, false_and, and_true, true_and, and_self, decide_true, decide_false, reduceCtorEq, not_false_eq_true, not_true_eq_false, Nat.reduceEqDiff, Nat.reduceAdd, Nat.reduceMul, Nat.add_zero, Nat.zero_add, if_neg c0, c5, nI_clamp (show 2 * hN h a < 2147483648 by omega), c4, z_hN_nA, if_neg nz, if_neg c1, c2, nI_clamp (show hN h a < 2147483648 by omega), Nat.le_refl, show hN h a ≤ 2 * hN h a by omega]
theorem copyB_v {h : PH} {a : Nat} (t : hT h a = 100) (la : a < hZ h) (h1 : 1 ≤ hN h a) (h2 : hN h a ≤ 65536) (bt : ∀ i, isBy (hA h a i)) : fJ7_copyOf_9075b h (some a) (nI (2 * hN h a)) = some (cpH h 100 a, some (hZ h), 1, 2 * hN h a) := by
  have nz : ¬ a = hZ h := by omega
  have c0 : ¬ nI (2 * hN h a) = nI (hN h a) := fun q => by have := (nI_eq (by omega) (by omega)).mp q; omega
  have c1 : ¬ nI (2 * hN h a) < nI (hN h a) := nI_nlt (by omega) (by omega)
  have c2 : ¬ nI (hN h a) < 0 := nI_pos (by omega)
  have c4 : (2 * hN h a * 8 ≤ 536870912) = True := eq_true (by omega)
  have c5 : (0 ≤ nI (2 * hN h a)) = True := eq_true (nI_pos' (by omega))
  have al : ((List.range (hN h a)).all fun i => decide ((hA (nA h 100 (2 * hN h a)) a i).toInt8.toInt32 = hA (nA h 100 (2 * hN h a)) a i)) = true := by
    rw [List.all_eq_true]
    intro i _
    rw [decide_eq_true_iff, z_hA_nA, if_neg nz]
    exact bt i
  simp only [cpH, fJ7_copyOf_9075b, fJ7_copyOf_9075b_0, oN_v, oC_v, oB_v, oB2_v, oB3_v, oB4_v, oK3_v, oK4_v, oL_v, t, if_true, if_false, and_false, false_and, and_true, true_and, and_self, decide_true, decide_false, reduceCtorEq, not_false_eq_true, not_true_eq_false, Nat.reduceEqDiff, Nat.reduceAdd, Nat.reduceMul, Nat.add_zero, Nat.zero_add, if_neg c0, c5, nI_clamp (show 2 * hN h a < 2147483648 by omega), c4, z_hN_nA, if_neg nz, if_neg c1, c2, nI_clamp (show hN h a < 2147483648 by omega), Nat.le_refl, show hN h a ≤ 2 * hN h a by omega, al, Nat.add_zero]
/-- one list grown -/
def grH (h : PH) (G : Gh) (i t : Nat) : PH := sR (cpH h t (G.jd i)) (637 + i) (G.jd 0) (some (hZ h))
def grG (h : PH) (G : Gh) (i : Nat) : Gh := (G.wJ G.jd (upO G.ow (hZ h) (500000 + i))).wJ (jup G.jd i (hZ h)) (upO G.ow (hZ h) (500000 + i))
theorem grow_sx {h : PH} {G : Gh} {i t : Nat} (S : SX h G) (J : G.jj = true) (hi : li3 i t) : SX (grH h G i t) (grG h G i) :=
  SX.re (h := cpH h t (G.jd i)) (G := G.wJ G.jd (upO G.ow (hZ h) (500000 + i))) (cpH_sx S) J hi (by show hT (cpH h t (G.jd i)) (hZ h) = t; unfold cpH; simp only [z_hI_sI, z_hL_sI, z_hR_sI, z_hA_sI, z_hB_sI, z_hC_sI, z_hT_sI, z_hN_sI, z_hZ_sI, z_hI_sL, z_hL_sL, z_hR_sL, z_hA_sL, z_hB_sL, z_hC_sL, z_hT_sL, z_hN_sL, z_hZ_sL, z_hI_sR, z_hL_sR, z_hR_sR, z_hA_sR, z_hB_sR, z_hC_sR, z_hT_sR, z_hN_sR, z_hZ_sR, z_hI_sA, z_hL_sA, z_hR_sA, z_hA_sA, z_hB_sA, z_hC_sA, z_hT_sA, z_hN_sA, z_hZ_sA, z_hI_sB, z_hL_sB, z_hR_sB, z_hA_sB, z_hB_sB, z_hC_sB, z_hT_sB, z_hN_sB, z_hZ_sB, z_hI_sC, z_hL_sC, z_hR_sC, z_hA_sC, z_hB_sC, z_hC_sC, z_hT_sC, z_hN_sC, z_hZ_sC, z_hI_sY, z_hL_sY, z_hR_sY, z_hA_sY, z_hB_sY, z_hC_sY, z_hT_sY, z_hN_sY, z_hZ_sY, z_hI_nO, z_hL_nO, z_hR_nO, z_hA_nO, z_hB_nO, z_hC_nO, z_hT_nO, z_hN_nO, z_hZ_nO, z_hI_nA, z_hL_nA, z_hR_nA, z_hA_nA, z_hB_nA, z_hC_nA, z_hT_nA, z_hN_nA, z_hZ_nA, if_true, if_false, and_false, false_and, and_true, true_and, and_self, decide_true, decide_false, reduceCtorEq, not_false_eq_true, not_true_eq_false, Nat.reduceEqDiff, Nat.reduceAdd, Nat.reduceMul, Nat.add_zero, Nat.zero_add]) upO_s
theorem grH_A {h : PH} {G : Gh} {i t b q : Nat} (hb : b < hZ h) : hA (grH h G i t) b q = hA h b q := by
  unfold grH cpH
  simp only [z_hI_sI, z_hL_sI, z_hR_sI, z_hA_sI, z_hB_sI, z_hC_sI, z_hT_sI, z_hN_sI, z_hZ_sI, z_hI_sL, z_hL_sL, z_hR_sL, z_hA_sL, z_hB_sL, z_hC_sL, z_hT_sL, z_hN_sL, z_hZ_sL, z_hI_sR, z_hL_sR, z_hR_sR, z_hA_sR, z_hB_sR, z_hC_sR, z_hT_sR, z_hN_sR, z_hZ_sR, z_hI_sA, z_hL_sA, z_hR_sA, z_hA_sA, z_hB_sA, z_hC_sA, z_hT_sA, z_hN_sA, z_hZ_sA, z_hI_sB, z_hL_sB, z_hR_sB, z_hA_sB, z_hB_sB, z_hC_sB, z_hT_sB, z_hN_sB, z_hZ_sB, z_hI_sC, z_hL_sC, z_hR_sC, z_hA_sC, z_hB_sC, z_hC_sC, z_hT_sC, z_hN_sC, z_hZ_sC, z_hI_sY, z_hL_sY, z_hR_sY, z_hA_sY, z_hB_sY, z_hC_sY, z_hT_sY, z_hN_sY, z_hZ_sY, z_hI_nO, z_hL_nO, z_hR_nO, z_hA_nO, z_hB_nO, z_hC_nO, z_hT_nO, z_hN_nO, z_hZ_nO, z_hI_nA, z_hL_nA, z_hR_nA, z_hA_nA, z_hB_nA, z_hC_nA, z_hT_nA, z_hN_nA, z_hZ_nA]
  rw [if_neg (fun e => by omega), if_neg (by omega)]
theorem grH_B {h : PH} {G : Gh} {i t b q : Nat} (hb : b < hZ h) : hB (grH h G i t) b q = hB h b q := by
  unfold grH cpH
  simp only [z_hI_sI, z_hL_sI, z_hR_sI, z_hA_sI, z_hB_sI, z_hC_sI, z_hT_sI, z_hN_sI, z_hZ_sI, z_hI_sL, z_hL_sL, z_hR_sL, z_hA_sL, z_hB_sL, z_hC_sL, z_hT_sL, z_hN_sL, z_hZ_sL, z_hI_sR, z_hL_sR, z_hR_sR, z_hA_sR, z_hB_sR, z_hC_sR, z_hT_sR, z_hN_sR, z_hZ_sR, z_hI_sA, z_hL_sA, z_hR_sA, z_hA_sA, z_hB_sA, z_hC_sA, z_hT_sA, z_hN_sA, z_hZ_sA, z_hI_sB, z_hL_sB, z_hR_sB, z_hA_sB, z_hB_sB, z_hC_sB, z_hT_sB, z_hN_sB, z_hZ_sB, z_hI_sC, z_hL_sC, z_hR_sC, z_hA_sC, z_hB_sC, z_hC_sC, z_hT_sC, z_hN_sC, z_hZ_sC, z_hI_sY, z_hL_sY, z_hR_sY, z_hA_sY, z_hB_sY, z_hC_sY, z_hT_sY, z_hN_sY, z_hZ_sY, z_hI_nO, z_hL_nO, z_hR_nO, z_hA_nO, z_hB_nO, z_hC_nO, z_hT_nO, z_hN_nO, z_hZ_nO, z_hI_nA, z_hL_nA, z_hR_nA, z_hA_nA, z_hB_nA, z_hC_nA, z_hT_nA, z_hN_nA, z_hZ_nA]
  rw [if_neg (by omega)]
theorem grH_N {h : PH} {G : Gh} {i t b : Nat} : hN (grH h G i t) b = if b = hZ h then 2 * hN h (G.jd i) else hN h b := by
  unfold grH cpH
  simp only [z_hI_sI, z_hL_sI, z_hR_sI, z_hA_sI, z_hB_sI, z_hC_sI, z_hT_sI, z_hN_sI, z_hZ_sI, z_hI_sL, z_hL_sL, z_hR_sL, z_hA_sL, z_hB_sL, z_hC_sL, z_hT_sL, z_hN_sL, z_hZ_sL, z_hI_sR, z_hL_sR, z_hR_sR, z_hA_sR, z_hB_sR, z_hC_sR, z_hT_sR, z_hN_sR, z_hZ_sR, z_hI_sA, z_hL_sA, z_hR_sA, z_hA_sA, z_hB_sA, z_hC_sA, z_hT_sA, z_hN_sA, z_hZ_sA, z_hI_sB, z_hL_sB, z_hR_sB, z_hA_sB, z_hB_sB, z_hC_sB, z_hT_sB, z_hN_sB, z_hZ_sB, z_hI_sC, z_hL_sC, z_hR_sC, z_hA_sC, z_hB_sC, z_hC_sC, z_hT_sC, z_hN_sC, z_hZ_sC, z_hI_sY, z_hL_sY, z_hR_sY, z_hA_sY, z_hB_sY, z_hC_sY, z_hT_sY, z_hN_sY, z_hZ_sY, z_hI_nO, z_hL_nO, z_hR_nO, z_hA_nO, z_hB_nO, z_hC_nO, z_hT_nO, z_hN_nO, z_hZ_nO, z_hI_nA, z_hL_nA, z_hR_nA, z_hA_nA, z_hB_nA, z_hC_nA, z_hT_nA, z_hN_nA, z_hZ_nA]
theorem grH_v {h : PH} {G : Gh} {i t q : Nat} (la : G.jd i < hZ h) : hA (grH h G i t) (hZ h) q = if q < hN h (G.jd i) then hA h (G.jd i) q else 0 := by
  unfold grH cpH
  simp only [z_hI_sI, z_hL_sI, z_hR_sI, z_hA_sI, z_hB_sI, z_hC_sI, z_hT_sI, z_hN_sI, z_hZ_sI, z_hI_sL, z_hL_sL, z_hR_sL, z_hA_sL, z_hB_sL, z_hC_sL, z_hT_sL, z_hN_sL, z_hZ_sL, z_hI_sR, z_hL_sR, z_hR_sR, z_hA_sR, z_hB_sR, z_hC_sR, z_hT_sR, z_hN_sR, z_hZ_sR, z_hI_sA, z_hL_sA, z_hR_sA, z_hA_sA, z_hB_sA, z_hC_sA, z_hT_sA, z_hN_sA, z_hZ_sA, z_hI_sB, z_hL_sB, z_hR_sB, z_hA_sB, z_hB_sB, z_hC_sB, z_hT_sB, z_hN_sB, z_hZ_sB, z_hI_sC, z_hL_sC, z_hR_sC, z_hA_sC, z_hB_sC, z_hC_sC, z_hT_sC, z_hN_sC, z_hZ_sC, z_hI_sY, z_hL_sY, z_hR_sY, z_hA_sY, z_hB_sY, z_hC_sY, z_hT_sY, z_hN_sY, z_hZ_sY, z_hI_nO, z_hL_nO, z_hR_nO, z_hA_nO, z_hB_nO, z_hC_nO, z_hT_nO, z_hN_nO, z_hZ_nO, z_hI_nA, z_hL_nA, z_hR_nA, z_hA_nA, z_hB_nA, z_hC_nA, z_hT_nA, z_hN_nA, z_hZ_nA, if_true, if_false, and_false, false_and, and_true, true_and, and_self, decide_true, decide_false, reduceCtorEq, not_false_eq_true, not_true_eq_false, Nat.reduceEqDiff, Nat.reduceAdd, Nat.reduceMul, Nat.add_zero, Nat.zero_add]
  by_cases c : q < hN h (G.jd i)
  · rw [if_pos c, if_pos c, if_neg (by omega)]
  · rw [if_neg c, if_neg c]
