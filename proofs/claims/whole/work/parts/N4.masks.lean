/-! proved and refuted, by the masks -/
def BM (h : PH) (G : Gh) (D : Mdl) (P : Nat → Prop) (R : Nat → Prop) (nr : Nat) (inf' : Nat → Prop) (k0' : Nat → Prop) (B : Nat → Nat → Prop) : Prop := (SX h G) ∧ (G.jj = true) ∧ (∀ p, p < 600 → ∃ m, hA h (G.jd 13) p = nI m ∧ m < 2 ^ 30 ∧ ∀ t, Nat.testBit m t = true ↔ ∃ x, x ∈ D.ins ∧ D.hd x = p ∧ ¬ blk D R x ∧ x / 125 = t) ∧ (∀ p, p < 600 → ∃ m, hA h (G.jd 12) p = nI m ∧ m < 2 ^ 30 ∧ ∀ t, Nat.testBit m t = true ↔ ∃ x, x ∈ D.ins ∧ D.hd x = p ∧ apl D P x ∧ x / 125 = t) ∧ (∃ m, hI h 651 (G.jd 0) = nI m ∧ m < 2 ^ 30 ∧ ∀ t, Nat.testBit m t = true ↔ t < nr ∧ inf' t ∧ k0' t) ∧ (∀ r, r < nr → inf' r → ∃ m, hA h (G.jd 14) r = nI m ∧ m < 2 ^ 30 ∧ ∀ t, Nat.testBit m t = true ↔ t < nr ∧ B t r) ∧ (∀ x, x ∈ D.ins → D.ho x → x / 125 < nr ∧ inf' (x / 125)) ∧ (∀ x y, D.hi y x ↔ B (y / 125) (x / 125)) ∧ (∀ x, D.k0 x ↔ k0' (x / 125))
theorem BM.s {h : PH} {G : Gh} {D : Mdl} {P : Nat → Prop} {R : Nat → Prop} {nr : Nat} {inf' : Nat → Prop} {k0' : Nat → Prop} {B : Nat → Nat → Prop} (X_ : BM h G D P R nr inf' k0' B) : SX h G := X_.1
theorem BM.j {h : PH} {G : Gh} {D : Mdl} {P : Nat → Prop} {R : Nat → Prop} {nr : Nat} {inf' : Nat → Prop} {k0' : Nat → Prop} {B : Nat → Nat → Prop} (X_ : BM h G D P R nr inf' k0' B) : G.jj = true := X_.2.1
theorem BM.lv {h : PH} {G : Gh} {D : Mdl} {P : Nat → Prop} {R : Nat → Prop} {nr : Nat} {inf' : Nat → Prop} {k0' : Nat → Prop} {B : Nat → Nat → Prop} (X_ : BM h G D P R nr inf' k0' B) : ∀ p, p < 600 → ∃ m, hA h (G.jd 13) p = nI m ∧ m < 2 ^ 30 ∧ ∀ t, Nat.testBit m t = true ↔ ∃ x, x ∈ D.ins ∧ D.hd x = p ∧ ¬ blk D R x ∧ x / 125 = t := X_.2.2.1
theorem BM.pv {h : PH} {G : Gh} {D : Mdl} {P : Nat → Prop} {R : Nat → Prop} {nr : Nat} {inf' : Nat → Prop} {k0' : Nat → Prop} {B : Nat → Nat → Prop} (X_ : BM h G D P R nr inf' k0' B) : ∀ p, p < 600 → ∃ m, hA h (G.jd 12) p = nI m ∧ m < 2 ^ 30 ∧ ∀ t, Nat.testBit m t = true ↔ ∃ x, x ∈ D.ins ∧ D.hd x = p ∧ apl D P x ∧ x / 125 = t := X_.2.2.2.1
theorem BM.st {h : PH} {G : Gh} {D : Mdl} {P : Nat → Prop} {R : Nat → Prop} {nr : Nat} {inf' : Nat → Prop} {k0' : Nat → Prop} {B : Nat → Nat → Prop} (X_ : BM h G D P R nr inf' k0' B) : ∃ m, hI h 651 (G.jd 0) = nI m ∧ m < 2 ^ 30 ∧ ∀ t, Nat.testBit m t = true ↔ t < nr ∧ inf' t ∧ k0' t := X_.2.2.2.2.1
theorem BM.bt' {h : PH} {G : Gh} {D : Mdl} {P : Nat → Prop} {R : Nat → Prop} {nr : Nat} {inf' : Nat → Prop} {k0' : Nat → Prop} {B : Nat → Nat → Prop} (X_ : BM h G D P R nr inf' k0' B) : ∀ r, r < nr → inf' r → ∃ m, hA h (G.jd 14) r = nI m ∧ m < 2 ^ 30 ∧ ∀ t, Nat.testBit m t = true ↔ t < nr ∧ B t r := X_.2.2.2.2.2.1
theorem BM.ho {h : PH} {G : Gh} {D : Mdl} {P : Nat → Prop} {R : Nat → Prop} {nr : Nat} {inf' : Nat → Prop} {k0' : Nat → Prop} {B : Nat → Nat → Prop} (X_ : BM h G D P R nr inf' k0' B) : ∀ x, x ∈ D.ins → D.ho x → x / 125 < nr ∧ inf' (x / 125) := X_.2.2.2.2.2.2.1
theorem BM.hi {h : PH} {G : Gh} {D : Mdl} {P : Nat → Prop} {R : Nat → Prop} {nr : Nat} {inf' : Nat → Prop} {k0' : Nat → Prop} {B : Nat → Nat → Prop} (X_ : BM h G D P R nr inf' k0' B) : ∀ x y, D.hi y x ↔ B (y / 125) (x / 125) := X_.2.2.2.2.2.2.2.1
theorem BM.k0 {h : PH} {G : Gh} {D : Mdl} {P : Nat → Prop} {R : Nat → Prop} {nr : Nat} {inf' : Nat → Prop} {k0' : Nat → Prop} {B : Nat → Nat → Prop} (X_ : BM h G D P R nr inf' k0' B) : ∀ x, D.k0 x ↔ k0' (x / 125) := X_.2.2.2.2.2.2.2.2
theorem BM.mk {h : PH} {G : Gh} {D : Mdl} {P : Nat → Prop} {R : Nat → Prop} {nr : Nat} {inf' : Nat → Prop} {k0' : Nat → Prop} {B : Nat → Nat → Prop} (s_ : SX h G) (j_ : G.jj = true) (lv_ : ∀ p, p < 600 → ∃ m, hA h (G.jd 13) p = nI m ∧ m < 2 ^ 30 ∧ ∀ t, Nat.testBit m t = true ↔ ∃ x, x ∈ D.ins ∧ D.hd x = p ∧ ¬ blk D R x ∧ x / 125 = t) (pv_ : ∀ p, p < 600 → ∃ m, hA h (G.jd 12) p = nI m ∧ m < 2 ^ 30 ∧ ∀ t, Nat.testBit m t = true ↔ ∃ x, x ∈ D.ins ∧ D.hd x = p ∧ apl D P x ∧ x / 125 = t) (st_ : ∃ m, hI h 651 (G.jd 0) = nI m ∧ m < 2 ^ 30 ∧ ∀ t, Nat.testBit m t = true ↔ t < nr ∧ inf' t ∧ k0' t) (bt'_ : ∀ r, r < nr → inf' r → ∃ m, hA h (G.jd 14) r = nI m ∧ m < 2 ^ 30 ∧ ∀ t, Nat.testBit m t = true ↔ t < nr ∧ B t r) (ho_ : ∀ x, x ∈ D.ins → D.ho x → x / 125 < nr ∧ inf' (x / 125)) (hi_ : ∀ x y, D.hi y x ↔ B (y / 125) (x / 125)) (k0_ : ∀ x, D.k0 x ↔ k0' (x / 125)) : BM h G D P R nr inf' k0' B := ⟨s_, j_, lv_, pv_, st_, bt'_, ho_, hi_, k0_⟩
theorem z_eq {a : Nat} (h : a < 2 ^ 30) : nI a = 0 ↔ a = 0 := nI_eq (b := 0) (lt30 h) (by decide)
theorem and30 {a b : Nat} (h : a < 2 ^ 30) : a &&& b < 2 ^ 30 := Nat.lt_of_le_of_lt Nat.and_le_left h
theorem and_t {a b t : Nat} : Nat.testBit (a &&& b) t = true ↔ Nat.testBit a t = true ∧ Nat.testBit b t = true := by
  rw [Nat.testBit_and, Bool.and_eq_true]
theorem ip30 {h : PH} {G : Gh} {y c : Nat} {B : Nat → Nat → Prop} (S : SX h G) (J : G.jj = true) (hy : y < 2 ^ 30) (hc : c < 2 ^ 30) (hb : ∀ r, Nat.testBit c r = true → r < 30 → ∃ m, hA h (G.jd 14) r = nI m ∧ m < 2 ^ 30 ∧ ∀ s, (Nat.testBit m s = true ∧ Nat.testBit y s = true) ↔ (B s r ∧ Nat.testBit y s = true)) : ∀ m t f, t + m = 30 → ∃ x, fX5_isProved_30 (f + (m + 1)) h (G.jd 0) (nI y) (nI c) (nI t) = some x ∧ Tf x (∀ r, t ≤ r → Nat.testBit c r = true → ∃ s, B s r ∧ Nat.testBit y s = true)
  | 0, t, f, e => by
    have et : t = 30 := e
    subst et
    have ul : fX5_isProved_30 (f + (0 + 1)) h (G.jd 0) (nI y) (nI c) (nI 30) = fX5_isProved_30F (fX5_isProved_30 f) h (G.jd 0) (nI y) (nI c) (nI 30) := rfl
    exact ⟨1, by rw [ul, fX5_isProved_30F, if_pos (show (30 : Int32) ≤ nI 30 from Int32.le_refl _)], .inl ⟨rfl, fun r hr hb => by rw [tb_lt hc hr] at hb; exact absurd hb (by decide)⟩⟩
  | m + 1, t, f, e => by
    have ht : t < 30 := by omega
    have ul : fX5_isProved_30 (f + (m + 1 + 1)) h (G.jd 0) (nI y) (nI c) (nI t) = fX5_isProved_30F (fX5_isProved_30 (f + (m + 1))) h (G.jd 0) (nI y) (nI c) (nI t) := rfl
    have e1 : nI t + 1 = nI (t + 1) := nI_add t 1
    rw [ul, fX5_isProved_30F, if_neg (show ¬ (30 : Int32) ≤ nI t from nI_ge (b := 30) ht (by decide))]
    by_cases c0 : c < 2 ^ t
    · rw [if_pos ((shr_zero (lt30 hc) (by omega)).mpr c0)]
      exact ⟨1, rfl, .inl ⟨rfl, fun r hr hb => by rw [tb_lt c0 hr] at hb; exact absurd hb (by decide)⟩⟩
    rw [if_neg (fun q => c0 ((shr_zero (lt30 hc) (by omega)).mp q))]
    have next : (Nat.testBit c t = true → ∃ s, B s t ∧ Nat.testBit y s = true) → ∃ x, fX5_isProved_68 (fX5_isProved_30 (f + (m + 1))) h (G.jd 0) (nI y) (nI c) (nI t) = some x ∧ Tf x (∀ r, t ≤ r → Nat.testBit c r = true → ∃ s, B s r ∧ Nat.testBit y s = true) := by
      intro hn
      rw [fX5_isProved_68, oL_v, e1]
      obtain ⟨x, x1, x2⟩ := ip30 S J hy hc hb m (t + 1) f (by omega)
      refine ⟨x, x1, x2.iff ⟨fun a r hr hb => ?_, fun a r hr hb => a r (by omega) hb⟩⟩
      by_cases q : r = t
      · rw [q] at hb ⊢; exact hn hb
      · exact a r (by omega) hb
    by_cases cb : Nat.testBit c t = true
    · obtain ⟨w, w1, w2, w3⟩ := hb t cb ht
      rw [if_pos ((shr_bit (lt30 hc) (by omega)).mpr cb), oC_d (S.jt0 J), S.jr650 J, oN_v, oC_d (S.jt14 J), S.jn14 J, oC_t (ix_n ht (by decide)), nI_clamp (show t < 2147483648 by omega), w1, nI_and (lt30 w2) (lt30 hy)]
      by_cases ez : w &&& y = 0
      · rw [if_pos ((z_eq (and30 w2)).mpr ez)]
        refine ⟨0, rfl, .inr ⟨rfl, fun a => ?_⟩⟩
        obtain ⟨s, s1, s2⟩ := a t (Nat.le_refl _) cb
        exact and_ne.mp ez s ((w3 s).mpr ⟨s1, s2⟩)
      · rw [if_neg (fun q => ez ((z_eq (and30 w2)).mp q))]
        refine next fun _ => ?_
        by_cases q : ∃ s, B s t ∧ Nat.testBit y s = true
        · exact q
        · exact absurd (and_ne.mpr fun s hs => q ⟨s, (w3 s).mp hs⟩) ez
    · rw [if_neg (fun q => cb ((shr_bit (lt30 hc) (by omega)).mp q))]
      exact next fun q => absurd q cb
theorem isProvedC {h : PH} {G : Gh} {D : Mdl} {P R : Nat → Prop} {nr : Nat} {inf' k0' : Nat → Prop} {B : Nat → Nat → Prop} {p : Nat} (M : BM h G D P R nr inf' k0' B) (hp : p < 600) : ∃ x, fX5_isProved h (G.jd 0) (nI p) = some x ∧ Tf x (prS D P R p) := by
  have S := M.s
  have J := M.j
  have hq := xor1_lt hp
  obtain ⟨a, a1, a2, a3⟩ := M.pv p hp
  obtain ⟨c, c1, c2, c3⟩ := M.lv _ hq
  obtain ⟨s, s1, s2, s3⟩ := M.st
  have cp : Int32.toNatClampNeg (nI p) = p := nI_clamp (by omega)
  have cq : Int32.toNatClampNeg (nI (p ^^^ 1)) = p ^^^ 1 := nI_clamp (by omega)
  have ab : ∀ t, Nat.testBit (a &&& s) t = true ↔ ∃ y, byR D P p y ∧ y / 125 = t := by
    intro t
    rw [and_t, a3, s3]
    constructor
    · rintro ⟨⟨x, x1, x2, x3, x4⟩, _, _, x7⟩
      exact ⟨x, ⟨x1, x2, (M.k0 x).mpr (by rw [x4]; exact x7), x3⟩, x4⟩
    · rintro ⟨y, ⟨y1, y2, y3, y4⟩, y5⟩
      have := M.ho y y1 y4.1
      rw [y5] at this
      exact ⟨⟨y, y1, y2, y4, y5⟩, this.1, this.2, by rw [← y5]; exact (M.k0 y).mp y3⟩
  have x600 : ix (nI p) 600 = true := ix_n hp (by decide)
  rw [fX5_isProved, fX5_isProved_0, oC_d (S.jt0 J), S.jr648 J, oN_v, oC_d (S.jt12 J), S.jn12 J, oC_t x600, cp, a1, s1, nI_and (lt30 a2) (lt30 s2), oL_v, S.jr649 J, oN_v, oC_d (S.jt13 J), S.jn13 J, nI_xor1 hp, oC_t (ix_n hq (by decide)), cq, c1, oL_v]
  by_cases ez : a &&& s = 0
  · rw [if_pos ((z_eq (and30 a2)).mpr ez)]
    refine ⟨0, rfl, .inr ⟨rfl, fun q => ?_⟩⟩
    obtain ⟨y, hy⟩ := q.1
    have := (ab (y / 125)).mpr ⟨y, hy, rfl⟩
    rw [ez, Nat.zero_testBit] at this
    exact absurd this (by decide)
  · rw [if_neg (fun q => ez ((z_eq (and30 a2)).mp q))]
    have e1 : ∃ y, byR D P p y := by
      by_cases q : ∃ y, byR D P p y
      · exact q
      · exact absurd (and_ne.mpr fun t ht => by
          obtain ⟨y, hy, _⟩ := (ab t).mp (and_t.mpr ht)
          exact q ⟨y, hy⟩) ez
    obtain ⟨x, x1, x2⟩ := ip30 (y := a &&& s) (c := c) (B := B) S J (and30 a2) c2 (fun r hr _ => by
      obtain ⟨w, w1, w2, w3, w4⟩ := (c3 r).mp hr
      have hw : D.ho w := by
        by_cases q : D.ho w
        · exact q
        · exact absurd (.inl q) w3
      have ho := M.ho w w1 hw
      rw [w4] at ho
      obtain ⟨m, m1, m2, m3⟩ := M.bt' r ho.1 ho.2
      refine ⟨m, m1, m2, fun t => and_congr_left fun ht => (m3 t).trans ⟨fun q => q.2, fun q => ⟨?_, q⟩⟩⟩
      exact ((s3 t).mp (and_t.mp ht).2).1) 30 0 99969 (by omega)
    refine ⟨x, x1, x2.iff ⟨fun q => ⟨e1, fun w w1 w2 => ?_⟩, fun q r _ hr => ?_⟩⟩
    · by_cases bk : blk D R w
      · exact .inl bk
      · obtain ⟨t, t1, t2⟩ := q (w / 125) (Nat.zero_le _) ((c3 _).mpr ⟨w, w1, w2, bk, rfl⟩)
        obtain ⟨y, y1, y2⟩ := (ab t).mp t2
        exact .inr ⟨y, y1, (M.hi w y).mpr (by rw [y2]; exact t1)⟩
    · obtain ⟨w, w1, w2, w3, w4⟩ := (c3 r).mp hr
      rcases q.2 w w1 w2 with bk | ⟨y, y1, y2⟩
      · exact absurd bk w3
      · exact ⟨y / 125, by rw [← w4]; exact (M.hi w y).mp y2, (ab _).mpr ⟨y, y1, rfl⟩⟩
theorem prevailsC {h : PH} {G : Gh} {D : Mdl} {P R : Nat → Prop} {nr : Nat} {inf' k0' : Nat → Prop} {B : Nat → Nat → Prop} {p x : Nat} (M : BM h G D P R nr inf' k0' B) (n30 : nr ≤ 30) (hp : p < 600) (hx : x ∈ D.ins) (ho : D.ho x) : ∃ w, fX5_prevails h (G.jd 0) (nI (x / 125)) (nI p) = some w ∧ Tf w (∀ y, y ∈ D.ins → D.hd y = p → D.k0 y → blk D R y ∨ ¬ D.hi y x) := by
  have S := M.s
  have J := M.j
  obtain ⟨c, c1, c2, c3⟩ := M.lv p hp
  obtain ⟨s, s1, s2, s3⟩ := M.st
  obtain ⟨i1, i2⟩ := M.ho x hx ho
  obtain ⟨m, m1, m2, m3⟩ := M.bt' _ i1 i2
  rw [fX5_prevails, fX5_prevails_0, oC_d (S.jt0 J), S.jr650 J, oN_v, oC_d (S.jt14 J), S.jn14 J, oC_t (ix_n (show x / 125 < 30 by omega) (by decide)), S.jr649 J, oN_v, oC_d (S.jt13 J), S.jn13 J, oC_t (ix_n hp (by decide)), nI_clamp (show x / 125 < 2147483648 by omega), nI_clamp (show p < 2147483648 by omega), m1, c1, s1, nI_and (lt30 m2) (lt30 c2), nI_and (lt30 (and30 m2)) (lt30 s2)]
  by_cases ez : (m &&& c) &&& s = 0
  · rw [if_pos ((z_eq (and30 (and30 m2))).mpr ez)]
    refine ⟨1, rfl, .inl ⟨rfl, fun y y1 y2 y3 => ?_⟩⟩
    by_cases bk : blk D R y
    · exact .inl bk
    · refine .inr fun hh => ?_
      have hy : D.ho y := by
        by_cases q : D.ho y
        · exact q
        · exact absurd (.inl q) bk
      have o := M.ho y y1 hy
      exact and_ne.mp ez (y / 125) ⟨and_t.mpr ⟨(m3 _).mpr ⟨o.1, (M.hi x y).mp hh⟩, (c3 _).mpr ⟨y, y1, y2, bk, rfl⟩⟩, (s3 _).mpr ⟨o.1, o.2, (M.k0 y).mp y3⟩⟩
  · rw [if_neg (fun q => ez ((z_eq (and30 (and30 m2))).mp q))]
    refine ⟨0, rfl, .inr ⟨rfl, fun q => ez (and_ne.mpr fun t ht => ?_)⟩⟩
    obtain ⟨h1, h2⟩ := and_t.mp ht.1
    obtain ⟨y, y1, y2, y3, y4⟩ := (c3 t).mp h2
    have k := ((s3 t).mp ht.2).2.2
    rcases q y y1 y2 ((M.k0 y).mpr (by rw [y4]; exact k)) with a | a
    · exact y3 a
    · exact a ((M.hi x y).mpr (by rw [y4]; exact ((m3 t).mp h1).2))
theorem ir27 {h : PH} {G : Gh} {D : Mdl} {P R : Nat → Prop} {nr : Nat} {inf' k0' : Nat → Prop} {B : Nat → Nat → Prop} {p c : Nat} (M : BM h G D P R nr inf' k0' B) (n30 : nr ≤ 30) (hp : p < 600) (hc : c < 2 ^ 30) (c3 : ∀ t, Nat.testBit c t = true ↔ ∃ x, x ∈ D.ins ∧ D.hd x = p ^^^ 1 ∧ apl D P x ∧ x / 125 = t) : ∀ m t f, t + m = 30 → ∃ x, fX5_isRefuted_27 (f + (m + 1)) h (G.jd 0) (nI p) (nI c) (nI t) = some x ∧ Tf x (∃ w, t ≤ w / 125 ∧ w ∈ D.ins ∧ D.hd w = p ^^^ 1 ∧ agR D P R p w)
  | 0, t, f, e => by
    have et : t = 30 := e
    subst et
    have ul : fX5_isRefuted_27 (f + (0 + 1)) h (G.jd 0) (nI p) (nI c) (nI 30) = fX5_isRefuted_27F (fX5_isRefuted_27 f) h (G.jd 0) (nI p) (nI c) (nI 30) := rfl
    refine ⟨0, by rw [ul, fX5_isRefuted_27F, if_pos (show (30 : Int32) ≤ nI 30 from Int32.le_refl _)], .inr ⟨rfl, fun ⟨w, w1, w2, w3, w4⟩ => ?_⟩⟩
    have := (M.ho w w2 w4.1.1).1
    omega
  | m + 1, t, f, e => by
    have S := M.s
    have J := M.j
    have ht : t < 30 := by omega
    have ul : fX5_isRefuted_27 (f + (m + 1 + 1)) h (G.jd 0) (nI p) (nI c) (nI t) = fX5_isRefuted_27F (fX5_isRefuted_27 (f + (m + 1))) h (G.jd 0) (nI p) (nI c) (nI t) := rfl
    have e1 : nI t + 1 = nI (t + 1) := nI_add t 1
    rw [ul, fX5_isRefuted_27F, if_neg (show ¬ (30 : Int32) ≤ nI t from nI_ge (b := 30) ht (by decide))]
    by_cases c0 : c < 2 ^ t
    · rw [if_pos ((shr_zero (lt30 hc) (by omega)).mpr c0)]
      refine ⟨0, rfl, .inr ⟨rfl, fun ⟨w, w1, w2, w3, w4⟩ => ?_⟩⟩
      have := (c3 (w / 125)).mpr ⟨w, w2, w3, w4.1, rfl⟩
      rw [tb_lt c0 w1] at this
      exact absurd this (by decide)
    rw [if_neg (fun q => c0 ((shr_zero (lt30 hc) (by omega)).mp q))]
    have next : (∀ w, w / 125 = t → w ∈ D.ins → D.hd w = p ^^^ 1 → ¬ agR D P R p w) → ∃ x, fX5_isRefuted_59 (fX5_isRefuted_27 (f + (m + 1))) h (G.jd 0) (nI p) (nI c) (nI t) = some x ∧ Tf x (∃ w, t ≤ w / 125 ∧ w ∈ D.ins ∧ D.hd w = p ^^^ 1 ∧ agR D P R p w) := by
      intro hn
      rw [fX5_isRefuted_59, oL_v, e1]
      obtain ⟨x, x1, x2⟩ := ir27 M n30 hp hc c3 m (t + 1) f (by omega)
      refine ⟨x, x1, x2.iff ⟨fun ⟨w, w1, w2⟩ => ⟨w, by omega, w2⟩, fun ⟨w, w1, w2, w3, w4⟩ => ?_⟩⟩
      by_cases q : w / 125 = t
      · exact absurd w4 (hn w q w2 w3)
      · exact ⟨w, by omega, w2, w3, w4⟩
    by_cases cb : Nat.testBit c t = true
    · obtain ⟨w, w1, w2, w3, w4⟩ := (c3 t).mp cb
      obtain ⟨v, v1, v2⟩ := prevailsC M n30 hp w1 w3.1
      rw [w4] at v1
      rw [if_pos ((shr_bit (lt30 hc) (by omega)).mpr cb), oC_d (S.jt0 J), v1, oB_v]
      rcases v2.cases with ⟨_, g2, g3⟩ | ⟨g1, g2⟩
      · rw [if_neg g2]
        exact ⟨1, rfl, .inl ⟨rfl, w, by omega, w1, w2, w3, g3⟩⟩
      · rw [if_pos g1]
        refine next fun x x1 x2 x3 x4 => g2 fun y y1 y2 y3 => ?_
        rcases x4.2 y y1 y2 y3 with a | a
        · exact .inl a
        · refine .inr fun q => a ((M.hi x y).mpr ?_)
          rw [x1, ← w4]; exact (M.hi w y).mp q
    · rw [if_neg (fun q => cb ((shr_bit (lt30 hc) (by omega)).mp q))]
      exact next fun w w1 w2 w3 w4 => cb ((c3 t).mpr ⟨w, w2, w3, w4.1, w1⟩)
theorem isRefutedC {h : PH} {G : Gh} {D : Mdl} {P R : Nat → Prop} {nr : Nat} {inf' k0' : Nat → Prop} {B : Nat → Nat → Prop} {p : Nat} (M : BM h G D P R nr inf' k0' B) (n30 : nr ≤ 30) (hp : p < 600) : ∃ x, fX5_isRefuted h (G.jd 0) (nI p) = some x ∧ Tf x (reS D P R p) := by
  have S := M.s
  have J := M.j
  have hq := xor1_lt hp
  obtain ⟨l, l1, l2, l3⟩ := M.lv p hp
  obtain ⟨c, c1, c2, c3⟩ := M.pv _ hq
  obtain ⟨s, s1, s2, s3⟩ := M.st
  rw [fX5_isRefuted, fX5_isRefuted_0, oC_d (S.jt0 J), S.jr649 J, oN_v, oC_d (S.jt13 J), S.jn13 J, oC_t (ix_n hp (by decide)), nI_clamp (show p < 2147483648 by omega), l1, s1, nI_and (lt30 l2) (lt30 s2)]
  by_cases ez : l &&& s = 0
  · rw [if_pos ((z_eq (and30 l2)).mpr ez)]
    refine ⟨1, rfl, .inl ⟨rfl, .inl fun y y1 y2 y3 => ?_⟩⟩
    by_cases bk : blk D R y
    · exact bk
    · have hy : D.ho y := by
        by_cases q : D.ho y
        · exact q
        · exact absurd (.inl q) bk
      have o := M.ho y y1 hy
      exact absurd ⟨(l3 _).mpr ⟨y, y1, y2, bk, rfl⟩, (s3 _).mpr ⟨o.1, o.2, (M.k0 y).mp y3⟩⟩ (and_ne.mp ez (y / 125))
  · rw [if_neg (fun q => ez ((z_eq (and30 l2)).mp q)), S.jr648 J, oN_v, oC_d (S.jt12 J), S.jn12 J, nI_xor1 hp, oC_t (ix_n hq (by decide)), nI_clamp (show p ^^^ 1 < 2147483648 by omega), c1, oL_v]
    obtain ⟨x, x1, x2⟩ := ir27 M n30 hp c2 c3 30 0 99969 (by omega)
    refine ⟨x, x1, x2.iff ⟨fun ⟨w, _, w1, w2, w3⟩ => .inr ⟨w, w1, w2, w3⟩, fun q => ?_⟩⟩
    rcases q with q | ⟨w, w1, w2, w3⟩
    · refine absurd (and_ne.mpr fun t ht => ?_) ez
      obtain ⟨y, y1, y2, y3, y4⟩ := (l3 t).mp ht.1
      exact y3 (q y y1 y2 ((M.k0 y).mpr (by rw [y4]; exact ((s3 t).mp ht.2).2.2)))
    · exact ⟨w, Nat.zero_le _, w1, w2, w3⟩
