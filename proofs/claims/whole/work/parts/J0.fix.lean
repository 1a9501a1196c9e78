/-! what is proved, what is refuted: the least of it -/
def Mdl : Type := (List Nat) × (Nat → Prop) × (Nat → Nat) × (Nat → Prop) × (Nat → Nat → Prop) × (Nat → Nat → Prop) × (Nat → Prop) × (Nat → Prop)
def Mdl.ins (X_ : Mdl) : List Nat := X_.1
def Mdl.k0 (X_ : Mdl) : Nat → Prop := X_.2.1
def Mdl.hd (X_ : Mdl) : Nat → Nat := X_.2.2.1
def Mdl.ho (X_ : Mdl) : Nat → Prop := X_.2.2.2.1
def Mdl.lt (X_ : Mdl) : Nat → Nat → Prop := X_.2.2.2.2.1
def Mdl.hi (X_ : Mdl) : Nat → Nat → Prop := X_.2.2.2.2.2.1
def Mdl.fa (X_ : Mdl) : Nat → Prop := X_.2.2.2.2.2.2.1
def Mdl.li (X_ : Mdl) : Nat → Prop := X_.2.2.2.2.2.2.2
def Mdl.mk (ins_ : List Nat) (k0_ : Nat → Prop) (hd_ : Nat → Nat) (ho_ : Nat → Prop) (lt_ : Nat → Nat → Prop) (hi_ : Nat → Nat → Prop) (fa_ : Nat → Prop) (li_ : Nat → Prop) : Mdl := (ins_, k0_, hd_, ho_, lt_, hi_, fa_, li_)
def apl (D : Mdl) (P : Nat → Prop) (x : Nat) : Prop := D.ho x ∧ ∀ l, D.lt x l → P l
def blk (D : Mdl) (R : Nat → Prop) (x : Nat) : Prop := ¬ D.ho x ∨ ∃ l, D.lt x l ∧ R l
/-- an instance of a rule that gives p, and that applies -/
def byR (D : Mdl) (P : Nat → Prop) (p y : Nat) : Prop := y ∈ D.ins ∧ D.hd y = p ∧ D.k0 y ∧ apl D P y
def prS (D : Mdl) (P R : Nat → Prop) (p : Nat) : Prop := (∃ y, byR D P p y) ∧ ∀ x, x ∈ D.ins → D.hd x = p ^^^ 1 → blk D R x ∨ ∃ y, byR D P p y ∧ D.hi y x
def agR (D : Mdl) (P R : Nat → Prop) (p x : Nat) : Prop := apl D P x ∧ ∀ y, y ∈ D.ins → D.hd y = p → D.k0 y → blk D R y ∨ ¬ D.hi y x
def reS (D : Mdl) (P R : Nat → Prop) (p : Nat) : Prop := (∀ y, y ∈ D.ins → D.hd y = p → D.k0 y → blk D R y) ∨ ∃ x, x ∈ D.ins ∧ D.hd x = p ^^^ 1 ∧ agR D P R p x
def prv (D : Mdl) (P R : Nat → Prop) (p : Nat) : Prop := D.fa p ∨ (¬ D.fa (p ^^^ 1) ∧ prS D P R p)
def ref (D : Mdl) (P R : Nat → Prop) (p : Nat) : Prop := ¬ D.fa p ∧ (D.fa (p ^^^ 1) ∨ reS D P R p)
theorem apl.mono {D : Mdl} {P P' : Nat → Prop} (m : ∀ p, P p → P' p) {x : Nat} (a : apl D P x) : apl D P' x := ⟨a.1, fun l hl => m l (a.2 l hl)⟩
theorem blk.mono {D : Mdl} {P P' : Nat → Prop} (m : ∀ p, P p → P' p) {x : Nat} (a : blk D P x) : blk D P' x := by
  rcases a with a | ⟨l, h1, h2⟩
  · exact .inl a
  · exact .inr ⟨l, h1, m l h2⟩
theorem byR.mono {D : Mdl} {P P' : Nat → Prop} (m : ∀ p, P p → P' p) {p y : Nat} (a : byR D P p y) : byR D P' p y := ⟨a.1, a.2.1, a.2.2.1, a.2.2.2.mono m⟩
theorem agR.mono {D : Mdl} {P R P' R' : Nat → Prop} (m : ∀ p, P p → P' p) (k : ∀ p, R p → R' p) {p x : Nat} (a : agR D P R p x) : agR D P' R' p x := by
  refine ⟨a.1.mono m, fun y h1 h2 h3 => ?_⟩
  rcases a.2 y h1 h2 h3 with b | b
  · exact .inl (b.mono k)
  · exact .inr b
theorem prv.mono {D : Mdl} {P R P' R' : Nat → Prop} (m : ∀ p, P p → P' p) (k : ∀ p, R p → R' p) {p : Nat} (a : prv D P R p) : prv D P' R' p := by
  rcases a with a | ⟨a, ⟨y, b⟩, c⟩
  · exact .inl a
  · refine .inr ⟨a, ⟨y, b.mono m⟩, fun x h1 h2 => ?_⟩
    rcases c x h1 h2 with d | ⟨w, d, e⟩
    · exact .inl (d.mono k)
    · exact .inr ⟨w, d.mono m, e⟩
theorem ref.mono {D : Mdl} {P R P' R' : Nat → Prop} (m : ∀ p, P p → P' p) (k : ∀ p, R p → R' p) {p : Nat} (a : ref D P R p) : ref D P' R' p := by
  obtain ⟨a, b⟩ := a
  refine ⟨a, ?_⟩
  rcases b with b | b | ⟨x, h1, h2, h3⟩
  · exact .inl b
  · exact .inr (.inl fun y h1 h2 h3 => (b y h1 h2 h3).mono k)
  · exact .inr (.inr ⟨x, h1, h2, h3.mono m k⟩)
def Exc (P R : Nat → Prop) : Prop := ∀ p, P p → R p → False
theorem apl_blk {D : Mdl} {P R : Nat → Prop} (e : Exc P R) {x : Nat} (a : apl D P x) (b : blk D R x) : False := by
  rcases b with b | ⟨l, h1, h2⟩
  · exact b a.1
  · exact e l (a.2 l h1) h2
/-- nothing is proved and refuted -/
theorem prv_ref {D : Mdl} {P R : Nat → Prop} (e : Exc P R) {p : Nat} (a : prv D P R p) (b : ref D P R p) : False := by
  obtain ⟨b1, b2⟩ := b
  rcases a with a | ⟨a, ⟨y, hy⟩, c⟩
  · exact b1 a
  · rcases b2 with b | b | ⟨x, h1, h2, h3, h4⟩
    · exact a b
    · exact apl_blk e hy.2.2.2 (b y hy.1 hy.2.1 hy.2.2.1)
    · rcases c x h1 h2 with d | ⟨w, d, f⟩
      · exact apl_blk e h3 d
      · rcases h4 w d.1 d.2.1 d.2.2.1 with g | g
        · exact apl_blk e d.2.2.2 g
        · exact g f
def Pre (D : Mdl) (P R : Nat → Prop) : Prop := (∀ p, D.li p → prv D P R p → P p) ∧ ∀ p, D.li p → ref D P R p → R p
def LfP (D : Mdl) (p : Nat) : Prop := ∀ P R, Pre D P R → P p
def LfR (D : Mdl) (p : Nat) : Prop := ∀ P R, Pre D P R → R p
theorem L_pre (D : Mdl) : Pre D (LfP D) (LfR D) :=
  ⟨fun p hl a P R k => k.1 p hl (a.mono (fun q hq => hq P R k) fun q hq => hq P R k), fun p hl a P R k => k.2 p hl (a.mono (fun q hq => hq P R k) fun q hq => hq P R k)⟩
def Goo (D : Mdl) (P : Nat → Prop) (R : Nat → Prop) : Prop := (∀ p, P p → LfP D p) ∧ (∀ p, R p → LfR D p) ∧ (Exc P R) ∧ (∀ p, P p → prv D P R p) ∧ (∀ p, R p → ref D P R p)
theorem Goo.pl {D : Mdl} {P : Nat → Prop} {R : Nat → Prop} (X_ : Goo D P R) : ∀ p, P p → LfP D p := X_.1
theorem Goo.rl {D : Mdl} {P : Nat → Prop} {R : Nat → Prop} (X_ : Goo D P R) : ∀ p, R p → LfR D p := X_.2.1
theorem Goo.ex {D : Mdl} {P : Nat → Prop} {R : Nat → Prop} (X_ : Goo D P R) : Exc P R := X_.2.2.1
theorem Goo.pp {D : Mdl} {P : Nat → Prop} {R : Nat → Prop} (X_ : Goo D P R) : ∀ p, P p → prv D P R p := X_.2.2.2.1
theorem Goo.rr {D : Mdl} {P : Nat → Prop} {R : Nat → Prop} (X_ : Goo D P R) : ∀ p, R p → ref D P R p := X_.2.2.2.2
theorem Goo.mk {D : Mdl} {P : Nat → Prop} {R : Nat → Prop} (pl_ : ∀ p, P p → LfP D p) (rl_ : ∀ p, R p → LfR D p) (ex_ : Exc P R) (pp_ : ∀ p, P p → prv D P R p) (rr_ : ∀ p, R p → ref D P R p) : Goo D P R := ⟨pl_, rl_, ex_, pp_, rr_⟩
theorem Goo.start {D : Mdl} (fl : ∀ p, D.fa p → D.li p) {P R : Nat → Prop} (hp : ∀ p, P p ↔ D.fa p) (hr : ∀ p, ¬ R p) : Goo D P R := by
  apply Goo.mk
  · exact fun p a => (L_pre D).1 p (fl p ((hp p).mp a)) (.inl ((hp p).mp a))
  · exact fun p a => absurd a (hr p)
  · exact fun p _ b => hr p b
  · exact fun p a => .inl ((hp p).mp a)
  · exact fun p a => absurd a (hr p)
theorem Goo.step {D : Mdl} {P R P' R' : Nat → Prop} (g : Goo D P R) (hp : ∀ p, P' p ↔ P p ∨ (D.li p ∧ prv D P R p)) (hr : ∀ p, R' p ↔ R p ∨ (D.li p ∧ ref D P R p)) : Goo D P' R' := by
  have mp : ∀ p, P p → P' p := fun p a => (hp p).mpr (.inl a)
  have mr : ∀ p, R p → R' p := fun p a => (hr p).mpr (.inl a)
  have ap : ∀ p, P' p → prv D P R p := fun p a => by
    rcases (hp p).mp a with b | b
    · exact g.pp p b
    · exact b.2
  have ar : ∀ p, R' p → ref D P R p := fun p a => by
    rcases (hr p).mp a with b | b
    · exact g.rr p b
    · exact b.2
  apply Goo.mk
  · intro p a
    rcases (hp p).mp a with b | b
    · exact g.pl p b
    · exact (L_pre D).1 p b.1 (b.2.mono g.pl g.rl)
  · intro p a
    rcases (hr p).mp a with b | b
    · exact g.rl p b
    · exact (L_pre D).2 p b.1 (b.2.mono g.pl g.rl)
  · exact fun p a b => prv_ref g.ex (ap p a) (ar p b)
  · exact fun p a => (ap p a).mono mp mr
  · exact fun p a => (ar p a).mono mp mr
/-- no change: the least -/
theorem Goo.fin {D : Mdl} {P R : Nat → Prop} (g : Goo D P R) (k : Pre D P R) : (∀ p, P p ↔ LfP D p) ∧ (∀ p, R p ↔ LfR D p) ∧ Exc (LfP D) (LfR D) := by
  have a : ∀ p, P p ↔ LfP D p := fun p => ⟨g.pl p, fun q => q P R k⟩
  have b : ∀ p, R p ↔ LfR D p := fun p => ⟨g.rl p, fun q => q P R k⟩
  exact ⟨a, b, fun p x y => g.ex p ((a p).mpr x) ((b p).mpr y)⟩
/-- the class's marks -/
def Mrk (D : Mdl) (P : Nat → Prop) (R : Nat → Prop) : Prop := (∀ p, P p → LfP D p) ∧ (∀ p, R p → LfR D p) ∧ (∀ p, D.fa p → P p) ∧ (∀ p, D.li p → D.fa (p ^^^ 1) → R p)
theorem Mrk.pl {D : Mdl} {P : Nat → Prop} {R : Nat → Prop} (X_ : Mrk D P R) : ∀ p, P p → LfP D p := X_.1
theorem Mrk.rl {D : Mdl} {P : Nat → Prop} {R : Nat → Prop} (X_ : Mrk D P R) : ∀ p, R p → LfR D p := X_.2.1
theorem Mrk.fp {D : Mdl} {P : Nat → Prop} {R : Nat → Prop} (X_ : Mrk D P R) : ∀ p, D.fa p → P p := X_.2.2.1
theorem Mrk.fr {D : Mdl} {P : Nat → Prop} {R : Nat → Prop} (X_ : Mrk D P R) : ∀ p, D.li p → D.fa (p ^^^ 1) → R p := X_.2.2.2
theorem Mrk.mk {D : Mdl} {P : Nat → Prop} {R : Nat → Prop} (pl_ : ∀ p, P p → LfP D p) (rl_ : ∀ p, R p → LfR D p) (fp_ : ∀ p, D.fa p → P p) (fr_ : ∀ p, D.li p → D.fa (p ^^^ 1) → R p) : Mrk D P R := ⟨pl_, rl_, fp_, fr_⟩
theorem Mrk.step {D : Mdl} {P R P' R' : Nat → Prop} (g : Mrk D P R) (mp : ∀ p, P p → P' p) (mr : ∀ p, R p → R' p) (hp : ∀ p, P' p → P p ∨ (D.li p ∧ prv D P R p)) (hr : ∀ p, R' p → R p ∨ (D.li p ∧ ref D P R p)) : Mrk D P' R' := by
  apply Mrk.mk
  · intro p a
    rcases hp p a with b | b
    · exact g.pl p b
    · exact (L_pre D).1 p b.1 (b.2.mono g.pl g.rl)
  · intro p a
    rcases hr p a with b | b
    · exact g.rl p b
    · exact (L_pre D).2 p b.1 (b.2.mono g.pl g.rl)
  · exact fun p a => mp p (g.fp p a)
  · exact fun p a b => mr p (g.fr p a b)
theorem Mrk.fin {D : Mdl} {P R : Nat → Prop} (g : Mrk D P R) (ex : Exc (LfP D) (LfR D)) (k : ∀ p, D.li p → ¬ P p → ¬ R p → ¬ prv D P R p ∧ ¬ ref D P R p) : (∀ p, P p ↔ LfP D p) ∧ ∀ p, R p ↔ LfR D p := by
  have pr : Pre D P R := by
    constructor
    · intro p hl a
      by_cases c : P p
      · exact c
      by_cases d : R p
      · exact absurd (g.rl p d) fun q => ex p ((L_pre D).1 p hl (a.mono g.pl g.rl)) q
      · exact absurd a (k p hl c d).1
    · intro p hl a
      by_cases d : R p
      · exact d
      by_cases c : P p
      · exact absurd (g.pl p c) fun q => ex p q ((L_pre D).2 p hl (a.mono g.pl g.rl))
      · exact absurd a (k p hl c d).2
  exact ⟨fun p => ⟨g.pl p, fun q => q P R pr⟩, fun p => ⟨g.rl p, fun q => q P R pr⟩⟩
