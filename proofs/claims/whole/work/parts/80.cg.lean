-- needs: 63 70 71 72 73 74 75 76 77 78 79
def upO (ow : Nat → Nat) (a v : Nat) : Nat → Nat := fun x => if x = a then v else ow x
theorem upO_n {ow : Nat → Nat} {a v x : Nat} (h : x ≠ a) : upO ow a v x = ow x := if_neg h
theorem upO_s {ow : Nat → Nat} {a v : Nat} : upO ow a v a = v := if_pos rfl
theorem RuR.cg {h : PH} {u : MS} {G G' : Gh} {z : Sz} {r : Nat} (e1 : G'.pg = G.pg) (e2 : G'.rl = G.rl) (e3 : G'.hd = G.hd) (e4 : G'.cd = G.cd) (e6 : G'.nc = G.nc) (K : RuR h u G z r) : RuR h u G' z r := by
  unfold RuR CdR HdR PgR at *
  rw [e1, e2, e3, e4, e6]
  exact K
theorem KR.cg {h : PH} {u : MS} {G G' : Gh} {z : Sz} (e1 : G'.pg = G.pg) (e2 : G'.rl = G.rl) (e3 : G'.hd = G.hd) (e4 : G'.cd = G.cd) (e5 : G'.nr = G.nr) (e6 : G'.nc = G.nc) (K : KR h u G z) : KR h u G' z :=
  ⟨by rw [e5]; exact K.nrG, K.pn, K.wn, K.pl, K.sn, K.lw, K.rn, fun i hi => (K.ru i hi).cg e1 e2 e3 e4 e6, K.ov, K.ln⟩
theorem RmR.cg {h : PH} {u : MS} {G G' : Gh} {z : Sz} (e1 : G'.pg = G.pg) (e2 : G'.kd = G.kd) (e3 : G'.st = G.st) (e4 : G'.vl = G.vl) (K : RmR h u G z) : RmR h u G' z :=
  ⟨by rw [e2, e3]; exact K.k1, by rw [e2, e4]; exact K.k2, by rw [e2]; exact K.k3, by rw [e1]; exact K.p1, by rw [e1]; exact K.p2, by rw [e1]; exact K.p3, K.p4, K.p5, K.kc, K.km⟩
theorem TpR.cg {h : PH} {u : MS} {G G' : Gh} (e : G'.tk = G.tk) (K : TpR h u G) : TpR h u G' :=
  ⟨by rw [e]; exact K.ex, by rw [e]; exact K.bt, by rw [e]; exact K.hn, by rw [e]; exact K.ok⟩
theorem OuR.cg {h : PH} {u : MS} {G G' : Gh} (e : G'.wk = G.wk) (K : OuR h u G) : OuR h u G' :=
  ⟨by rw [e]; exact K.ex, by rw [e]; exact K.bt, by rw [e]; exact K.hn, by rw [e]; exact K.ok⟩
theorem TeR.cg {h : PH} {u : MS} {G G' : Gh} {z : Sz} (e : G'.te = G.te) (e2 : G'.nt = G.nt) (K : TeR h u G z) : TeR h u G' z :=
  ⟨by rw [e2]; exact K.n1, by rw [e2]; exact K.n2, by rw [e, e2]; exact K.te⟩
theorem JR.cg {h : PH} {u : MS} {G G' : Gh} {z : Sz} {jp jw js : Nat} (e : G'.jd = G.jd) (K : JR h u G z jp jw js) : JR h u G' z jp jw js := by
  apply JR.mk <;> try rw [e]
  · exact K.lp
  · exact K.lw
  · exact K.ls
  · exact K.p1
  · exact K.p2
  · exact K.w1
  · exact K.w2
  · exact K.s1
  · exact K.s2
  · exact K.mr
  · exact K.nm
  · exact K.rs
  · exact K.t0
  · exact K.t1
  · exact K.t2
  · exact K.t3
  · exact K.su
  · exact K.sz
theorem JS.cg {h : PH} {G G' : Gh} (e : G'.jd = G.jd) (K : JS h G) : JS h G' := by
  apply JS.mk <;> rw [e]
  · exact K.wh
  · exact K.k1
  · exact K.k2
  · exact K.k3
  · exact K.k4
  · exact K.bt
theorem IvJ.cg {h : PH} {u : MS} {G G' : Gh} {z : Sz} (e : G'.jj = G.jj) (e2 : G'.jd = G.jd) (K : IvJ h u G z) : IvJ h u G' z := by
  unfold IvJ at *
  rw [e]
  rcases K with K | ⟨j, k, l, a, b, c, K⟩
  · exact .inl K
  · exact .inr ⟨j, k, l.cg e2, a, b, c, K.cg e2⟩
/-- an object of the groups of the structure is no new one -/
theorem SX.lt {h : PH} {G : Gh} (S : SX h G) {a k : Nat} (e : hT h a = k) (hk : k ≠ 0) : a < hZ h := lt_T S.fr e hk
theorem wT_tk (G : Gh) (te : Nat → Nat) (nt : Nat) (ow : Nat → Nat) : (G.wT te nt ow).tk = G.tk := rfl
theorem wK_tk (G : Gh) (tk wk : Nat) (ow : Nat → Nat) : (G.wK tk wk ow).tk = tk := rfl
theorem wT_wk (G : Gh) (te : Nat → Nat) (nt : Nat) (ow : Nat → Nat) : (G.wT te nt ow).wk = G.wk := rfl
theorem wK_wk (G : Gh) (tk wk : Nat) (ow : Nat → Nat) : (G.wK tk wk ow).wk = wk := rfl
theorem wT_kd (G : Gh) (te : Nat → Nat) (nt : Nat) (ow : Nat → Nat) : (G.wT te nt ow).kd = G.kd := rfl
theorem wK_kd (G : Gh) (tk wk : Nat) (ow : Nat → Nat) : (G.wK tk wk ow).kd = G.kd := rfl
theorem wT_st (G : Gh) (te : Nat → Nat) (nt : Nat) (ow : Nat → Nat) : (G.wT te nt ow).st = G.st := rfl
theorem wK_st (G : Gh) (tk wk : Nat) (ow : Nat → Nat) : (G.wK tk wk ow).st = G.st := rfl
theorem wT_vl (G : Gh) (te : Nat → Nat) (nt : Nat) (ow : Nat → Nat) : (G.wT te nt ow).vl = G.vl := rfl
theorem wK_vl (G : Gh) (tk wk : Nat) (ow : Nat → Nat) : (G.wK tk wk ow).vl = G.vl := rfl
theorem wT_pg (G : Gh) (te : Nat → Nat) (nt : Nat) (ow : Nat → Nat) : (G.wT te nt ow).pg = G.pg := rfl
theorem wK_pg (G : Gh) (tk wk : Nat) (ow : Nat → Nat) : (G.wK tk wk ow).pg = G.pg := rfl
theorem wT_rl (G : Gh) (te : Nat → Nat) (nt : Nat) (ow : Nat → Nat) : (G.wT te nt ow).rl = G.rl := rfl
theorem wK_rl (G : Gh) (tk wk : Nat) (ow : Nat → Nat) : (G.wK tk wk ow).rl = G.rl := rfl
theorem wT_ca (G : Gh) (te : Nat → Nat) (nt : Nat) (ow : Nat → Nat) : (G.wT te nt ow).ca = G.ca := rfl
theorem wK_ca (G : Gh) (tk wk : Nat) (ow : Nat → Nat) : (G.wK tk wk ow).ca = G.ca := rfl
theorem wT_hd (G : Gh) (te : Nat → Nat) (nt : Nat) (ow : Nat → Nat) : (G.wT te nt ow).hd = G.hd := rfl
theorem wK_hd (G : Gh) (tk wk : Nat) (ow : Nat → Nat) : (G.wK tk wk ow).hd = G.hd := rfl
theorem wT_cd (G : Gh) (te : Nat → Nat) (nt : Nat) (ow : Nat → Nat) : (G.wT te nt ow).cd = G.cd := rfl
theorem wK_cd (G : Gh) (tk wk : Nat) (ow : Nat → Nat) : (G.wK tk wk ow).cd = G.cd := rfl
theorem wT_nr (G : Gh) (te : Nat → Nat) (nt : Nat) (ow : Nat → Nat) : (G.wT te nt ow).nr = G.nr := rfl
theorem wK_nr (G : Gh) (tk wk : Nat) (ow : Nat → Nat) : (G.wK tk wk ow).nr = G.nr := rfl
theorem wT_nc (G : Gh) (te : Nat → Nat) (nt : Nat) (ow : Nat → Nat) : (G.wT te nt ow).nc = G.nc := rfl
theorem wK_nc (G : Gh) (tk wk : Nat) (ow : Nat → Nat) : (G.wK tk wk ow).nc = G.nc := rfl
theorem wT_te (G : Gh) (te : Nat → Nat) (nt : Nat) (ow : Nat → Nat) : (G.wT te nt ow).te = te := rfl
theorem wK_te (G : Gh) (tk wk : Nat) (ow : Nat → Nat) : (G.wK tk wk ow).te = G.te := rfl
theorem wT_nt (G : Gh) (te : Nat → Nat) (nt : Nat) (ow : Nat → Nat) : (G.wT te nt ow).nt = nt := rfl
theorem wK_nt (G : Gh) (tk wk : Nat) (ow : Nat → Nat) : (G.wK tk wk ow).nt = G.nt := rfl
theorem wT_jj (G : Gh) (te : Nat → Nat) (nt : Nat) (ow : Nat → Nat) : (G.wT te nt ow).jj = G.jj := rfl
theorem wK_jj (G : Gh) (tk wk : Nat) (ow : Nat → Nat) : (G.wK tk wk ow).jj = G.jj := rfl
theorem wT_jd (G : Gh) (te : Nat → Nat) (nt : Nat) (ow : Nat → Nat) : (G.wT te nt ow).jd = G.jd := rfl
theorem wK_jd (G : Gh) (tk wk : Nat) (ow : Nat → Nat) : (G.wK tk wk ow).jd = G.jd := rfl
theorem wT_ow (G : Gh) (te : Nat → Nat) (nt : Nat) (ow : Nat → Nat) : (G.wT te nt ow).ow = ow := rfl
theorem wK_ow (G : Gh) (tk wk : Nat) (ow : Nat → Nat) : (G.wK tk wk ow).ow = ow := rfl
