/-! THE CLAIM OUT OF ONE WALK OF THE LAW'S BODY. Your part is whole_start (and what it stands on); all else here is the same for every law, but numbers. -/
theorem rmC {n : Nat} (h : n ≤ 540000) : n ≤ room_1.cells := Nat.le_trans h (by decide)
theorem rmS {n : Nat} (h : n ≤ 6000000) : n ≤ room_1.slots := Nat.le_trans h (by decide)
def R_law : String := "StatuteBenchLaw"
def lw_P (b : Addr) (xs : List Int32) (args : Array Value) (s : State) : Prop := args = #[.ref b] ∧ s.IntsAt b xs ∧ xs.length ≤ 4096 ∧ (Jvm.Cond.and given_1 narrow_1).before args s = true
def lw_Q (_ : Array Value) (s : State) (o : Outcome) (t : State) : Prop := o = .returned (some (.int 1)) ∧ Framed s o t [] room_1.cells room_1.slots
def lw_Z (below : List Frame) (a : Array Value) (s : State) : State → Prop := fun t => ∃ o, t.status = .running ∧ Ended t below o ∧ lw_Q a s o t
/-- the law's own end, with 1 on the stack, nothing written that was there before, its room as the claim has it -/
theorem lw_ret {p : Program} {l : Launch} {e : Env} {s : State} {m : MethodId} {below : List Frame} {meth : Method} {c : Code} {b : Nat} (hx : p.tables.exec = Jvm.exec) (hb : c.code = code) (hr : meth.sig.returnType = ret) (hlocks : meth.locks = false) {pc : Nat} {H : Heap} {ls : Array Slot} (hdg : decode code pc = .ok (.ireturn, 1)) : W p l e room_1 s m #[Value.ref b] below meth c H [] room_1.cells room_1.slots (lw_Z below #[Value.ref b] s) (F0 m pc ls [.int 1]) := by
  intro T hT X
  obtain ⟨fs, hret, hrun, hended, hW, hframe⟩ := X.leave (v := some (.int 1)) (hlocks := hlocks) (fun h => by rw [hr] at h; cases h)
  have hmeth' : T.vm.method? m = some meth := X.method'
  refine ⟨T.setFrames fs, ?_, .returned (some (.int 1)), hrun, hended, rfl, ⟨_, rfl⟩, hW, hframe⟩
  jvm_step X.here [X.here.top, hx, hb, hdg, hmeth', hr, ret, narrow_b1]
  (try refine ⟨rfl, ?_⟩); (try refine ⟨rfl, ?_⟩)
  first | (intro acts; rw [hret _ acts rfl rfl rfl]) | rw [hret _ _ rfl rfl rfl]
  exact Steps.refl _
/-- what holds at the law's entry: the machine, the code, the tables' words (any of lw_tbl by 'hts w (by decide +kernel)'), the script of L ints xs at the cell b, what the Statement gives of the start (any of its parts by flat_of_before) -/
def lw_At (p : Program) (s : State) (m : MethodId) (meth : Method) (c : Code) (b L : Nat) (xs : Nat → Int32) : Prop :=
  p.tables.exec = Jvm.exec ∧ c.code = code ∧ meth.sig.returnType = ret ∧ c.maxLocals = 4 ∧ s.vm.findClass R_law = some m.cls ∧ (∀ w ∈ lw_tbl, w.before #[Value.ref b] s = true) ∧ va_X b L xs s s.heap ∧ b < s.heap.size ∧ meth.locks = false ∧ (Jvm.Cond.and given_1 narrow_1).before #[Value.ref b] s = true
def bo (v : Int32) : Int32 := if v = 0 then 0 else 1
/-- the class's cells: n0 of them, then the reference's 78, then its own again -/
def aX (S n0 : Nat) (i : Nat) : Nat := if i < n0 then S + i else if i < n0 + 78 then S else S + i
def aM (S n0 : Nat) (k : Nat) : Nat := if k < 116 then S + n0 + 1 + mcnt k else S + n0
def adM (S n0 z : Nat) (k : Nat) : Nat := if k = 117 then z else aM S n0 k
theorem mcnt_le : ∀ k, k < 116 → mcnt k ≤ 76 := by decide +kernel
theorem aM_in {S n0 k : Nat} : S + n0 ≤ aM S n0 k ∧ aM S n0 k < S + n0 + 78 := by
  unfold aM
  by_cases h : k < 116
  · have := mcnt_le k h
    rw [if_pos h]; omega
  · rw [if_neg h]; omega
theorem aX_out {S n0 i : Nat} (h0 : 0 < n0) : aX S n0 i < S + n0 ∨ S + n0 + 78 ≤ aX S n0 i := by
  unfold aX
  by_cases h1 : i < n0
  · rw [if_pos h1]; omega
  · rw [if_neg h1]
    by_cases h2 : i < n0 + 78
    · rw [if_pos h2]; omega
    · rw [if_neg h2]; omega
theorem aX_ge {S n0 i : Nat} : S ≤ aX S n0 i := by
  unfold aX
  by_cases h1 : i < n0
  · rw [if_pos h1]; omega
  · rw [if_neg h1]
    by_cases h2 : i < n0 + 78
    · rw [if_pos h2]; omega
    · rw [if_neg h2]; omega
theorem GR.cong {D : va_G} {aC : Nat → ClassId} {ad ad' : Nat → Nat} {w w' : GW} {H : Heap} (h : GR D aC ad w H) (hw : w' = w) (ha : ∀ i x, w i = some x → ad' i = ad i) : GR D aC ad' w' H := by
  subst hw
  refine ⟨fun i c V hi => ?_, fun i k n V hi => ?_, fun i j x y hi hj he => ?_⟩
  · rw [ha i _ hi]; exact h.1 i c V hi
  · rw [ha i _ hi]; exact h.2.1 i k n V hi
  · rw [ha i _ hi, ha j _ hj] at he; exact h.2.2 i j x y hi hj he
theorem wM_some {u : MS} {ad : Nat → Nat} {i : Nat} {x} (h : wM u ad i = some x) : i = 116 ∨ mk i = 2 := by
  unfold wM at h
  by_cases h1 : i = 116
  · exact Or.inl h1
  · rw [if_neg h1] at h
    by_cases h2 : mk i = 2
    · exact Or.inr h2
    · rw [if_neg h2] at h; cases h
theorem adM_z {S n0 z z' i : Nat} (h : i = 116 ∨ mk i = 2) : adM S n0 z' i = adM S n0 z i := by
  have h7 : i ≠ 117 := by
    rcases h with h | h
    · omega
    · have := mk_lt h; omega
  unfold adM
  rw [if_neg h7, if_neg h7]
theorem mk_012 (k : Nat) : mk k = 0 ∨ mk k = 1 ∨ mk k = 2 := by
  unfold mk
  split <;> simp
theorem wM_z {u : MS} {S n0 z z' : Nat} : wM u (adM S n0 z') = wM u (adM S n0 z) := by
  funext i
  unfold wM
  have e : mfv u (adM S n0 z') = mfv u (adM S n0 z) := by
    funext k
    unfold mfv
    by_cases hk : mk k = 2
    · rw [hk]
      exact congrArg Value.ref (adM_z (Or.inr hk))
    · rcases mk_012 k with q | q | q
      · rw [q]; rfl
      · rw [q]; rfl
      · exact absurd q hk
  rw [e]
theorem EM_keep {D : va_G} {aC : Nat → ClassId} {S n0 : Nat} {u : MS} {H H1 : Heap} (h : EM D aC (adM S n0 H.size) u H) (h0 : 0 < n0) (hk : ∀ q : Nat, q < H.size → ¬ Rg (aX S n0) q → H1[q]? = H[q]?) : EM D aC (adM S n0 H1.size) u H1 := by
  refine ⟨GR.cong (h.1.keep (fun i x hi => hk _ (h.1.lt hi) ?_)) wM_z (fun i x hi => adM_z (wM_some hi)), rfl⟩
  rintro ⟨j, hj⟩
  have h7 : i ≠ 117 := by
    rcases wM_some hi with q | q
    · omega
    · have := mk_lt q; omega
  have e : adM S n0 H.size i = aM S n0 i := if_neg h7
  rw [e] at hj
  have g1 := aM_in (S := S) (n0 := n0) (k := i)
  have g2 := aX_out (S := S) (i := j) h0
  omega
theorem EX_keep {D : va_G} {aC : Nat → ClassId} {S n0 : Nat} {h : PH} {H H1 : Heap} (hE : EX D aC (aX S n0) h H) (h0 : 0 < n0) (hz : H1.size = H.size) (hk : ∀ q : Nat, q < H.size → ¬ Rg (adM S n0 H.size) q → H1[q]? = H[q]?) : EX D aC (aX S n0) h H1 := by
  refine ⟨hE.1.keep (fun i x hi => hk _ (hE.1.lt hi) ?_), hz.trans hE.2.1, hE.2.2⟩
  have hl := hE.1.lt hi
  rintro ⟨j, hj⟩
  unfold adM at hj
  by_cases h7 : j = 117
  · rw [if_pos h7] at hj; omega
  · rw [if_neg h7] at hj
    have g1 := aM_in (S := S) (n0 := n0) (k := j)
    have g2 := aX_out (S := S) (i := i) h0
    omega
/-- the law's state: class and reference side by side, all of it new since the law began -/
def LE (D : va_G) (aC : Nat → ClassId) (n0 : Nat) (h : PH) (u : MS) (s : State) (H : Heap) (locs : List Loc) : Prop :=
  EX D aC (aX s.heap.size n0) h H ∧ EM D aC (adM s.heap.size n0 H.size) u H ∧ va_S (fun q => s.heap.size ≤ q) s.heap H locs
theorem nI_plus (i k : Nat) : nI (i + k) = nI i + nI k := by
  induction k with
  | zero => show nI i = nI i + 0; simp
  | succ k ih => rw [← Nat.add_assoc, nI_succ, ih, nI_succ, Int32.add_assoc]
theorem lgc0 (x : Int64) : lg_cmp x x = 0 := by
  unfold lg_cmp
  simp
section LAWR
variable {p : Program} {l : Launch} {e : Env} {R : Room} {s : State} {m : MethodId} {args : Array Value} {below : List Frame} {meth : Method} {c : Code} {H : Heap} {locs : List Loc} {cells slots : Nat} {Q : State → Prop}
variable {cc : ByteArray} {pc nL : Nat} {ls : Array Slot} {rest : List Value} {D : va_G} {aC : Nat → ClassId} {own : String}
theorem kl_go {E' : Heap → Prop} {A1 : Nat → Prop} {mc ms : Nat} {vo : Option Value} {st0 : List Value} {a : Array Value} (hr : va_Run p l e R s m args below meth c H locs cells slots mc ms (F0 m pc ls st0) rest (PQ E' A1 vo a) A1) (hS : va_S (fun q => s.heap.size ≤ q) s.heap H locs) (hA : ∀ q, A1 q → s.heap.size ≤ q)
    (kk : ∀ (H1 : Heap) (locs1 : List Loc), E' H1 → va_S (fun q => s.heap.size ≤ q) s.heap H1 locs1 → H.size ≤ H1.size → (∀ q : Nat, q < H.size → ¬ A1 q → H1[q]? = H[q]?) → W p l e R s m args below meth c H1 locs1 (cells + mc) (slots + ms) Q (F0 m (pc + 3) ls (vo.toList ++ rest))) : W p l e R s m args below meth c H locs cells slots Q (F0 m pc ls st0) := by
  intro T hT X
  obtain ⟨v, st₀, t, T', L, h0, X', hL, e1, e2, ⟨hv, hb, hz, hk⟩, st⟩ := hr T hT X
  cases hv
  rw [h0] at hz hk
  obtain ⟨t2, a1, b1⟩ := kk T'.heap (locs ++ L) (by rw [e1]; exact hb) ⟨Nat.le_trans hS.1 (by rw [e1]; exact hz), fun q h1 h2 => by rw [e1, hk q (Nat.lt_of_lt_of_le h1 hS.1) (fun z => h2 (hA q z))]; exact hS.2.1 q h1 h2, fun q hq => by
      rcases List.mem_append.mp hq with h | h
      · exact hS.2.2 q h
      · exact hA _ (hL q h)⟩ (by rw [e1]; exact hz) (fun q h1 h2 => by rw [e1]; exact hk q h1 h2) T' rfl X'
  exact ⟨t2, st t2 a1, b1⟩
theorem zs_law {adK adV : Nat → Nat} {A : Nat → Prop} (zs : ZS adK adV A s) (hS : va_S (fun q => s.heap.size ≤ q) s.heap H locs) {U : State} (hU : U.heap = H) (hW : s.WarmedH U.vm) : ZS adK adV A U := by
  refine ZS_ok s U H [] zs ⟨hS.1, fun q h1 _ => hS.2.1 q h1 (Nat.not_le.mpr h1), fun q hq => by cases hq⟩ hU hW
variable {y : MethodName} {bytes : ByteArray} {maxL F L mc ms index n n0 : Nat} {ret : Option FieldType} {h h' : PH} {u u' : MS} {As st0 : List Value} {vo : Option Value} {adK adV : Nat → Nat}
theorem kl_callX (b : Bd p s m c cc nL own D aC) (h0 : 0 < n0) (zs : ZS adK adV (Rg (aX s.heap.size n0)) s) (hE : LE D aC n0 h u s H locs) (ht : hT h 0 = 12) (hM : CM l D aC (ZS adK adV (Rg (aX s.heap.size n0))) y bytes maxL ret F L mc ms (EX D aC (aX s.heap.size n0) h) (.ref (aX s.heap.size n0 0) :: As) (EX D aC (aX s.heap.size n0) h') vo (Rg (aX s.heap.size n0))) (hcode : Cond.code y bytes maxL ret ∈ tbl) (hl : Cond.methodLink own index y ∈ tbl) (hinst : Cond.instanceMethod y ∈ tbl) (hsel : Cond.selects RX11 y y ∈ tbl) (hini : Cond.initialized y.cls ∈ tbl) (hy : okY y n)
    (hR : F + 1 ≤ R.frames ∧ 8 + (maxL + 11) + L ≤ R.locals) (hn : As.length = n) (hls : ls.size = nL) (hst : st0 = As.reverse ++ .ref (aX s.heap.size n0 0) :: rest) (hW : (rest.map fun v => v.category).sum ≤ 8) (hf : cells + mc ≤ R.cells ∧ slots + ms ≤ R.slots) (hdg : decode cc pc = .ok (.invokevirtual index, 3))
    (kk : ∀ (H1 : Heap) (locs1 : List Loc), LE D aC n0 h' u s H1 locs1 → W p l e R s m args below meth c H1 locs1 (cells + mc) (slots + ms) Q (F0 m (pc + 3) ls (vo.toList ++ rest))) : W p l e R s m args below meth c H locs cells slots Q (F0 m pc ls st0) := by
  obtain ⟨hx, hb, hml, hown, hSK⟩ := id b
  have hT := hSK.1
  have hr : ∃ cellB : Cell, H[aX s.heap.size n0 0]? = some cellB ∧ cellB.vm.isStatics = false ∧ s.vm.findClass RX11 = some cellB.cls := by
    obtain ⟨r, h1, cell, g1, g2, g3, -⟩ := hE.1.1.1 0 _ _ (wX_o (c := 11) ht (by decide))
    exact ⟨cell, g1, by rw [g3]; rfl, by rw [g2]; exact (hSK.2.1.1 11 _ rfl).2.1⟩
  refine kl_go (va_runV (C := RX11) (Ts := tbl) ⟨hx, hb, hml, hown, hT.ts args⟩ hM ⟨callB_of n (hT.ts args) (good1 hcode rfl) rfl rfl rfl (hT _ hini args) (hT _ hl args) hy hR, hT _ hinst args, hT _ hsel args⟩ ⟨PP.blind ZS_ok, hr, fun U hU hW => ⟨rfl, hSK.warm hW, zs_law zs hE.2.2 hU hW, by rw [hU]; exact hE.1⟩⟩ rfl hn hls hst (lv_room hW) hdg hf) hE.2.2 (fun q hq => by obtain ⟨i, rfl⟩ := hq; exact aX_ge) (fun H1 locs1 g1 g2 g3 g4 => kk H1 locs1 ⟨g1, EM_keep hE.2.1 h0 g4, g2⟩)
theorem kl_callM (b : Bd p s m c cc nL own D aC) (h0 : 0 < n0) (hE : LE D aC n0 h u s H locs) (hM : CM l D aC (fun _ => True) y bytes maxL ret F L 0 0 (EM D aC (adM s.heap.size n0 H.size) u) (.ref (adM s.heap.size n0 H.size 116) :: As) (EM D aC (adM s.heap.size n0 H.size) u') vo (Rg (adM s.heap.size n0 H.size))) (hcode : Cond.code y bytes maxL ret ∈ tbl) (hl : Cond.methodLink own index y ∈ tbl) (hinst : Cond.instanceMethod y ∈ tbl) (hsel : Cond.selects RX12 y y ∈ tbl) (hini : Cond.initialized y.cls ∈ tbl) (hy : okY y n)
    (hR : F + 1 ≤ R.frames ∧ 8 + (maxL + 11) + L ≤ R.locals) (hn : As.length = n) (hls : ls.size = nL) (hst : st0 = As.reverse ++ .ref (aM s.heap.size n0 116) :: rest) (hW : (rest.map fun v => v.category).sum ≤ 8) (hf : cells + 0 ≤ R.cells ∧ slots + 0 ≤ R.slots) (hdg : decode cc pc = .ok (.invokevirtual index, 3))
    (kk : ∀ (H1 : Heap) (locs1 : List Loc), LE D aC n0 h u' s H1 locs1 → W p l e R s m args below meth c H1 locs1 cells slots Q (F0 m (pc + 3) ls (vo.toList ++ rest))) : W p l e R s m args below meth c H locs cells slots Q (F0 m pc ls st0) := by
  obtain ⟨hx, hb, hml, hown, hSK⟩ := id b
  have hT := hSK.1
  have e0 : adM s.heap.size n0 H.size 116 = aM s.heap.size n0 116 := rfl
  have hr : ∃ cellB : Cell, H[adM s.heap.size n0 H.size 116]? = some cellB ∧ cellB.vm.isStatics = false ∧ s.vm.findClass RX12 = some cellB.cls := by
    obtain ⟨r, h1, cell, g1, g2, g3, -⟩ := hE.2.1.1.1 116 _ _ wM_o
    exact ⟨cell, g1, by rw [g3]; rfl, by rw [g2]; exact (hSK.2.1.1 12 _ rfl).2.1⟩
  have hzk : ZOK (fun _ => True) (Rg (adM s.heap.size n0 H.size)) := fun _ _ _ _ _ _ _ _ => trivial
  have hge : ∀ q, Rg (adM s.heap.size n0 H.size) q → s.heap.size ≤ q := by
    rintro q ⟨i, rfl⟩
    unfold adM
    by_cases h7 : i = 117
    · rw [if_pos h7]; exact hE.2.2.1
    · rw [if_neg h7]
      have := aM_in (S := s.heap.size) (n0 := n0) (k := i)
      omega
  refine kl_go (va_runV (C := RX12) (Ts := tbl) ⟨hx, hb, hml, hown, hT.ts args⟩ hM ⟨callB_of n (hT.ts args) (good1 hcode rfl) rfl rfl rfl (hT _ hini args) (hT _ hl args) hy hR, hT _ hinst args, hT _ hsel args⟩ ⟨PP.blind hzk, hr, fun U hU hW => ⟨rfl, hSK.warm hW, trivial, by rw [hU]; exact hE.2.1⟩⟩ rfl hn hls hst (lv_room hW) hdg hf) hE.2.2 hge (fun H1 locs1 g1 g2 g3 g4 => ?_)
  have hz : H1.size = H.size := g1.2
  exact kk H1 locs1 ⟨EX_keep hE.1 h0 hz g4, by rw [hz]; exact g1, g2⟩
theorem lw_arg (b : Bd p s m c cc nL own D aC) {bb Ln : Nat} {xs : Nat → Int32} (hX : va_X bb Ln xs s s.heap) (hbl : bb < s.heap.size) (hS : va_S (fun q => s.heap.size ≤ q) s.heap H locs) {lv : List (Nat × Value)} (hl : lv_has ls nL lv) {j0 j3 i : Nat} (h0 : lv[j0]? = some (0, .ref bb)) (h3 : lv[j3]? = some (3, .int (nI i))) (k : Nat) (hik : i + k < Ln) (hLn : Ln ≤ 4096) {ki : Int32} (hki : ki = nI k) {q1 q2 q3 : Nat}
    (d0 : decode cc pc = .ok (.aload_n 0, 1)) (d1 : decode cc (pc + 1) = .ok (.iload_n 3, 1)) (hkk : ∀ rest : List Value, W p l e R s m args below meth c H locs cells slots Q (F0 m q1 ls (.int ki :: rest)) → W p l e R s m args below meth c H locs cells slots Q (F0 m (pc + 2) ls rest)) (d3 : decode cc q1 = .ok (.iadd, 1)) (hq2 : q1 + 1 = q2) (d4 : decode cc q2 = .ok (.iaload, 1)) (hq3 : q2 + 1 = q3)
    (kk : W p l e R s m args below meth c H locs cells slots Q (F0 m q3 ls (.int (xs (i + k)) :: rest))) : W p l e R s m args below meth c H locs cells slots Q (F0 m pc ls rest) := by
  subst hq2; subst hq3; subst hki
  refine lv_aload_n b.1 b.2.1 d0 rfl (lv_at hl j0 h0) ?_
  refine lv_iload_n b.1 b.2.1 d1 rfl (lv_at hl j3 h3) ?_
  refine hkk _ ?_
  refine lv_iadd b.1 b.2.1 d3 ?_
  refine k_nmI (x := nI (i + k)) (nI_plus i k) ?_
  refine va_sld b.1 b.2.1 hX hbl (Nat.not_le.mpr hbl) hS (vp_in_nI hik (by omega)) d4 ?_
  rw [nI_clamp (show i + k < 2 ^ 31 by omega)]
  exact kk
theorem lw_bool (b : Bd p s m c cc nL own D aC) {v : Int32} {q3 q4 q7 q8 : Nat} (d0 : decode cc pc = .ok (.ifCond .eq 7, 3)) (hq3 : pc + 3 = q3) (hq7 : pc + 7 = q7) (d3 : decode cc q3 = .ok (.iconst 1, 1)) (hq4 : q3 + 1 = q4) (d4 : decode cc q4 = .ok (.goto 4, 3)) (hq8 : pc + 8 = q8) (d7 : decode cc q7 = .ok (.iconst 0, 1))
    (kk : W p l e R s m args below meth c H locs cells slots Q (F0 m q8 ls (.int (bo v) :: rest))) : W p l e R s m args below meth c H locs cells slots Q (F0 m pc ls (.int v :: rest)) := by
  subst hq3; subst hq4; subst hq7; subst hq8
  refine lv_if_eq (tgt := pc + 7) b.1 b.2.1 d0 (by omega) (fun c1 => ?_) (fun c1 => ?_)
  · refine lv_iconst (v := 0) b.1 b.2.1 d7 (by decide) ?_
    rw [show bo v = 0 from if_pos c1] at kk
    exact kk
  · refine lv_iconst (v := 1) b.1 b.2.1 d3 (by decide) ?_
    refine lv_goto (tgt := pc + 8) b.1 b.2.1 d4 (by omega) ?_
    rw [show bo v = 1 from if_neg c1] at kk
    exact kk
end LAWR
