/-- the class's heap before anything is made -/
def hi0 : PH := (fun _ _ => 0, fun _ _ => 0, fun _ _ => none, fun _ _ => 0, fun _ _ => 0, fun _ _ => none, fun _ => 0, fun _ => 0, 0)
/-- room for the reference's cells -/
def bump (h : PH) (n : Nat) : PH := (h.1, h.2.1, h.2.2.1, h.2.2.2.1, h.2.2.2.2.1, h.2.2.2.2.2.1, h.2.2.2.2.2.2.1, h.2.2.2.2.2.2.2.1, hZ h + n)
/-- its references lie below n -/
def RLo (h : PH) (n : Nat) : Prop := (∀ f a b, hR h f a = some b → b < n) ∧ ∀ a i b, hC h a i = some b → b < n
theorem wX_ad {h : PH} {ad ad' : Nat → Nat} {n : Nat} (hr : RLo h n) (ha : ∀ i, i < n → ad' i = ad i) : wX h ad' = wX h ad := by
  have e : ∀ x : Option Nat, (∀ b, x = some b → b < n) → va_rf (Option.map ad' x) = va_rf (Option.map ad x) := by
    intro x hx
    cases x with
    | none => rfl
    | some b => exact congrArg Value.ref (ha b (hx b rfl))
  funext i
  unfold wX
  have e1 : ∀ c, fv h ad' c i = fv h ad c i := fun c => funext fun k => by
    unfold fv fvk
    split
    · rfl
    · rfl
    · exact e _ (fun b hb => hr.1 _ _ b hb)
  have e2 : ∀ k, av h ad' k i = av h ad k i := fun k => by
    unfold av
    split
    · rfl
    · rfl
    · rfl
    · rfl
    · exact funext fun q => e _ (fun b hb => hr.2 _ _ b hb)
  rw [e1, e2]
theorem wX_bump {h : PH} {ad : Nat → Nat} {n : Nat} : wX (bump h n) ad = wX h ad := funext fun j => wX_eq rfl (fun c => funext fun k => by unfold fv fvk; split <;> rfl) rfl (fun k => by unfold av; split <;> rfl)
section ST0
variable {p : Program} {l : Launch} {e : Env} {R : Room} {s : State} {m : MethodId} {args : Array Value} {below : List Frame} {meth : Method} {c : Code} {H : Heap} {locs : List Loc} {cells slots : Nat} {Q : State → Prop}
variable {cc : ByteArray} {pc nL : Nat} {ls : Array Slot} {rest : List Value} {D : va_G} {aC : Nat → ClassId} {ad : Nat → Nat} {h h1 : PH} {own : String}
theorem nL_7 (b : Bd p s m c cc nL R_law D aC) (hE : CE (EX D aC ad h) (Rg ad) s H locs) (hcells : cells + 1 ≤ R.cells) (hslots : slots + 9 ≤ R.slots) (e1 : h1 = nO h 12) (hdg : decode cc pc = .ok (.new 7, 3)) (kk : ∀ H1 : Heap, CE (EX D aC ad h1) (Rg ad) s H1 locs → W p l e R s m args below meth c H1 locs (cells + 1) (slots + 9) Q (F0 m (pc + 3) ls (.ref (ad (hZ h)) :: rest))) : W p l e R s m args below meth c H locs cells slots Q (F0 m pc ls rest) := by subst e1; exact x_new b hE (ci := 11) inX11 rfl tyX11 tyX11_ok (fun k hk => match k, hk with | 0, _ => dfR | 1, _ => dfR | 2, _ => dfR | 3, _ => dfR | 4, _ => dfR | 5, _ => dfI | 6, _ => dfI | 7, _ => dfI | 8, _ => dfR) (in1 22 rfl rfl) (in1 23 rfl rfl) ini_RX11 (by decide) hcells hslots hdg kk
theorem k_stkE {q : List Value} {a a' : Nat} (ex : a = a') (kk : W p l e R s m args below meth c H locs cells slots Q (F0 m pc ls (q ++ .ref a' :: rest))) : W p l e R s m args below meth c H locs cells slots Q (F0 m pc ls (q ++ .ref a :: rest)) := by subst ex; exact kk
theorem kl_callI {y : MethodName} {bytes : ByteArray} {maxL F L mc ms index n : Nat} {E E' : Heap → Prop} {A1 : Nat → Prop} {As st0 : List Value} {vo : Option Value} {ba : Nat} (b : Bd p s m c cc nL own D aC) (hE : E H) (hS : va_S (fun q => s.heap.size ≤ q) s.heap H locs) (hM : CM l D aC (fun _ => True) y bytes maxL none F L mc ms E (.ref ba :: As) E' vo A1) (hcode : Cond.code y bytes maxL none ∈ tbl) (hl : Cond.methodLink own index y ∈ tbl) (hinst : Cond.instanceMethod y ∈ tbl) (hini : Cond.initialized y.cls ∈ tbl) (hy1 : y.name = "<init>") (hy : okY y n)
    (hR : F + 1 ≤ R.frames ∧ 8 + (maxL + 11) + L ≤ R.locals) (hn : As.length = n) (hls : ls.size = nL) (hst : st0 = As.reverse ++ .ref ba :: rest) (hW : (rest.map fun v => v.category).sum ≤ 8) (hf : cells + mc ≤ R.cells ∧ slots + ms ≤ R.slots) (hA : ∀ q, A1 q → s.heap.size ≤ q) (hdg : decode cc pc = .ok (.invokespecial index, 3))
    (kk : ∀ (H1 : Heap) (locs1 : List Loc), E' H1 → va_S (fun q => s.heap.size ≤ q) s.heap H1 locs1 → H.size ≤ H1.size → (∀ q : Nat, q < H.size → ¬ A1 q → H1[q]? = H[q]?) → W p l e R s m args below meth c H1 locs1 (cells + mc) (slots + ms) Q (F0 m (pc + 3) ls (vo.toList ++ rest))) : W p l e R s m args below meth c H locs cells slots Q (F0 m pc ls st0) := by
  obtain ⟨hx, hb, hml, hown, hSK⟩ := id b
  have hT := hSK.1
  have hzk : ZOK (fun _ => True) A1 := fun _ _ _ _ _ _ _ _ => trivial
  exact kl_go (va_runI (Ts := tbl) ⟨hx, hb, hml, hown, hT.ts args⟩ hM ⟨callB_of n (hT.ts args) (good1 hcode rfl) rfl rfl rfl (hT _ hini args) (hT _ hl args) hy hR, hy1, hT _ hinst args⟩ ⟨PP.blind hzk, fun U hU hW => ⟨rfl, hSK.warm hW, trivial, by rw [hU]; exact hE⟩⟩ rfl hn hls hst (lv_room hW) hdg hf) hS hA kk
end ST0
theorem dfM (k : Nat) (hk : k < 116) (ad : Nat → Nat) : defaultValue (tyX12 k) = mfc mz ad 0 k := by
  match k, hk with
  | 0, _ => rfl
  | 1, _ => rfl
  | 2, _ => rfl
  | 3, _ => rfl
  | 4, _ => rfl
  | 5, _ => rfl
  | 6, _ => rfl
  | 7, _ => rfl
  | 8, _ => rfl
  | 9, _ => rfl
  | 10, _ => rfl
  | 11, _ => rfl
  | 12, _ => rfl
  | 13, _ => rfl
  | 14, _ => rfl
  | 15, _ => rfl
  | 16, _ => rfl
  | 17, _ => rfl
  | 18, _ => rfl
  | 19, _ => rfl
  | 20, _ => rfl
  | 21, _ => rfl
  | 22, _ => rfl
  | 23, _ => rfl
  | 24, _ => rfl
  | 25, _ => rfl
  | 26, _ => rfl
  | 27, _ => rfl
  | 28, _ => rfl
  | 29, _ => rfl
  | 30, _ => rfl
  | 31, _ => rfl
  | 32, _ => rfl
  | 33, _ => rfl
  | 34, _ => rfl
  | 35, _ => rfl
  | 36, _ => rfl
  | 37, _ => rfl
  | 38, _ => rfl
  | 39, _ => rfl
  | 40, _ => rfl
  | 41, _ => rfl
  | 42, _ => rfl
  | 43, _ => rfl
  | 44, _ => rfl
  | 45, _ => rfl
  | 46, _ => rfl
  | 47, _ => rfl
  | 48, _ => rfl
  | 49, _ => rfl
  | 50, _ => rfl
  | 51, _ => rfl
  | 52, _ => rfl
  | 53, _ => rfl
  | 54, _ => rfl
  | 55, _ => rfl
  | 56, _ => rfl
  | 57, _ => rfl
  | 58, _ => rfl
  | 59, _ => rfl
  | 60, _ => rfl
  | 61, _ => rfl
  | 62, _ => rfl
  | 63, _ => rfl
  | 64, _ => rfl
  | 65, _ => rfl
  | 66, _ => rfl
  | 67, _ => rfl
  | 68, _ => rfl
  | 69, _ => rfl
  | 70, _ => rfl
  | 71, _ => rfl
  | 72, _ => rfl
  | 73, _ => rfl
  | 74, _ => rfl
  | 75, _ => rfl
  | 76, _ => rfl
  | 77, _ => rfl
  | 78, _ => rfl
  | 79, _ => rfl
  | 80, _ => rfl
  | 81, _ => rfl
  | 82, _ => rfl
  | 83, _ => rfl
  | 84, _ => rfl
  | 85, _ => rfl
  | 86, _ => rfl
  | 87, _ => rfl
  | 88, _ => rfl
  | 89, _ => rfl
  | 90, _ => rfl
  | 91, _ => rfl
  | 92, _ => rfl
  | 93, _ => rfl
  | 94, _ => rfl
  | 95, _ => rfl
  | 96, _ => rfl
  | 97, _ => rfl
  | 98, _ => rfl
  | 99, _ => rfl
  | 100, _ => rfl
  | 101, _ => rfl
  | 102, _ => rfl
  | 103, _ => rfl
  | 104, _ => rfl
  | 105, _ => rfl
  | 106, _ => rfl
  | 107, _ => rfl
  | 108, _ => rfl
  | 109, _ => rfl
  | 110, _ => rfl
  | 111, _ => rfl
  | 112, _ => rfl
  | 113, _ => rfl
  | 114, _ => rfl
  | 115, _ => rfl
  | k + 116, h => exact absurd h (by omega)
set_option maxHeartbeats 8000000 in
set_option maxRecDepth 100000 in
/-- from the law's entry, given what the pure functions of the calls do -/
theorem start_of {p : Program} {e : Env} {s : State} {m : MethodId} {below : List Frame} {meth : Method} {c : Code} (l : Launch) {b L : Nat} {xs : Nat → Int32} (hL : L ≤ 4096) (C0 : lw_At p s m meth c b L xs) {h1 : PH} {u1 : MS} {k1 m1 n0 N : Nat} (hN : L < 8 * N + 8) (h0 : 0 < n0)
    (fx : fX11_init (nO hi0 12) 0 = some (h1, k1, m1)) (hn : hZ h1 = n0) (hrl : RLo h1 n0) (fm : fX12_init = some (u1, 0, 0)) (hk1 : k1 ≤ 1000) (hm1 : m1 ≤ 100000)
    {Inv : Nat → Nat → Nat → PH → MS → Prop} (hI : Inv N (0 + 1 + k1 + 1 + 77) (0 + 9 + m1 + 116 + 160182) (bump h1 78) u1) (hBd : SP_bd Inv) (hNo : SP_no Inv) (s_feed : SP_feed Inv) (s_back : SP_back Inv) (s_read : SP_read Inv) (s_place : SP_place Inv) (s_clock : SP_clock Inv) (s_testify : SP_testify Inv) (s_number : SP_number Inv) (s_judge : SP_judge Inv) (s_status : SP_status Inv) (s_why : SP_why Inv) (s_sum : SP_sum Inv) (s_text : SP_text Inv) (s_out : SP_out Inv) (s_rule : SP_rule Inv) (s_law : SP_law Inv) (s_above : SP_above Inv) (s_count : SP_count Inv) : W p l e room_1 s m #[Value.ref b] below meth c s.heap [] 0 0 (lw_Z below #[Value.ref b] s) (entryFrame m ([Value.ref b] : List Value).toArray 4) := by
  obtain ⟨hx, hb, hr, hml, hown, hts, hX, hbl, hlocks, hgv⟩ := id C0
  obtain ⟨D, aC, hSK⟩ := start_SK hts
  have bd : Bd p s m c code 4 R_law D aC := ⟨hx, hb, hml, hown, hSK⟩
  have hTB := hSK.1
  obtain ⟨adK, adV, zs⟩ := start_ZS (A := Rg (aX s.heap.size n0)) hgv hts (fun a ha => by rintro ⟨i, rfl⟩; exact absurd ha (Nat.not_lt.mpr aX_ge))
  -- while the class is made, its cells lie side by side
  obtain ⟨a1, ea1⟩ : ∃ a1 : Nat → Nat, a1 = fun i => s.heap.size + i := ⟨_, rfl⟩
  have ea : ∀ i, a1 i = s.heap.size + i := fun i => by rw [ea1]
  have zs1 : ZS adK adV (Rg a1) s := by
    obtain ⟨adK', adV', z'⟩ := start_ZS (A := Rg a1) hgv hts (fun a ha => by rintro ⟨i, rfl⟩; rw [ea] at ha; omega)
    obtain ⟨⟨q1, q2⟩, g2, g3, r⟩ := zs
    have hA : ∀ a : Nat, a < s.heap.size → ¬ Rg a1 a := fun a ha => by rintro ⟨i, rfl⟩; rw [ea] at ha; omega
    exact ⟨⟨fun i hi => ⟨by obtain ⟨cell, w1, w2, w3, -⟩ := (q1 i hi).1; exact ⟨cell, w1, w2, w3, hA _ (Array.getElem?_eq_some_iff.mp w1).1⟩, by obtain ⟨w1, w2, w3, w4, w5, w6, w7, w8, w9, w10, -⟩ := (q1 i hi).2.1; exact ⟨w1, w2, w3, w4, w5, w6, w7, w8, w9, w10, hA _ (Array.getElem?_eq_some_iff.mp w8).1⟩, by obtain ⟨w1, w2, w3, w4, w5, w6, w7, w8, w9, w10, -⟩ := (q1 i hi).2.2.1; exact ⟨w1, w2, w3, w4, w5, w6, w7, w8, w9, w10, hA _ (Array.getElem?_eq_some_iff.mp w8).1⟩, by obtain ⟨cell, w1, w2, w3, w4, w5, w6, -⟩ := (q1 i hi).2.2.2; exact ⟨cell, w1, w2, w3, w4, w5, w6, hA _ (Array.getElem?_eq_some_iff.mp w1).1⟩⟩, q2⟩, by obtain ⟨w1, w2, w3, w4, w5, w6, w7, w8, w9, w10, w11, w12, w13, -⟩ := g2; exact ⟨w1, w2, w3, w4, w5, w6, w7, w8, w9, w10, w11, w12, w13, hA _ (Array.getElem?_eq_some_iff.mp w11).1⟩, z'.2.2.1, r⟩
  have hE0 : CE (EX D aC a1 hi0) (Rg a1) s s.heap [] := by
    refine ⟨⟨⟨fun i c V h => ?_, fun i k n V h => ?_, fun i j x y h => ?_⟩, ?_, fun i _ => ?_, fun i _ => rfl⟩, va_S.rf⟩
    · unfold wX at h; rw [if_pos (show hT hi0 i = 0 from rfl)] at h; cases h
    · unfold wX at h; rw [if_pos (show hT hi0 i = 0 from rfl)] at h; cases h
    · unfold wX at h; rw [if_pos (show hT hi0 i = 0 from rfl)] at h; cases h
    · rw [ea]; rfl
    · rw [ea, ea]; omega
  refine k_ent (Nat.le_of_ble_eq_true rfl) (fun ls hl => ?_)
  refine nL_7 (h1 := nO hi0 12) bd hE0 (Nat.le_of_ble_eq_true rfl) (Nat.le_of_ble_eq_true rfl) rfl dL_law_0 (fun H hE => ?_)
  have hE : CE (EX D aC a1 (nO hi0 12)) (Rg a1) s H [] := hE
  have e0 : a1 (hZ hi0) = a1 0 := rfl
  refine lv_dup bd.1 bd.2.1 dL_law_3 rfl ?_
  refine k_callI bd zs1 ZS_ok hE (CX11_init l D aC a1 ZS_ok (fun _ z => z) fx) mc_X11_init (in1 24 rfl rfl) mi_X11_init ini_RX11 rfl ok_X11_init ⟨Nat.le_of_ble_eq_true rfl, Nat.le_of_ble_eq_true rfl⟩ rfl hl.1 rfl (k_room _ (by exact Nat.le_of_ble_eq_true rfl)) ⟨(rmC (show 0 + 1 + k1 ≤ 540000 by omega)), (rmS (show 0 + 9 + m1 ≤ 6000000 by omega))⟩ dL_law_4 (fun H locs hE => ?_)
  refine lv_astore_n (lv' := [(1, .ref (a1 0)), (0, .ref b)]) bd.1 bd.2.1 dL_law_7 rfl hl (by decide) rfl (fun ls hl => ?_)
  have hS1 : va_S (fun q => s.heap.size ≤ q) s.heap H locs := ⟨hE.2.1, fun q g1 g2 => hE.2.2.1 q g1 (fun z => g2 (by obtain ⟨i, rfl⟩ := z; rw [ea]; omega)), fun q hq => by obtain ⟨i, hi⟩ := hE.2.2.2 q hq; rw [hi, ea]; omega⟩
  have hz1 : H.size = s.heap.size + n0 := by have := hE.1.2.1; rw [hn, ea] at this; exact this
  -- the reference
  refine W.newcK bd.1 bd.2.1 hown (hTB _ (in5 188 rfl rfl) _) (hTB _ (in5 189 rfl rfl) _) (hTB _ ini_RX12 _) rfl dL_law_8 (rmC (show 0 + 1 + k1 + 1 ≤ 540000 by omega)) (rmS (show 0 + 9 + m1 + 116 ≤ 6000000 by omega)) (hSK.2.1.1 12 _ rfl).2.1 rfl (fun H2 kC hkC e1 z1 o1 => ?_)
  obtain ⟨a2, ea2⟩ : ∃ a2 : Nat → Nat, a2 = adM s.heap.size n0 (s.heap.size + n0 + 78) := ⟨_, rfl⟩
  have e116 : a2 116 = H.size := by rw [ea2, hz1]; rfl
  have had : ∀ k, mk k = 2 → a2 k = (s.heap.size + n0 + 1) + mcnt k := by
    intro k hk
    have hk2 := mk_lt hk
    rw [ea2]
    unfold adM aM
    rw [if_neg (by omega), if_pos hk2]
  have hob : t_OB H.size (D.1 12) 116 (D.2 12) H2 (mfc mz a2 0) := by
    refine (u_born tyX12 (hTB.ts #[Value.ref b]) inX12 (hSK.2.1.1 12 _ rfl) hkC e1 tyX12_ok).to (fun k hk => ?_)
    exact dfM k hk a2
  have hEc : EMc D aC a2 (s.heap.size + n0 + 1) mz 0 0 H2 := by
    refine ⟨⟨fun i c V h => ?_, fun i k n V h => ?_, fun i j x y hi hj he => ?_⟩, ?_⟩
    · unfold wMc at h
      by_cases h1 : i = 116
      · rw [if_pos h1] at h; cases h; subst h1; rw [e116]; exact ⟨_, rfl, hob⟩
      · rw [if_neg h1, if_neg (fun z => Nat.not_lt_zero _ z.2)] at h; cases h
    · unfold wMc at h
      by_cases h1 : i = 116
      · rw [if_pos h1] at h; cases h
      · rw [if_neg h1, if_neg (fun z => Nat.not_lt_zero _ z.2)] at h; cases h
    · have w1 : ∀ i x, wMc mz a2 0 0 i = some x → i = 116 := by
        intro i x h
        unfold wMc at h
        by_cases h1 : i = 116
        · exact h1
        · rw [if_neg h1, if_neg (fun z => Nat.not_lt_zero _ z.2)] at h; cases h
      rw [w1 i x hi, w1 j y hj]
    · rw [z1, hz1]; rfl
  have hS2 : va_S (fun q => s.heap.size ≤ q) s.heap H2 locs := S_push hS1 z1 o1
  refine lv_dup bd.1 bd.2.1 dL_law_11 rfl ?_
  refine k_stkE (q := []) (a := H.size) (a' := a2 116) e116.symm ?_
  refine kl_callI bd (E := EMc D aC a2 (s.heap.size + n0 + 1) mz 0 0) hEc hS2 (CX12_init l D aC a2 (Z := fun _ => True) (fun _ _ _ _ _ _ _ _ => trivial) had (by rw [ea2]; rfl) fm) mc_X12_init (in5 190 rfl rfl) mi_X12_init ini_RX12 rfl ok_X12_init ⟨Nat.le_of_ble_eq_true rfl, Nat.le_of_ble_eq_true rfl⟩ rfl hl.1 rfl (k_room _ (by exact Nat.le_of_ble_eq_true rfl)) ⟨(rmC (show 0 + 1 + k1 + 1 + 77 ≤ 540000 by omega)), (rmS (show 0 + 9 + m1 + 116 + 160182 ≤ 6000000 by omega))⟩ (fun q hq => ?_) dL_law_12 (fun H3 locs3 hE3 hS3 hz3 hk3 => ?_)
  · obtain ⟨i, rfl⟩ := hq
    rw [ea2]
    unfold adM
    by_cases h7 : i = 117
    · rw [if_pos h7]; omega
    · rw [if_neg h7]; have := aM_in (S := s.heap.size) (n0 := n0) (k := i); omega
  refine k_stkE (q := []) (a := H.size) (a' := aM s.heap.size n0 116) (by rw [hz1]; rfl) ?_
  refine lv_astore_n (lv' := [(2, .ref (aM s.heap.size n0 116)), (1, .ref (a1 0)), (0, .ref b)]) bd.1 bd.2.1 dL_law_15 rfl hl (by decide) rfl (fun ls hl => ?_)
  refine lv_iconst (v := 0) bd.1 bd.2.1 dL_law_16 (by decide) ?_
  refine lv_istore_n (lv' := [(3, .int 0), (2, .ref (aM s.heap.size n0 116)), (1, .ref (a1 0)), (0, .ref b)]) bd.1 bd.2.1 dL_law_17 rfl hl (by decide) rfl (fun ls hl => ?_)
  have h3z : H3.size = s.heap.size + n0 + 78 := by have := hE3.2; rw [ea2] at this; exact this
  have hadx : ∀ i, i < n0 → aX s.heap.size n0 i = a1 i := fun i hi => by rw [ea]; unfold aX; rw [if_pos hi]
  have hLE : LE D aC n0 (bump h1 78) u1 s H3 locs3 := by
    refine ⟨⟨?_, ?_, fun i hi => ?_, fun i hi => ?_⟩, ?_, hS3⟩
    · rw [wX_bump]
      refine GR.cong (hE.1.1.keep (fun i x hx => ?_)) (wX_ad hrl hadx) (fun i x hx => ?_)
      · have hlt := hE.1.1.lt hx
        rw [hk3 _ (by omega) (fun z => ?_), o1 _ hlt]
        obtain ⟨j, hj⟩ := z
        rw [ea2] at hj
        unfold adM at hj
        by_cases h7 : j = 117
        · rw [if_pos h7] at hj; omega
        · rw [if_neg h7] at hj; have := aM_in (S := s.heap.size) (n0 := n0) (k := j); omega
      · refine hadx i (Nat.not_le.mp (fun q => ?_))
        have ht := hE.1.2.2.2 i (by rw [hn]; exact q)
        unfold wX at hx
        rw [if_pos ht] at hx
        cases hx
    · show H3.size = aX s.heap.size n0 (hZ h1 + 78)
      rw [h3z, hn]; unfold aX; rw [if_neg (by omega), if_neg (by omega)]; omega
    · have hi : hZ h1 + 78 ≤ i := hi
      rw [hn] at hi
      unfold aX
      rw [if_neg (by omega), if_neg (by omega), if_neg (by omega), if_neg (by omega)]; omega
    · have hi : hZ h1 + 78 ≤ i := hi
      exact hE.1.2.2.2 i (by omega)
    · rw [h3z, ← ea2]; exact hE3
  have ex0 : aX s.heap.size n0 0 = a1 0 := hadx 0 h0
  exact law_loop hL bd hr hlocks hX hbl h0 zs hBd hNo s_feed s_back s_read s_place s_clock s_testify s_number s_judge s_status s_why s_sum s_text s_out s_rule s_law s_above s_count N 0 (by omega) (by omega) _ _ _ _ hI H3 locs3 hLE ls (by rw [ex0]; exact lv_sub hl [3, 2, 1, 0] rfl)
