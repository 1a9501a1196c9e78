/-! the first state -/
def ow0 (a : Nat) : Nat := [0, 100001, 100002, 200001, 200002, 800005, 800006, 300007, 800008, 300009, 800010, 300011, 800012, 300013, 800014, 300015, 300016, 600017, 300018, 300019, 300020, 300021, 300104, 700023, 700024, 900025, 700101, 700102, 700103, 700029, 700030, 400000].getD a 0
def Gh0 : Gh := Gh.mk 2 4 26 27 28 22 (fun _ => 0) (fun _ => 0) (fun _ => 0) (fun _ _ => 0) 0 (fun _ => 0) (fun _ => 0) 0 false (fun _ => 0) ow0
def hF : PH := bump hX1 78
theorem hF_T (i : Nat) (h : 32 ≤ i) : hT hF i = 0 := by
  show List.getD _ i 0 = 0
  rw [List.getD_eq_getElem?_getD, List.getElem?_eq_none (by exact h)]
  rfl
theorem ss0 : SS' (hR hF) (hC hF) (hT hF) (hN hF) (hZ hF) ow0 := by
  apply SS'.mk
  · exact fun i hi => hF_T i (Nat.le_trans (by decide) hi)
  · exact Nat.le_refl _
  · rfl
  · rfl
  · rfl
  · rfl
  · rfl
  · rfl
  · rfl
  · rfl
  · rfl
  · rfl
  · rfl
  · rfl
  · rfl
  · rfl
  · rfl
  · rfl
  · rfl
  · rfl
  · rfl
  · rfl
  · rfl
  · rfl
  · rfl
  · rfl
  · rfl
  · rfl
  · rfl
  · rfl
  · rfl
  · rfl
  · rfl
  · rfl
  · rfl
  · rfl
  · rfl
  · rfl
  · rfl
  · rfl
  · rfl
  · rfl
  · rfl
  · rfl
  · rfl
  · rfl
  · rfl
  · rfl
  · rfl
  · rfl
  · rfl
  · rfl
  · rfl
  · rfl
  · rfl
  · rfl
  · rfl
  · rfl
  · rfl
  · rfl
  · rfl
  · rfl
  · rfl
  · rfl
  · rfl
  · rfl
  · rfl
  · rfl
  · rfl
  · rfl
  · rfl
  · rfl
  · rfl
  · rfl
  · rfl
  · rfl
  · rfl
  · rfl
  · rfl
  · rfl
  · rfl
  · rfl
  · rfl
  · rfl
  · rfl
  · rfl
  · rfl
  · rfl
  · rfl
  · rfl
  · rfl
  · rfl
  · rfl
  · rfl
  · rfl
theorem ru0 : RU' (hR hF) (hC hF) (hT hF) (hN hF) (hZ hF) ow0 Gh0.rl Gh0.ca Gh0.hd Gh0.cd Gh0.nr Gh0.nc := by
  apply RU'.mk
  · exact Nat.zero_le _
  · exact fun r hr => absurd hr (Nat.not_lt_zero _)
  · exact fun _ _ => rfl
  · exact fun r hr => absurd hr (Nat.not_lt_zero _)
  · exact fun r hr => absurd hr (Nat.not_lt_zero _)
  · exact fun r hr => absurd hr (Nat.not_lt_zero _)
  · exact fun r hr => absurd hr (Nat.not_lt_zero _)
  · exact fun r hr => absurd hr (Nat.not_lt_zero _)
  · exact fun r hr => absurd hr (Nat.not_lt_zero _)
  · exact fun r hr => absurd hr (Nat.not_lt_zero _)
  · exact fun r hr => absurd hr (Nat.not_lt_zero _)
  · exact fun r hr => absurd hr (Nat.not_lt_zero _)
  · exact fun r hr => absurd hr (Nat.not_lt_zero _)
  · exact fun r hr => absurd hr (Nat.not_lt_zero _)
  · exact fun r hr => absurd hr (Nat.not_lt_zero _)
  · exact fun r hr => absurd hr (Nat.not_lt_zero _)
  · exact fun r hr => absurd hr (Nat.not_lt_zero _)
theorem te0 : TE' (hR hF) (hC hF) (hT hF) (hN hF) (hZ hF) ow0 Gh0.te Gh0.nt := by
  apply TE'.mk
  · exact Nat.zero_le _
  · exact fun r hr => absurd hr (Nat.not_lt_zero _)
  · exact fun r hr => absurd hr (Nat.not_lt_zero _)
  · exact fun r hr => absurd hr (Nat.not_lt_zero _)
theorem ju0 : JU' (hR hF) (hC hF) (hT hF) (hN hF) (hZ hF) ow0 Gh0.jj Gh0.jd := by
  apply JU'.mk
  · exact fun _ => rfl
  · exact fun h => absurd h (by decide)
  · exact fun h => absurd h (by decide)
  · exact fun h => absurd h (by decide)
  · exact fun h => absurd h (by decide)
  · exact fun h => absurd h (by decide)
  · exact fun h => absurd h (by decide)
  · exact fun h => absurd h (by decide)
  · exact fun h => absurd h (by decide)
  · exact fun h => absurd h (by decide)
  · exact fun h => absurd h (by decide)
  · exact fun h => absurd h (by decide)
  · exact fun h => absurd h (by decide)
  · exact fun h => absurd h (by decide)
  · exact fun h => absurd h (by decide)
  · exact fun h => absurd h (by decide)
  · exact fun h => absurd h (by decide)
  · exact fun h => absurd h (by decide)
  · exact fun h => absurd h (by decide)
  · exact fun h => absurd h (by decide)
  · exact fun h => absurd h (by decide)
  · exact fun h => absurd h (by decide)
  · exact fun h => absurd h (by decide)
  · exact fun h => absurd h (by decide)
  · exact fun h => absurd h (by decide)
  · exact fun h => absurd h (by decide)
  · exact fun h => absurd h (by decide)
  · exact fun h => absurd h (by decide)
  · exact fun h => absurd h (by decide)
  · exact fun h => absurd h (by decide)
  · exact fun h => absurd h (by decide)
  · exact fun h => absurd h (by decide)
  · exact fun h => absurd h (by decide)
  · exact fun h => absurd h (by decide)
  · exact fun h => absurd h (by decide)
  · exact fun h => absurd h (by decide)
  · exact fun h => absurd h (by decide)
  · exact fun h => absurd h (by decide)
  · exact fun h => absurd h (by decide)
  · exact fun h => absurd h (by decide)
  · exact fun h => absurd h (by decide)
  · exact fun h => absurd h (by decide)
  · exact fun h => absurd h (by decide)
  · exact fun h => absurd h (by decide)
  · exact fun h => absurd h (by decide)
  · exact fun h => absurd h (by decide)
  · exact fun h => absurd h (by decide)
  · exact fun h => absurd h (by decide)
  · exact fun h => absurd h (by decide)
  · exact fun h => absurd h (by decide)
  · exact fun h => absurd h (by decide)
  · exact fun h => absurd h (by decide)
  · exact fun h => absurd h (by decide)
  · exact fun h => absurd h (by decide)
  · exact fun h => absurd h (by decide)
  · exact fun h => absurd h (by decide)
  · exact fun h => absurd h (by decide)
  · exact fun h => absurd h (by decide)
  · exact fun h => absurd h (by decide)
theorem sx0 : SX hF Gh0 := SX'.mk ss0 ru0 te0 ju0 ⟨rfl, rfl, rfl⟩ ⟨rfl, rfl, rfl⟩ ⟨rfl, rfl, rfl⟩ ⟨rfl, rfl, rfl⟩ ⟨rfl, rfl, rfl⟩ ⟨rfl, rfl, rfl⟩
def z00 : Sz := Sz.mk 0 0 0 0 0 0 0 0
theorem nz {P : Prop} {i : Nat} (h : i < 0) : P := absurd h (Nat.not_lt_zero i)
theorem iv0 : Iv hF (mU KM) Gh0 z00 := by
  apply Iv.mk
  · exact sx0
  · unfold Sz.ok; exact ⟨Nat.zero_le _, Nat.zero_le _, Nat.zero_le _, Nat.zero_le _, Nat.zero_le _, Nat.zero_le _⟩
  · exact ⟨rfl, rfl, rfl, rfl, rfl, rfl, rfl⟩
  · exact ⟨rfl, rfl, rfl, rfl, rfl, rfl, rfl⟩
  · exact ⟨rfl, rfl, rfl, rfl, rfl, rfl, rfl⟩
  · exact KR.mk (Nat.le_refl _) (fun i hi => nz hi) (fun i hi => nz hi) (fun i hi => nz hi) (fun i hi => nz hi) (fun i hi => nz hi) (fun i hi => nz hi) (fun i hi => nz hi) (fun i hi => nz hi) (fun i hi => nz hi)
  · exact RmR.mk rfl rfl (Nat.zero_le _) (Nat.zero_le _) (Nat.le_refl 16) (by show 16 ≤ 131072; omega) (Nat.zero_le _) (Nat.zero_le _) (fun _ _ => rfl) (fun _ _ => rfl)
  · exact TpR.mk ⟨0, Nat.zero_le _, Nat.zero_le _, rfl, rfl, fun i hi => nz hi⟩ (fun _ => bs_0) (Nat.zero_le _) (.inl rfl)
  · exact OuR.mk ⟨0, Nat.zero_le _, .inl (Nat.zero_le _), rfl, rfl, fun i hi => nz hi⟩ (fun _ => bs_0) (Nat.zero_le _) (.inl rfl)
  · exact ⟨0, Nat.zero_le _, rfl, rfl⟩
  · intro i hi
    exact ⟨rfl, by show (-999999 : Int32) ≤ 0; decide, by show (0 : Int32) ≤ 999999; decide, fun _ => rfl⟩
  · exact TeR.mk rfl rfl (fun k hk => nz hk)
  · rfl
  · exact .inl ⟨rfl, rfl, rfl, rfl, rfl, rfl⟩
theorem first_inv : Inv 512 (0 + 1 + 31 + 1 + 77) (0 + 9 + 428 + 116 + 160182) (bump hX1 78) (mU KM) := by
  refine ⟨Gh0, z00, iv0, ?_, ?_⟩
  · show 110 + 700 * 512 ≤ 365000 + pot hF Gh0
    have : 0 ≤ pot hF Gh0 := Nat.zero_le _
    omega
  · show 160735 + 8000 * 512 ≤ 5000000 + 3 * pot hF Gh0
    have : 0 ≤ pot hF Gh0 := Nat.zero_le _
    omega
theorem whole_start {p : Program} {e : Env} {s : State} {m : MethodId} {below : List Frame} {meth : Method} {c : Code} (l : Launch) {b L : Nat} {xs : Nat → Int32} (hL : L ≤ 4096) (C0 : lw_At p s m meth c b L xs) : W p l e room_1 s m #[Value.ref b] below meth c s.heap [] 0 0 (lw_Z below #[Value.ref b] s) (entryFrame m ([Value.ref b] : List Value).toArray 4) :=
  start_of l hL C0 (N := 512) (by omega) (by decide) i_class hX1_Z hX1_RL i_ref (by decide) (by decide) first_inv Inv_bd Inv_no sp_feed sp_back sp_read sp_place sp_clock sp_testify sp_number sp_judge sp_status sp_why sp_sum sp_text sp_out sp_rule sp_law sp_above sp_count
