theorem z_hI_sI (h : PH) (f a : Nat) (v : Int32) (f2 : Nat) (a2 : Nat) : hI (sI h f a v) f2 a2 = if f2 = f ∧ a2 = a then v else hI h f2 a2 := rfl
theorem z_hL_sI (h : PH) (f a : Nat) (v : Int32) (f2 : Nat) (a2 : Nat) : hL (sI h f a v) f2 a2 = hL h f2 a2 := rfl
theorem z_hR_sI (h : PH) (f a : Nat) (v : Int32) (f2 : Nat) (a2 : Nat) : hR (sI h f a v) f2 a2 = hR h f2 a2 := rfl
theorem z_hA_sI (h : PH) (f a : Nat) (v : Int32) (a2 : Nat) (i2 : Nat) : hA (sI h f a v) a2 i2 = hA h a2 i2 := rfl
theorem z_hB_sI (h : PH) (f a : Nat) (v : Int32) (a2 : Nat) (i2 : Nat) : hB (sI h f a v) a2 i2 = hB h a2 i2 := rfl
theorem z_hC_sI (h : PH) (f a : Nat) (v : Int32) (a2 : Nat) (i2 : Nat) : hC (sI h f a v) a2 i2 = hC h a2 i2 := rfl
theorem z_hT_sI (h : PH) (f a : Nat) (v : Int32) (a2 : Nat) : hT (sI h f a v) a2 = hT h a2 := rfl
theorem z_hN_sI (h : PH) (f a : Nat) (v : Int32) (a2 : Nat) : hN (sI h f a v) a2 = hN h a2 := rfl
theorem z_hZ_sI (h : PH) (f a : Nat) (v : Int32)  : hZ (sI h f a v) = hZ h := rfl
theorem z_hI_sL (h : PH) (f a : Nat) (v : Int64) (f2 : Nat) (a2 : Nat) : hI (sL h f a v) f2 a2 = hI h f2 a2 := rfl
theorem z_hL_sL (h : PH) (f a : Nat) (v : Int64) (f2 : Nat) (a2 : Nat) : hL (sL h f a v) f2 a2 = if f2 = f ∧ a2 = a then v else hL h f2 a2 := rfl
theorem z_hR_sL (h : PH) (f a : Nat) (v : Int64) (f2 : Nat) (a2 : Nat) : hR (sL h f a v) f2 a2 = hR h f2 a2 := rfl
theorem z_hA_sL (h : PH) (f a : Nat) (v : Int64) (a2 : Nat) (i2 : Nat) : hA (sL h f a v) a2 i2 = hA h a2 i2 := rfl
theorem z_hB_sL (h : PH) (f a : Nat) (v : Int64) (a2 : Nat) (i2 : Nat) : hB (sL h f a v) a2 i2 = hB h a2 i2 := rfl
theorem z_hC_sL (h : PH) (f a : Nat) (v : Int64) (a2 : Nat) (i2 : Nat) : hC (sL h f a v) a2 i2 = hC h a2 i2 := rfl
theorem z_hT_sL (h : PH) (f a : Nat) (v : Int64) (a2 : Nat) : hT (sL h f a v) a2 = hT h a2 := rfl
theorem z_hN_sL (h : PH) (f a : Nat) (v : Int64) (a2 : Nat) : hN (sL h f a v) a2 = hN h a2 := rfl
theorem z_hZ_sL (h : PH) (f a : Nat) (v : Int64)  : hZ (sL h f a v) = hZ h := rfl
theorem z_hI_sR (h : PH) (f a : Nat) (v : Option Nat) (f2 : Nat) (a2 : Nat) : hI (sR h f a v) f2 a2 = hI h f2 a2 := rfl
theorem z_hL_sR (h : PH) (f a : Nat) (v : Option Nat) (f2 : Nat) (a2 : Nat) : hL (sR h f a v) f2 a2 = hL h f2 a2 := rfl
theorem z_hR_sR (h : PH) (f a : Nat) (v : Option Nat) (f2 : Nat) (a2 : Nat) : hR (sR h f a v) f2 a2 = if f2 = f ∧ a2 = a then v else hR h f2 a2 := rfl
theorem z_hA_sR (h : PH) (f a : Nat) (v : Option Nat) (a2 : Nat) (i2 : Nat) : hA (sR h f a v) a2 i2 = hA h a2 i2 := rfl
theorem z_hB_sR (h : PH) (f a : Nat) (v : Option Nat) (a2 : Nat) (i2 : Nat) : hB (sR h f a v) a2 i2 = hB h a2 i2 := rfl
theorem z_hC_sR (h : PH) (f a : Nat) (v : Option Nat) (a2 : Nat) (i2 : Nat) : hC (sR h f a v) a2 i2 = hC h a2 i2 := rfl
theorem z_hT_sR (h : PH) (f a : Nat) (v : Option Nat) (a2 : Nat) : hT (sR h f a v) a2 = hT h a2 := rfl
theorem z_hN_sR (h : PH) (f a : Nat) (v : Option Nat) (a2 : Nat) : hN (sR h f a v) a2 = hN h a2 := rfl
theorem z_hZ_sR (h : PH) (f a : Nat) (v : Option Nat)  : hZ (sR h f a v) = hZ h := rfl
theorem z_hI_sA (h : PH) (a i : Nat) (v : Int32) (f2 : Nat) (a2 : Nat) : hI (sA h a i v) f2 a2 = hI h f2 a2 := rfl
theorem z_hL_sA (h : PH) (a i : Nat) (v : Int32) (f2 : Nat) (a2 : Nat) : hL (sA h a i v) f2 a2 = hL h f2 a2 := rfl
theorem z_hR_sA (h : PH) (a i : Nat) (v : Int32) (f2 : Nat) (a2 : Nat) : hR (sA h a i v) f2 a2 = hR h f2 a2 := rfl
theorem z_hA_sA (h : PH) (a i : Nat) (v : Int32) (a2 : Nat) (i2 : Nat) : hA (sA h a i v) a2 i2 = if a2 = a ∧ i2 = i then v else hA h a2 i2 := rfl
theorem z_hB_sA (h : PH) (a i : Nat) (v : Int32) (a2 : Nat) (i2 : Nat) : hB (sA h a i v) a2 i2 = hB h a2 i2 := rfl
theorem z_hC_sA (h : PH) (a i : Nat) (v : Int32) (a2 : Nat) (i2 : Nat) : hC (sA h a i v) a2 i2 = hC h a2 i2 := rfl
theorem z_hT_sA (h : PH) (a i : Nat) (v : Int32) (a2 : Nat) : hT (sA h a i v) a2 = hT h a2 := rfl
theorem z_hN_sA (h : PH) (a i : Nat) (v : Int32) (a2 : Nat) : hN (sA h a i v) a2 = hN h a2 := rfl
theorem z_hZ_sA (h : PH) (a i : Nat) (v : Int32)  : hZ (sA h a i v) = hZ h := rfl
theorem z_hI_sB (h : PH) (a i : Nat) (v : Int64) (f2 : Nat) (a2 : Nat) : hI (sB h a i v) f2 a2 = hI h f2 a2 := rfl
theorem z_hL_sB (h : PH) (a i : Nat) (v : Int64) (f2 : Nat) (a2 : Nat) : hL (sB h a i v) f2 a2 = hL h f2 a2 := rfl
theorem z_hR_sB (h : PH) (a i : Nat) (v : Int64) (f2 : Nat) (a2 : Nat) : hR (sB h a i v) f2 a2 = hR h f2 a2 := rfl
theorem z_hA_sB (h : PH) (a i : Nat) (v : Int64) (a2 : Nat) (i2 : Nat) : hA (sB h a i v) a2 i2 = hA h a2 i2 := rfl
theorem z_hB_sB (h : PH) (a i : Nat) (v : Int64) (a2 : Nat) (i2 : Nat) : hB (sB h a i v) a2 i2 = if a2 = a ∧ i2 = i then v else hB h a2 i2 := rfl
theorem z_hC_sB (h : PH) (a i : Nat) (v : Int64) (a2 : Nat) (i2 : Nat) : hC (sB h a i v) a2 i2 = hC h a2 i2 := rfl
theorem z_hT_sB (h : PH) (a i : Nat) (v : Int64) (a2 : Nat) : hT (sB h a i v) a2 = hT h a2 := rfl
theorem z_hN_sB (h : PH) (a i : Nat) (v : Int64) (a2 : Nat) : hN (sB h a i v) a2 = hN h a2 := rfl
theorem z_hZ_sB (h : PH) (a i : Nat) (v : Int64)  : hZ (sB h a i v) = hZ h := rfl
theorem z_hI_sC (h : PH) (a i : Nat) (v : Option Nat) (f2 : Nat) (a2 : Nat) : hI (sC h a i v) f2 a2 = hI h f2 a2 := rfl
theorem z_hL_sC (h : PH) (a i : Nat) (v : Option Nat) (f2 : Nat) (a2 : Nat) : hL (sC h a i v) f2 a2 = hL h f2 a2 := rfl
theorem z_hR_sC (h : PH) (a i : Nat) (v : Option Nat) (f2 : Nat) (a2 : Nat) : hR (sC h a i v) f2 a2 = hR h f2 a2 := rfl
theorem z_hA_sC (h : PH) (a i : Nat) (v : Option Nat) (a2 : Nat) (i2 : Nat) : hA (sC h a i v) a2 i2 = hA h a2 i2 := rfl
theorem z_hB_sC (h : PH) (a i : Nat) (v : Option Nat) (a2 : Nat) (i2 : Nat) : hB (sC h a i v) a2 i2 = hB h a2 i2 := rfl
theorem z_hC_sC (h : PH) (a i : Nat) (v : Option Nat) (a2 : Nat) (i2 : Nat) : hC (sC h a i v) a2 i2 = if a2 = a ∧ i2 = i then v else hC h a2 i2 := rfl
theorem z_hT_sC (h : PH) (a i : Nat) (v : Option Nat) (a2 : Nat) : hT (sC h a i v) a2 = hT h a2 := rfl
theorem z_hN_sC (h : PH) (a i : Nat) (v : Option Nat) (a2 : Nat) : hN (sC h a i v) a2 = hN h a2 := rfl
theorem z_hZ_sC (h : PH) (a i : Nat) (v : Option Nat)  : hZ (sC h a i v) = hZ h := rfl
theorem z_hI_sY (h : PH) (d s n : Nat) (f2 : Nat) (a2 : Nat) : hI (sY h d s n) f2 a2 = hI h f2 a2 := rfl
theorem z_hL_sY (h : PH) (d s n : Nat) (f2 : Nat) (a2 : Nat) : hL (sY h d s n) f2 a2 = hL h f2 a2 := rfl
theorem z_hR_sY (h : PH) (d s n : Nat) (f2 : Nat) (a2 : Nat) : hR (sY h d s n) f2 a2 = hR h f2 a2 := rfl
theorem z_hA_sY (h : PH) (d s n : Nat) (a2 : Nat) (i2 : Nat) : hA (sY h d s n) a2 i2 = if a2 = d ∧ i2 < n then hA h s i2 else hA h a2 i2 := rfl
theorem z_hB_sY (h : PH) (d s n : Nat) (a2 : Nat) (i2 : Nat) : hB (sY h d s n) a2 i2 = hB h a2 i2 := rfl
theorem z_hC_sY (h : PH) (d s n : Nat) (a2 : Nat) (i2 : Nat) : hC (sY h d s n) a2 i2 = hC h a2 i2 := rfl
theorem z_hT_sY (h : PH) (d s n : Nat) (a2 : Nat) : hT (sY h d s n) a2 = hT h a2 := rfl
theorem z_hN_sY (h : PH) (d s n : Nat) (a2 : Nat) : hN (sY h d s n) a2 = hN h a2 := rfl
theorem z_hZ_sY (h : PH) (d s n : Nat)  : hZ (sY h d s n) = hZ h := rfl
theorem z_hI_nO (h : PH) (t : Nat) (f2 : Nat) (a2 : Nat) : hI (nO h t) f2 a2 = if a2 = hZ h then 0 else hI h f2 a2 := rfl
theorem z_hL_nO (h : PH) (t : Nat) (f2 : Nat) (a2 : Nat) : hL (nO h t) f2 a2 = if a2 = hZ h then 0 else hL h f2 a2 := rfl
theorem z_hR_nO (h : PH) (t : Nat) (f2 : Nat) (a2 : Nat) : hR (nO h t) f2 a2 = if a2 = hZ h then none else hR h f2 a2 := rfl
theorem z_hA_nO (h : PH) (t : Nat) (a2 : Nat) (i2 : Nat) : hA (nO h t) a2 i2 = hA h a2 i2 := rfl
theorem z_hB_nO (h : PH) (t : Nat) (a2 : Nat) (i2 : Nat) : hB (nO h t) a2 i2 = hB h a2 i2 := rfl
theorem z_hC_nO (h : PH) (t : Nat) (a2 : Nat) (i2 : Nat) : hC (nO h t) a2 i2 = hC h a2 i2 := rfl
theorem z_hT_nO (h : PH) (t : Nat) (a2 : Nat) : hT (nO h t) a2 = if a2 = hZ h then t else hT h a2 := rfl
theorem z_hN_nO (h : PH) (t : Nat) (a2 : Nat) : hN (nO h t) a2 = hN h a2 := rfl
theorem z_hZ_nO (h : PH) (t : Nat)  : hZ (nO h t) = hZ h + 1 := rfl
theorem z_hI_nA (h : PH) (t n : Nat) (f2 : Nat) (a2 : Nat) : hI (nA h t n) f2 a2 = hI h f2 a2 := rfl
theorem z_hL_nA (h : PH) (t n : Nat) (f2 : Nat) (a2 : Nat) : hL (nA h t n) f2 a2 = hL h f2 a2 := rfl
theorem z_hR_nA (h : PH) (t n : Nat) (f2 : Nat) (a2 : Nat) : hR (nA h t n) f2 a2 = hR h f2 a2 := rfl
theorem z_hA_nA (h : PH) (t n : Nat) (a2 : Nat) (i2 : Nat) : hA (nA h t n) a2 i2 = if a2 = hZ h then 0 else hA h a2 i2 := rfl
theorem z_hB_nA (h : PH) (t n : Nat) (a2 : Nat) (i2 : Nat) : hB (nA h t n) a2 i2 = if a2 = hZ h then 0 else hB h a2 i2 := rfl
theorem z_hC_nA (h : PH) (t n : Nat) (a2 : Nat) (i2 : Nat) : hC (nA h t n) a2 i2 = if a2 = hZ h then none else hC h a2 i2 := rfl
theorem z_hT_nA (h : PH) (t n : Nat) (a2 : Nat) : hT (nA h t n) a2 = if a2 = hZ h then t else hT h a2 := rfl
theorem z_hN_nA (h : PH) (t n : Nat) (a2 : Nat) : hN (nA h t n) a2 = if a2 = hZ h then n else hN h a2 := rfl
theorem z_hZ_nA (h : PH) (t n : Nat)  : hZ (nA h t n) = hZ h + 1 := rfl
theorem z_mI_mSI (u : MS) (k : Nat) (v : Int32) (k2 : Nat) : mI (mSI u k v) k2 = if k2 = k then v else mI u k2 := rfl
theorem z_mL_mSI (u : MS) (k : Nat) (v : Int32) (k2 : Nat) : mL (mSI u k v) k2 = mL u k2 := rfl
theorem z_mA_mSI (u : MS) (k : Nat) (v : Int32) (k2 : Nat) (i2 : Nat) : mA (mSI u k v) k2 i2 = mA u k2 i2 := rfl
theorem z_mB_mSI (u : MS) (k : Nat) (v : Int32) (k2 : Nat) (i2 : Nat) : mB (mSI u k v) k2 i2 = mB u k2 i2 := rfl
theorem z_mI_mSL (u : MS) (k : Nat) (v : Int64) (k2 : Nat) : mI (mSL u k v) k2 = mI u k2 := rfl
theorem z_mL_mSL (u : MS) (k : Nat) (v : Int64) (k2 : Nat) : mL (mSL u k v) k2 = if k2 = k then v else mL u k2 := rfl
theorem z_mA_mSL (u : MS) (k : Nat) (v : Int64) (k2 : Nat) (i2 : Nat) : mA (mSL u k v) k2 i2 = mA u k2 i2 := rfl
theorem z_mB_mSL (u : MS) (k : Nat) (v : Int64) (k2 : Nat) (i2 : Nat) : mB (mSL u k v) k2 i2 = mB u k2 i2 := rfl
theorem z_mI_mSA (u : MS) (k i : Nat) (v : Int32) (k2 : Nat) : mI (mSA u k i v) k2 = mI u k2 := rfl
theorem z_mL_mSA (u : MS) (k i : Nat) (v : Int32) (k2 : Nat) : mL (mSA u k i v) k2 = mL u k2 := rfl
theorem z_mA_mSA (u : MS) (k i : Nat) (v : Int32) (k2 : Nat) (i2 : Nat) : mA (mSA u k i v) k2 i2 = if k2 = k ∧ i2 = i then v else mA u k2 i2 := rfl
theorem z_mB_mSA (u : MS) (k i : Nat) (v : Int32) (k2 : Nat) (i2 : Nat) : mB (mSA u k i v) k2 i2 = mB u k2 i2 := rfl
theorem z_mI_mSB (u : MS) (k i : Nat) (v : Int64) (k2 : Nat) : mI (mSB u k i v) k2 = mI u k2 := rfl
theorem z_mL_mSB (u : MS) (k i : Nat) (v : Int64) (k2 : Nat) : mL (mSB u k i v) k2 = mL u k2 := rfl
theorem z_mA_mSB (u : MS) (k i : Nat) (v : Int64) (k2 : Nat) (i2 : Nat) : mA (mSB u k i v) k2 i2 = mA u k2 i2 := rfl
theorem z_mB_mSB (u : MS) (k i : Nat) (v : Int64) (k2 : Nat) (i2 : Nat) : mB (mSB u k i v) k2 i2 = if k2 = k ∧ i2 = i then v else mB u k2 i2 := rfl
theorem oN_v {α : Type} (a : Nat) (k : Nat → Option α) : oN (some a) k = k a := rfl
theorem oC_v {α : Type} (k : Option α) : oC true k = k := rfl
theorem oB_v {α β : Type} (a : β) (k : β → Option α) : oB (some a) k = k a := rfl
theorem oB2_v {α β γ : Type} (a : β) (b : γ) (k : β → γ → Option α) : oB2 (some (a, b)) k = k a b := rfl
theorem oB3_v {α β : Type} (a : β) (i j : Nat) (k : β → Nat → Nat → Option α) : oB3 (some (a, i, j)) k = k a i j := rfl
theorem oB4_v {α β γ : Type} (a : β) (b : γ) (i j : Nat) (k : β → γ → Nat → Nat → Option α) : oB4 (some (a, b, i, j)) k = k a b i j := rfl
theorem oK3_v {β : Type} (a b : Nat) (x : β) (i j : Nat) : oK3 a b (some (x, i, j)) = some (x, a + i, b + j) := rfl
theorem oK4_v {β γ : Type} (a b : Nat) (x : β) (y : γ) (i j : Nat) : oK4 a b (some (x, y, i, j)) = some (x, y, a + i, b + j) := rfl
theorem oL_v {α β : Type} (x : β) (k : β → Option α) : oL x k = k x := rfl
theorem oC_d {α : Type} {c : Prop} {d : Decidable c} (h : c) (k : Option α) : oC (@decide c d) k = k := by rw [decide_eq_true h]; rfl
theorem oC_t {α : Type} {c : Bool} (h : c = true) (k : Option α) : oC c k = k := by rw [h]; rfl
