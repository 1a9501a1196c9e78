/-- what is read while a text is written -/
def TV (h : PH) (h0 : PH) (G : Gh) : Prop := (hT h 0 = 12) ∧ (hT h 5 = 2) ∧ (hT h 6 = 8) ∧ (hT h 8 = 8) ∧ (hT h 10 = 8) ∧ (hT h 14 = 8) ∧ (hT h 7 = 102) ∧ (hT h 9 = 102) ∧ (hT h 11 = 102) ∧ (hT h 15 = 102) ∧ (hT h 16 = 101) ∧ (hT h 3 = 1) ∧ (hN h 7 = 5) ∧ (hN h 9 = 12) ∧ (hN h 11 = 4) ∧ (hN h 15 = 30) ∧ (hN h 16 = 12) ∧ (hR h 128 5 = some 6) ∧ (hR h 129 5 = some 8) ∧ (hR h 130 5 = some 10) ∧ (hR h 132 5 = some 14) ∧ (hR h 133 5 = some 16) ∧ (hR h 896 6 = some 7) ∧ (hR h 896 8 = some 9) ∧ (hR h 896 10 = some 11) ∧ (hR h 896 14 = some 15) ∧ (hR h 1409 0 = some 3) ∧ (hR h 1410 0 = some 5) ∧ (hR h 1416 0 = some (G.jd 0)) ∧ (hT h (G.jd 0) = 6) ∧ (hT h (G.jd 10) = 100) ∧ (hT h (G.jd 11) = 101) ∧ (hT h (G.jd 19) = 101) ∧ (hT h (G.jd 20) = 102) ∧ (hN h (G.jd 10) = 600) ∧ (hN h (G.jd 11) = 600) ∧ (hN h (G.jd 19) = 20) ∧ (hN h (G.jd 20) = 40) ∧ (hR h 640 (G.jd 0) = some 5) ∧ (hR h 646 (G.jd 0) = some (G.jd 10)) ∧ (hR h 647 (G.jd 0) = some (G.jd 11)) ∧ (hR h 657 (G.jd 0) = some (G.jd 19)) ∧ (hR h 658 (G.jd 0) = some (G.jd 20)) ∧ (hI h 897 6 = hI h0 897 6) ∧ (hI h 897 8 = hI h0 897 8) ∧ (hI h 897 10 = hI h0 897 10) ∧ (hI h 897 14 = hI h0 897 14) ∧ (∀ i, hA h 16 i = hA h0 16 i) ∧ (∀ i, hB h 7 i = hB h0 7 i) ∧ (∀ i, hB h 9 i = hB h0 9 i) ∧ (∀ i, hB h 11 i = hB h0 11 i) ∧ (∀ i, hB h 15 i = hB h0 15 i) ∧ (∀ i, hA h (G.jd 10) i = hA h0 (G.jd 10) i) ∧ (∀ i, hA h (G.jd 11) i = hA h0 (G.jd 11) i) ∧ (∀ i, hA h (G.jd 19) i = hA h0 (G.jd 19) i) ∧ (∀ i, hB h (G.jd 20) i = hB h0 (G.jd 20) i)
theorem TV.t0 {h : PH} {h0 : PH} {G : Gh} (X_ : TV h h0 G) : hT h 0 = 12 := X_.1
theorem TV.t5 {h : PH} {h0 : PH} {G : Gh} (X_ : TV h h0 G) : hT h 5 = 2 := X_.2.1
theorem TV.t6 {h : PH} {h0 : PH} {G : Gh} (X_ : TV h h0 G) : hT h 6 = 8 := X_.2.2.1
theorem TV.t8 {h : PH} {h0 : PH} {G : Gh} (X_ : TV h h0 G) : hT h 8 = 8 := X_.2.2.2.1
theorem TV.t10 {h : PH} {h0 : PH} {G : Gh} (X_ : TV h h0 G) : hT h 10 = 8 := X_.2.2.2.2.1
theorem TV.t14 {h : PH} {h0 : PH} {G : Gh} (X_ : TV h h0 G) : hT h 14 = 8 := X_.2.2.2.2.2.1
theorem TV.t7 {h : PH} {h0 : PH} {G : Gh} (X_ : TV h h0 G) : hT h 7 = 102 := X_.2.2.2.2.2.2.1
theorem TV.t9 {h : PH} {h0 : PH} {G : Gh} (X_ : TV h h0 G) : hT h 9 = 102 := X_.2.2.2.2.2.2.2.1
theorem TV.t11 {h : PH} {h0 : PH} {G : Gh} (X_ : TV h h0 G) : hT h 11 = 102 := X_.2.2.2.2.2.2.2.2.1
theorem TV.t15 {h : PH} {h0 : PH} {G : Gh} (X_ : TV h h0 G) : hT h 15 = 102 := X_.2.2.2.2.2.2.2.2.2.1
theorem TV.t16 {h : PH} {h0 : PH} {G : Gh} (X_ : TV h h0 G) : hT h 16 = 101 := X_.2.2.2.2.2.2.2.2.2.2.1
theorem TV.t3 {h : PH} {h0 : PH} {G : Gh} (X_ : TV h h0 G) : hT h 3 = 1 := X_.2.2.2.2.2.2.2.2.2.2.2.1
theorem TV.n7 {h : PH} {h0 : PH} {G : Gh} (X_ : TV h h0 G) : hN h 7 = 5 := X_.2.2.2.2.2.2.2.2.2.2.2.2.1
theorem TV.n9 {h : PH} {h0 : PH} {G : Gh} (X_ : TV h h0 G) : hN h 9 = 12 := X_.2.2.2.2.2.2.2.2.2.2.2.2.2.1
theorem TV.n11 {h : PH} {h0 : PH} {G : Gh} (X_ : TV h h0 G) : hN h 11 = 4 := X_.2.2.2.2.2.2.2.2.2.2.2.2.2.2.1
theorem TV.n15 {h : PH} {h0 : PH} {G : Gh} (X_ : TV h h0 G) : hN h 15 = 30 := X_.2.2.2.2.2.2.2.2.2.2.2.2.2.2.2.1
theorem TV.n16 {h : PH} {h0 : PH} {G : Gh} (X_ : TV h h0 G) : hN h 16 = 12 := X_.2.2.2.2.2.2.2.2.2.2.2.2.2.2.2.2.1
theorem TV.r128_5 {h : PH} {h0 : PH} {G : Gh} (X_ : TV h h0 G) : hR h 128 5 = some 6 := X_.2.2.2.2.2.2.2.2.2.2.2.2.2.2.2.2.2.1
theorem TV.r129_5 {h : PH} {h0 : PH} {G : Gh} (X_ : TV h h0 G) : hR h 129 5 = some 8 := X_.2.2.2.2.2.2.2.2.2.2.2.2.2.2.2.2.2.2.1
theorem TV.r130_5 {h : PH} {h0 : PH} {G : Gh} (X_ : TV h h0 G) : hR h 130 5 = some 10 := X_.2.2.2.2.2.2.2.2.2.2.2.2.2.2.2.2.2.2.2.1
theorem TV.r132_5 {h : PH} {h0 : PH} {G : Gh} (X_ : TV h h0 G) : hR h 132 5 = some 14 := X_.2.2.2.2.2.2.2.2.2.2.2.2.2.2.2.2.2.2.2.2.1
theorem TV.r133_5 {h : PH} {h0 : PH} {G : Gh} (X_ : TV h h0 G) : hR h 133 5 = some 16 := X_.2.2.2.2.2.2.2.2.2.2.2.2.2.2.2.2.2.2.2.2.2.1
theorem TV.r896_6 {h : PH} {h0 : PH} {G : Gh} (X_ : TV h h0 G) : hR h 896 6 = some 7 := X_.2.2.2.2.2.2.2.2.2.2.2.2.2.2.2.2.2.2.2.2.2.2.1
theorem TV.r896_8 {h : PH} {h0 : PH} {G : Gh} (X_ : TV h h0 G) : hR h 896 8 = some 9 := X_.2.2.2.2.2.2.2.2.2.2.2.2.2.2.2.2.2.2.2.2.2.2.2.1
theorem TV.r896_10 {h : PH} {h0 : PH} {G : Gh} (X_ : TV h h0 G) : hR h 896 10 = some 11 := X_.2.2.2.2.2.2.2.2.2.2.2.2.2.2.2.2.2.2.2.2.2.2.2.2.1
theorem TV.r896_14 {h : PH} {h0 : PH} {G : Gh} (X_ : TV h h0 G) : hR h 896 14 = some 15 := X_.2.2.2.2.2.2.2.2.2.2.2.2.2.2.2.2.2.2.2.2.2.2.2.2.2.1
theorem TV.r1409_0 {h : PH} {h0 : PH} {G : Gh} (X_ : TV h h0 G) : hR h 1409 0 = some 3 := X_.2.2.2.2.2.2.2.2.2.2.2.2.2.2.2.2.2.2.2.2.2.2.2.2.2.2.1
theorem TV.r1410_0 {h : PH} {h0 : PH} {G : Gh} (X_ : TV h h0 G) : hR h 1410 0 = some 5 := X_.2.2.2.2.2.2.2.2.2.2.2.2.2.2.2.2.2.2.2.2.2.2.2.2.2.2.2.1
theorem TV.r1416_0 {h : PH} {h0 : PH} {G : Gh} (X_ : TV h h0 G) : hR h 1416 0 = some (G.jd 0) := X_.2.2.2.2.2.2.2.2.2.2.2.2.2.2.2.2.2.2.2.2.2.2.2.2.2.2.2.2.1
theorem TV.tj0 {h : PH} {h0 : PH} {G : Gh} (X_ : TV h h0 G) : hT h (G.jd 0) = 6 := X_.2.2.2.2.2.2.2.2.2.2.2.2.2.2.2.2.2.2.2.2.2.2.2.2.2.2.2.2.2.1
theorem TV.tj10 {h : PH} {h0 : PH} {G : Gh} (X_ : TV h h0 G) : hT h (G.jd 10) = 100 := X_.2.2.2.2.2.2.2.2.2.2.2.2.2.2.2.2.2.2.2.2.2.2.2.2.2.2.2.2.2.2.1
theorem TV.tj11 {h : PH} {h0 : PH} {G : Gh} (X_ : TV h h0 G) : hT h (G.jd 11) = 101 := X_.2.2.2.2.2.2.2.2.2.2.2.2.2.2.2.2.2.2.2.2.2.2.2.2.2.2.2.2.2.2.2.1
theorem TV.tj19 {h : PH} {h0 : PH} {G : Gh} (X_ : TV h h0 G) : hT h (G.jd 19) = 101 := X_.2.2.2.2.2.2.2.2.2.2.2.2.2.2.2.2.2.2.2.2.2.2.2.2.2.2.2.2.2.2.2.2.1
theorem TV.tj20 {h : PH} {h0 : PH} {G : Gh} (X_ : TV h h0 G) : hT h (G.jd 20) = 102 := X_.2.2.2.2.2.2.2.2.2.2.2.2.2.2.2.2.2.2.2.2.2.2.2.2.2.2.2.2.2.2.2.2.2.1
theorem TV.nj10 {h : PH} {h0 : PH} {G : Gh} (X_ : TV h h0 G) : hN h (G.jd 10) = 600 := X_.2.2.2.2.2.2.2.2.2.2.2.2.2.2.2.2.2.2.2.2.2.2.2.2.2.2.2.2.2.2.2.2.2.2.1
theorem TV.nj11 {h : PH} {h0 : PH} {G : Gh} (X_ : TV h h0 G) : hN h (G.jd 11) = 600 := X_.2.2.2.2.2.2.2.2.2.2.2.2.2.2.2.2.2.2.2.2.2.2.2.2.2.2.2.2.2.2.2.2.2.2.2.1
theorem TV.nj19 {h : PH} {h0 : PH} {G : Gh} (X_ : TV h h0 G) : hN h (G.jd 19) = 20 := X_.2.2.2.2.2.2.2.2.2.2.2.2.2.2.2.2.2.2.2.2.2.2.2.2.2.2.2.2.2.2.2.2.2.2.2.2.1
theorem TV.nj20 {h : PH} {h0 : PH} {G : Gh} (X_ : TV h h0 G) : hN h (G.jd 20) = 40 := X_.2.2.2.2.2.2.2.2.2.2.2.2.2.2.2.2.2.2.2.2.2.2.2.2.2.2.2.2.2.2.2.2.2.2.2.2.2.1
theorem TV.rj640 {h : PH} {h0 : PH} {G : Gh} (X_ : TV h h0 G) : hR h 640 (G.jd 0) = some 5 := X_.2.2.2.2.2.2.2.2.2.2.2.2.2.2.2.2.2.2.2.2.2.2.2.2.2.2.2.2.2.2.2.2.2.2.2.2.2.2.1
theorem TV.rj646 {h : PH} {h0 : PH} {G : Gh} (X_ : TV h h0 G) : hR h 646 (G.jd 0) = some (G.jd 10) := X_.2.2.2.2.2.2.2.2.2.2.2.2.2.2.2.2.2.2.2.2.2.2.2.2.2.2.2.2.2.2.2.2.2.2.2.2.2.2.2.1
theorem TV.rj647 {h : PH} {h0 : PH} {G : Gh} (X_ : TV h h0 G) : hR h 647 (G.jd 0) = some (G.jd 11) := X_.2.2.2.2.2.2.2.2.2.2.2.2.2.2.2.2.2.2.2.2.2.2.2.2.2.2.2.2.2.2.2.2.2.2.2.2.2.2.2.2.1
theorem TV.rj657 {h : PH} {h0 : PH} {G : Gh} (X_ : TV h h0 G) : hR h 657 (G.jd 0) = some (G.jd 19) := X_.2.2.2.2.2.2.2.2.2.2.2.2.2.2.2.2.2.2.2.2.2.2.2.2.2.2.2.2.2.2.2.2.2.2.2.2.2.2.2.2.2.1
theorem TV.rj658 {h : PH} {h0 : PH} {G : Gh} (X_ : TV h h0 G) : hR h 658 (G.jd 0) = some (G.jd 20) := X_.2.2.2.2.2.2.2.2.2.2.2.2.2.2.2.2.2.2.2.2.2.2.2.2.2.2.2.2.2.2.2.2.2.2.2.2.2.2.2.2.2.2.1
theorem TV.i6 {h : PH} {h0 : PH} {G : Gh} (X_ : TV h h0 G) : hI h 897 6 = hI h0 897 6 := X_.2.2.2.2.2.2.2.2.2.2.2.2.2.2.2.2.2.2.2.2.2.2.2.2.2.2.2.2.2.2.2.2.2.2.2.2.2.2.2.2.2.2.2.1
theorem TV.i8 {h : PH} {h0 : PH} {G : Gh} (X_ : TV h h0 G) : hI h 897 8 = hI h0 897 8 := X_.2.2.2.2.2.2.2.2.2.2.2.2.2.2.2.2.2.2.2.2.2.2.2.2.2.2.2.2.2.2.2.2.2.2.2.2.2.2.2.2.2.2.2.2.1
theorem TV.i10 {h : PH} {h0 : PH} {G : Gh} (X_ : TV h h0 G) : hI h 897 10 = hI h0 897 10 := X_.2.2.2.2.2.2.2.2.2.2.2.2.2.2.2.2.2.2.2.2.2.2.2.2.2.2.2.2.2.2.2.2.2.2.2.2.2.2.2.2.2.2.2.2.2.1
theorem TV.i14 {h : PH} {h0 : PH} {G : Gh} (X_ : TV h h0 G) : hI h 897 14 = hI h0 897 14 := X_.2.2.2.2.2.2.2.2.2.2.2.2.2.2.2.2.2.2.2.2.2.2.2.2.2.2.2.2.2.2.2.2.2.2.2.2.2.2.2.2.2.2.2.2.2.2.1
theorem TV.a16 {h : PH} {h0 : PH} {G : Gh} (X_ : TV h h0 G) : ∀ i, hA h 16 i = hA h0 16 i := X_.2.2.2.2.2.2.2.2.2.2.2.2.2.2.2.2.2.2.2.2.2.2.2.2.2.2.2.2.2.2.2.2.2.2.2.2.2.2.2.2.2.2.2.2.2.2.2.1
theorem TV.b7 {h : PH} {h0 : PH} {G : Gh} (X_ : TV h h0 G) : ∀ i, hB h 7 i = hB h0 7 i := X_.2.2.2.2.2.2.2.2.2.2.2.2.2.2.2.2.2.2.2.2.2.2.2.2.2.2.2.2.2.2.2.2.2.2.2.2.2.2.2.2.2.2.2.2.2.2.2.2.1
theorem TV.b9 {h : PH} {h0 : PH} {G : Gh} (X_ : TV h h0 G) : ∀ i, hB h 9 i = hB h0 9 i := X_.2.2.2.2.2.2.2.2.2.2.2.2.2.2.2.2.2.2.2.2.2.2.2.2.2.2.2.2.2.2.2.2.2.2.2.2.2.2.2.2.2.2.2.2.2.2.2.2.2.1
theorem TV.b11 {h : PH} {h0 : PH} {G : Gh} (X_ : TV h h0 G) : ∀ i, hB h 11 i = hB h0 11 i := X_.2.2.2.2.2.2.2.2.2.2.2.2.2.2.2.2.2.2.2.2.2.2.2.2.2.2.2.2.2.2.2.2.2.2.2.2.2.2.2.2.2.2.2.2.2.2.2.2.2.2.1
theorem TV.b15 {h : PH} {h0 : PH} {G : Gh} (X_ : TV h h0 G) : ∀ i, hB h 15 i = hB h0 15 i := X_.2.2.2.2.2.2.2.2.2.2.2.2.2.2.2.2.2.2.2.2.2.2.2.2.2.2.2.2.2.2.2.2.2.2.2.2.2.2.2.2.2.2.2.2.2.2.2.2.2.2.2.1
theorem TV.aj10 {h : PH} {h0 : PH} {G : Gh} (X_ : TV h h0 G) : ∀ i, hA h (G.jd 10) i = hA h0 (G.jd 10) i := X_.2.2.2.2.2.2.2.2.2.2.2.2.2.2.2.2.2.2.2.2.2.2.2.2.2.2.2.2.2.2.2.2.2.2.2.2.2.2.2.2.2.2.2.2.2.2.2.2.2.2.2.2.1
theorem TV.aj11 {h : PH} {h0 : PH} {G : Gh} (X_ : TV h h0 G) : ∀ i, hA h (G.jd 11) i = hA h0 (G.jd 11) i := X_.2.2.2.2.2.2.2.2.2.2.2.2.2.2.2.2.2.2.2.2.2.2.2.2.2.2.2.2.2.2.2.2.2.2.2.2.2.2.2.2.2.2.2.2.2.2.2.2.2.2.2.2.2.1
theorem TV.aj19 {h : PH} {h0 : PH} {G : Gh} (X_ : TV h h0 G) : ∀ i, hA h (G.jd 19) i = hA h0 (G.jd 19) i := X_.2.2.2.2.2.2.2.2.2.2.2.2.2.2.2.2.2.2.2.2.2.2.2.2.2.2.2.2.2.2.2.2.2.2.2.2.2.2.2.2.2.2.2.2.2.2.2.2.2.2.2.2.2.2.1
theorem TV.bj20 {h : PH} {h0 : PH} {G : Gh} (X_ : TV h h0 G) : ∀ i, hB h (G.jd 20) i = hB h0 (G.jd 20) i := X_.2.2.2.2.2.2.2.2.2.2.2.2.2.2.2.2.2.2.2.2.2.2.2.2.2.2.2.2.2.2.2.2.2.2.2.2.2.2.2.2.2.2.2.2.2.2.2.2.2.2.2.2.2.2.2
theorem TV.mk {h : PH} {h0 : PH} {G : Gh} (t0_ : hT h 0 = 12) (t5_ : hT h 5 = 2) (t6_ : hT h 6 = 8) (t8_ : hT h 8 = 8) (t10_ : hT h 10 = 8) (t14_ : hT h 14 = 8) (t7_ : hT h 7 = 102) (t9_ : hT h 9 = 102) (t11_ : hT h 11 = 102) (t15_ : hT h 15 = 102) (t16_ : hT h 16 = 101) (t3_ : hT h 3 = 1) (n7_ : hN h 7 = 5) (n9_ : hN h 9 = 12) (n11_ : hN h 11 = 4) (n15_ : hN h 15 = 30) (n16_ : hN h 16 = 12) (r128_5_ : hR h 128 5 = some 6) (r129_5_ : hR h 129 5 = some 8) (r130_5_ : hR h 130 5 = some 10) (r132_5_ : hR h 132 5 = some 14) (r133_5_ : hR h 133 5 = some 16) (r896_6_ : hR h 896 6 = some 7) (r896_8_ : hR h 896 8 = some 9) (r896_10_ : hR h 896 10 = some 11) (r896_14_ : hR h 896 14 = some 15) (r1409_0_ : hR h 1409 0 = some 3) (r1410_0_ : hR h 1410 0 = some 5) (r1416_0_ : hR h 1416 0 = some (G.jd 0)) (tj0_ : hT h (G.jd 0) = 6) (tj10_ : hT h (G.jd 10) = 100) (tj11_ : hT h (G.jd 11) = 101) (tj19_ : hT h (G.jd 19) = 101) (tj20_ : hT h (G.jd 20) = 102) (nj10_ : hN h (G.jd 10) = 600) (nj11_ : hN h (G.jd 11) = 600) (nj19_ : hN h (G.jd 19) = 20) (nj20_ : hN h (G.jd 20) = 40) (rj640_ : hR h 640 (G.jd 0) = some 5) (rj646_ : hR h 646 (G.jd 0) = some (G.jd 10)) (rj647_ : hR h 647 (G.jd 0) = some (G.jd 11)) (rj657_ : hR h 657 (G.jd 0) = some (G.jd 19)) (rj658_ : hR h 658 (G.jd 0) = some (G.jd 20)) (i6_ : hI h 897 6 = hI h0 897 6) (i8_ : hI h 897 8 = hI h0 897 8) (i10_ : hI h 897 10 = hI h0 897 10) (i14_ : hI h 897 14 = hI h0 897 14) (a16_ : ∀ i, hA h 16 i = hA h0 16 i) (b7_ : ∀ i, hB h 7 i = hB h0 7 i) (b9_ : ∀ i, hB h 9 i = hB h0 9 i) (b11_ : ∀ i, hB h 11 i = hB h0 11 i) (b15_ : ∀ i, hB h 15 i = hB h0 15 i) (aj10_ : ∀ i, hA h (G.jd 10) i = hA h0 (G.jd 10) i) (aj11_ : ∀ i, hA h (G.jd 11) i = hA h0 (G.jd 11) i) (aj19_ : ∀ i, hA h (G.jd 19) i = hA h0 (G.jd 19) i) (bj20_ : ∀ i, hB h (G.jd 20) i = hB h0 (G.jd 20) i) : TV h h0 G := ⟨t0_, t5_, t6_, t8_, t10_, t14_, t7_, t9_, t11_, t15_, t16_, t3_, n7_, n9_, n11_, n15_, n16_, r128_5_, r129_5_, r130_5_, r132_5_, r133_5_, r896_6_, r896_8_, r896_10_, r896_14_, r1409_0_, r1410_0_, r1416_0_, tj0_, tj10_, tj11_, tj19_, tj20_, nj10_, nj11_, nj19_, nj20_, rj640_, rj646_, rj647_, rj657_, rj658_, i6_, i8_, i10_, i14_, a16_, b7_, b9_, b11_, b15_, aj10_, aj11_, aj19_, bj20_⟩
theorem TV.of {h h0 : PH} {G : Gh} {k' i j : Nat} {l : List Int32} (S : SX h0 G) (J : G.jj = true) (W : BW h0 h 3 G.wk k' 0 l i j) : TV h h0 G := by
  have zz := S.zz
  apply TV.mk
  · exact (W.T _ (by omega)).trans (S.t0)
  · exact (W.T _ (by omega)).trans (S.t5)
  · exact (W.T _ (by omega)).trans (S.t6)
  · exact (W.T _ (by omega)).trans (S.t8)
  · exact (W.T _ (by omega)).trans (S.t10)
  · exact (W.T _ (by omega)).trans (S.t14)
  · exact (W.T _ (by omega)).trans (S.t7)
  · exact (W.T _ (by omega)).trans (S.t9)
  · exact (W.T _ (by omega)).trans (S.t11)
  · exact (W.T _ (by omega)).trans (S.t15)
  · exact (W.T _ (by omega)).trans (S.t16)
  · exact W.bs.ta
  · exact (W.N _ (by omega)).trans (S.n7)
  · exact (W.N _ (by omega)).trans (S.n9)
  · exact (W.N _ (by omega)).trans (S.n11)
  · exact (W.N _ (by omega)).trans (S.n15)
  · exact (W.N _ (by omega)).trans (S.n16)
  · exact (W.R _ _ (by omega) (by omega)).trans (S.r128_5)
  · exact (W.R _ _ (by omega) (by omega)).trans (S.r129_5)
  · exact (W.R _ _ (by omega) (by omega)).trans (S.r130_5)
  · exact (W.R _ _ (by omega) (by omega)).trans (S.r132_5)
  · exact (W.R _ _ (by omega) (by omega)).trans (S.r133_5)
  · exact (W.R _ _ (by omega) (by omega)).trans (S.r896_6)
  · exact (W.R _ _ (by omega) (by omega)).trans (S.r896_8)
  · exact (W.R _ _ (by omega) (by omega)).trans (S.r896_10)
  · exact (W.R _ _ (by omega) (by omega)).trans (S.r896_14)
  · exact (W.R _ _ (by omega) (by omega)).trans (S.r1409_0)
  · exact (W.R _ _ (by omega) (by omega)).trans (S.r1410_0)
  · exact (W.R _ _ (by omega) (by omega)).trans (S.jY J)
  · exact (W.T _ (jd_lt J S 0 (by omega))).trans (S.jt0 J)
  · exact (W.T _ (jd_lt J S 10 (by omega))).trans (S.jt10 J)
  · exact (W.T _ (jd_lt J S 11 (by omega))).trans (S.jt11 J)
  · exact (W.T _ (jd_lt J S 19 (by omega))).trans (S.jt19 J)
  · exact (W.T _ (jd_lt J S 20 (by omega))).trans (S.jt20 J)
  · exact (W.N _ (jd_lt J S 10 (by omega))).trans (S.jn10 J)
  · exact (W.N _ (jd_lt J S 11 (by omega))).trans (S.jn11 J)
  · exact (W.N _ (jd_lt J S 19 (by omega))).trans (S.jn19 J)
  · exact (W.N _ (jd_lt J S 20 (by omega))).trans (S.jn20 J)
  · exact (W.R _ _ (jd_lt J S 0 (by omega)) (by omega)).trans (S.jr640 J)
  · exact (W.R _ _ (jd_lt J S 0 (by omega)) (by omega)).trans (S.jr646 J)
  · exact (W.R _ _ (jd_lt J S 0 (by omega)) (by omega)).trans (S.jr647 J)
  · exact (W.R _ _ (jd_lt J S 0 (by omega)) (by omega)).trans (S.jr657 J)
  · exact (W.R _ _ (jd_lt J S 0 (by omega)) (by omega)).trans (S.jr658 J)
  · exact (W.ag 6 ⟨by omega, ne_ow (S.o6) S.o3 (by omega), ne_ow (S.o6) S.owk (by omega)⟩).1 897
  · exact (W.ag 8 ⟨by omega, ne_ow (S.o8) S.o3 (by omega), ne_ow (S.o8) S.owk (by omega)⟩).1 897
  · exact (W.ag 10 ⟨by omega, ne_ow (S.o10) S.o3 (by omega), ne_ow (S.o10) S.owk (by omega)⟩).1 897
  · exact (W.ag 14 ⟨by omega, ne_ow (S.o14) S.o3 (by omega), ne_ow (S.o14) S.owk (by omega)⟩).1 897
  · exact (W.ag 16 ⟨by omega, ne_ow (S.o16) S.o3 (by omega), ne_ow (S.o16) S.owk (by omega)⟩).2.2.1
  · exact (W.ag 7 ⟨by omega, ne_ow (S.o7) S.o3 (by omega), ne_ow (S.o7) S.owk (by omega)⟩).2.2.2
  · exact (W.ag 9 ⟨by omega, ne_ow (S.o9) S.o3 (by omega), ne_ow (S.o9) S.owk (by omega)⟩).2.2.2
  · exact (W.ag 11 ⟨by omega, ne_ow (S.o11) S.o3 (by omega), ne_ow (S.o11) S.owk (by omega)⟩).2.2.2
  · exact (W.ag 15 ⟨by omega, ne_ow (S.o15) S.o3 (by omega), ne_ow (S.o15) S.owk (by omega)⟩).2.2.2
  · exact (W.ag (G.jd 10) ⟨jd_lt J S 10 (by omega), ne_ow (S.jo J 10 (by omega)) S.o3 (by omega), ne_ow (S.jo J 10 (by omega)) S.owk (by omega)⟩).2.2.1
  · exact (W.ag (G.jd 11) ⟨jd_lt J S 11 (by omega), ne_ow (S.jo J 11 (by omega)) S.o3 (by omega), ne_ow (S.jo J 11 (by omega)) S.owk (by omega)⟩).2.2.1
  · exact (W.ag (G.jd 19) ⟨jd_lt J S 19 (by omega), ne_ow (S.jo J 19 (by omega)) S.o3 (by omega), ne_ow (S.jo J 19 (by omega)) S.owk (by omega)⟩).2.2.1
  · exact (W.ag (G.jd 20) ⟨jd_lt J S 20 (by omega), ne_ow (S.jo J 20 (by omega)) S.o3 (by omega), ne_ow (S.jo J 20 (by omega)) S.owk (by omega)⟩).2.2.2
