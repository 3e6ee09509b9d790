/-! the worlds: class and model over a bank (5 seconds, 6 sizes, 7 zones, 8 weights, 9 joined, 10 barred, 11 near, 12 set, 13 rows, 14 lengths, 15 homes, 16 partners, 17 gains, 18 sums; 0 0 code, 1 0 orders, 2 0 set's size, 2 1 most weight, 2 2 most size, 3 0 batches, 4 0 exact) -/
abbrev tyl (cI cZ cJ : ClassId) : List (ClassId × FieldType) := [(cI, .int), (cZ, .boolean), (cJ, .long)]
def cw (ad : Nat → Nat) (cI cZ : ClassId) (x : Bk) : va_W := [(ad 0, .inr (0, [.ref (ad 1), .ref (ad 2), .ref (ad 3), .ref (ad 4)])), (ad 1, .inr (1, [.ref (ad 5), .ref (ad 6), .ref (ad 7), .ref (ad 8), .ref (ad 9), .int (iI (x 1 0))])), (ad 2, .inr (2, [.ref (ad 1), .ref (ad 10), .ref (ad 11), .ref (ad 12), .int (iI (x 2 0)), .int (iI (x 2 1)), .int (iI (x 2 2))])), (ad 3, .inr (3, [.ref (ad 1), .ref (ad 13), .ref (ad 14), .ref (ad 15), .int (iI (x 3 0))])), (ad 4, .inr (4, [.ref (ad 1), .ref (ad 16), .ref (ad 17), .ref (ad 18), .int (iI (x 4 0))])), (ad 5, .inl (cI, 10, .inl (aI (x 5)))), (ad 6, .inl (cI, 10, .inl (aI (x 6)))), (ad 7, .inl (cI, 10, .inl (aI (x 7)))), (ad 8, .inl (cI, 10, .inl (aI (x 8)))), (ad 9, .inl (cI, 100, .inl (aI (x 9)))), (ad 10, .inl (cZ, 100, .inl (aI (x 10)))), (ad 11, .inl (cZ, 16, .inl (aI (x 11)))), (ad 12, .inl (cI, 5, .inl (aI (x 12)))), (ad 13, .inl (cI, 40, .inl (aI (x 13)))), (ad 14, .inl (cI, 10, .inl (aI (x 14)))), (ad 15, .inl (cI, 10, .inl (aI (x 15)))), (ad 16, .inl (cI, 10, .inl (aI (x 16)))), (ad 17, .inl (cI, 100, .inl (aI (x 17)))), (ad 18, .inl (cI, 1024, .inl (aI (x 18))))]
theorem cwo_0 {ad : Nat → Nat} {cI cZ : ClassId} (x : Bk) : (cw ad cI cZ x)[0]? = some (ad 0, .inr (0, [.ref (ad 1), .ref (ad 2), .ref (ad 3), .ref (ad 4)])) := rfl
theorem cwo_1 {ad : Nat → Nat} {cI cZ : ClassId} (x : Bk) : (cw ad cI cZ x)[1]? = some (ad 1, .inr (1, [.ref (ad 5), .ref (ad 6), .ref (ad 7), .ref (ad 8), .ref (ad 9), .int (iI (x 1 0))])) := rfl
theorem cwf_1_5 {ad : Nat → Nat} {cI cZ : ClassId} (x : Bk) (v : Int) : (cw ad cI cZ x).set 1 (ad 1, .inr (1, ([.ref (ad 5), .ref (ad 6), .ref (ad 7), .ref (ad 8), .ref (ad 9), .int (iI (x 1 0))] : List Value).set 5 (.int (iI v)))) = cw ad cI cZ (bu x 1 (updI (x 1) 0 v)) := rfl
theorem cwo_2 {ad : Nat → Nat} {cI cZ : ClassId} (x : Bk) : (cw ad cI cZ x)[2]? = some (ad 2, .inr (2, [.ref (ad 1), .ref (ad 10), .ref (ad 11), .ref (ad 12), .int (iI (x 2 0)), .int (iI (x 2 1)), .int (iI (x 2 2))])) := rfl
theorem cwf_2_4 {ad : Nat → Nat} {cI cZ : ClassId} (x : Bk) (v : Int) : (cw ad cI cZ x).set 2 (ad 2, .inr (2, ([.ref (ad 1), .ref (ad 10), .ref (ad 11), .ref (ad 12), .int (iI (x 2 0)), .int (iI (x 2 1)), .int (iI (x 2 2))] : List Value).set 4 (.int (iI v)))) = cw ad cI cZ (bu x 2 (updI (x 2) 0 v)) := rfl
theorem cwf_2_5 {ad : Nat → Nat} {cI cZ : ClassId} (x : Bk) (v : Int) : (cw ad cI cZ x).set 2 (ad 2, .inr (2, ([.ref (ad 1), .ref (ad 10), .ref (ad 11), .ref (ad 12), .int (iI (x 2 0)), .int (iI (x 2 1)), .int (iI (x 2 2))] : List Value).set 5 (.int (iI v)))) = cw ad cI cZ (bu x 2 (updI (x 2) 1 v)) := rfl
theorem cwf_2_6 {ad : Nat → Nat} {cI cZ : ClassId} (x : Bk) (v : Int) : (cw ad cI cZ x).set 2 (ad 2, .inr (2, ([.ref (ad 1), .ref (ad 10), .ref (ad 11), .ref (ad 12), .int (iI (x 2 0)), .int (iI (x 2 1)), .int (iI (x 2 2))] : List Value).set 6 (.int (iI v)))) = cw ad cI cZ (bu x 2 (updI (x 2) 2 v)) := rfl
theorem cwo_3 {ad : Nat → Nat} {cI cZ : ClassId} (x : Bk) : (cw ad cI cZ x)[3]? = some (ad 3, .inr (3, [.ref (ad 1), .ref (ad 13), .ref (ad 14), .ref (ad 15), .int (iI (x 3 0))])) := rfl
theorem cwf_3_4 {ad : Nat → Nat} {cI cZ : ClassId} (x : Bk) (v : Int) : (cw ad cI cZ x).set 3 (ad 3, .inr (3, ([.ref (ad 1), .ref (ad 13), .ref (ad 14), .ref (ad 15), .int (iI (x 3 0))] : List Value).set 4 (.int (iI v)))) = cw ad cI cZ (bu x 3 (updI (x 3) 0 v)) := rfl
theorem cwo_4 {ad : Nat → Nat} {cI cZ : ClassId} (x : Bk) : (cw ad cI cZ x)[4]? = some (ad 4, .inr (4, [.ref (ad 1), .ref (ad 16), .ref (ad 17), .ref (ad 18), .int (iI (x 4 0))])) := rfl
theorem cwf_4_4 {ad : Nat → Nat} {cI cZ : ClassId} (x : Bk) (v : Int) : (cw ad cI cZ x).set 4 (ad 4, .inr (4, ([.ref (ad 1), .ref (ad 16), .ref (ad 17), .ref (ad 18), .int (iI (x 4 0))] : List Value).set 4 (.int (iI v)))) = cw ad cI cZ (bu x 4 (updI (x 4) 0 v)) := rfl
theorem cwa_5 {ad : Nat → Nat} {cI cZ : ClassId} (x : Bk) : (cw ad cI cZ x)[5]? = some (ad 5, .inl (cI, 10, .inl (aI (x 5)))) := rfl
theorem cws_5 {ad : Nat → Nat} {cI cZ : ClassId} (x : Bk) (f : Int → Int) : (cw ad cI cZ x).set 5 (ad 5, .inl (cI, 10, .inl (aI f))) = cw ad cI cZ (bu x 5 f) := rfl
theorem cwa_6 {ad : Nat → Nat} {cI cZ : ClassId} (x : Bk) : (cw ad cI cZ x)[6]? = some (ad 6, .inl (cI, 10, .inl (aI (x 6)))) := rfl
theorem cws_6 {ad : Nat → Nat} {cI cZ : ClassId} (x : Bk) (f : Int → Int) : (cw ad cI cZ x).set 6 (ad 6, .inl (cI, 10, .inl (aI f))) = cw ad cI cZ (bu x 6 f) := rfl
theorem cwa_7 {ad : Nat → Nat} {cI cZ : ClassId} (x : Bk) : (cw ad cI cZ x)[7]? = some (ad 7, .inl (cI, 10, .inl (aI (x 7)))) := rfl
theorem cws_7 {ad : Nat → Nat} {cI cZ : ClassId} (x : Bk) (f : Int → Int) : (cw ad cI cZ x).set 7 (ad 7, .inl (cI, 10, .inl (aI f))) = cw ad cI cZ (bu x 7 f) := rfl
theorem cwa_8 {ad : Nat → Nat} {cI cZ : ClassId} (x : Bk) : (cw ad cI cZ x)[8]? = some (ad 8, .inl (cI, 10, .inl (aI (x 8)))) := rfl
theorem cws_8 {ad : Nat → Nat} {cI cZ : ClassId} (x : Bk) (f : Int → Int) : (cw ad cI cZ x).set 8 (ad 8, .inl (cI, 10, .inl (aI f))) = cw ad cI cZ (bu x 8 f) := rfl
theorem cwa_9 {ad : Nat → Nat} {cI cZ : ClassId} (x : Bk) : (cw ad cI cZ x)[9]? = some (ad 9, .inl (cI, 100, .inl (aI (x 9)))) := rfl
theorem cws_9 {ad : Nat → Nat} {cI cZ : ClassId} (x : Bk) (f : Int → Int) : (cw ad cI cZ x).set 9 (ad 9, .inl (cI, 100, .inl (aI f))) = cw ad cI cZ (bu x 9 f) := rfl
theorem cwa_10 {ad : Nat → Nat} {cI cZ : ClassId} (x : Bk) : (cw ad cI cZ x)[10]? = some (ad 10, .inl (cZ, 100, .inl (aI (x 10)))) := rfl
theorem cws_10 {ad : Nat → Nat} {cI cZ : ClassId} (x : Bk) (f : Int → Int) : (cw ad cI cZ x).set 10 (ad 10, .inl (cZ, 100, .inl (aI f))) = cw ad cI cZ (bu x 10 f) := rfl
theorem cwa_11 {ad : Nat → Nat} {cI cZ : ClassId} (x : Bk) : (cw ad cI cZ x)[11]? = some (ad 11, .inl (cZ, 16, .inl (aI (x 11)))) := rfl
theorem cws_11 {ad : Nat → Nat} {cI cZ : ClassId} (x : Bk) (f : Int → Int) : (cw ad cI cZ x).set 11 (ad 11, .inl (cZ, 16, .inl (aI f))) = cw ad cI cZ (bu x 11 f) := rfl
theorem cwa_12 {ad : Nat → Nat} {cI cZ : ClassId} (x : Bk) : (cw ad cI cZ x)[12]? = some (ad 12, .inl (cI, 5, .inl (aI (x 12)))) := rfl
theorem cws_12 {ad : Nat → Nat} {cI cZ : ClassId} (x : Bk) (f : Int → Int) : (cw ad cI cZ x).set 12 (ad 12, .inl (cI, 5, .inl (aI f))) = cw ad cI cZ (bu x 12 f) := rfl
theorem cwa_13 {ad : Nat → Nat} {cI cZ : ClassId} (x : Bk) : (cw ad cI cZ x)[13]? = some (ad 13, .inl (cI, 40, .inl (aI (x 13)))) := rfl
theorem cws_13 {ad : Nat → Nat} {cI cZ : ClassId} (x : Bk) (f : Int → Int) : (cw ad cI cZ x).set 13 (ad 13, .inl (cI, 40, .inl (aI f))) = cw ad cI cZ (bu x 13 f) := rfl
theorem cwa_14 {ad : Nat → Nat} {cI cZ : ClassId} (x : Bk) : (cw ad cI cZ x)[14]? = some (ad 14, .inl (cI, 10, .inl (aI (x 14)))) := rfl
theorem cws_14 {ad : Nat → Nat} {cI cZ : ClassId} (x : Bk) (f : Int → Int) : (cw ad cI cZ x).set 14 (ad 14, .inl (cI, 10, .inl (aI f))) = cw ad cI cZ (bu x 14 f) := rfl
theorem cwa_15 {ad : Nat → Nat} {cI cZ : ClassId} (x : Bk) : (cw ad cI cZ x)[15]? = some (ad 15, .inl (cI, 10, .inl (aI (x 15)))) := rfl
theorem cws_15 {ad : Nat → Nat} {cI cZ : ClassId} (x : Bk) (f : Int → Int) : (cw ad cI cZ x).set 15 (ad 15, .inl (cI, 10, .inl (aI f))) = cw ad cI cZ (bu x 15 f) := rfl
theorem cwa_16 {ad : Nat → Nat} {cI cZ : ClassId} (x : Bk) : (cw ad cI cZ x)[16]? = some (ad 16, .inl (cI, 10, .inl (aI (x 16)))) := rfl
theorem cws_16 {ad : Nat → Nat} {cI cZ : ClassId} (x : Bk) (f : Int → Int) : (cw ad cI cZ x).set 16 (ad 16, .inl (cI, 10, .inl (aI f))) = cw ad cI cZ (bu x 16 f) := rfl
theorem cwa_17 {ad : Nat → Nat} {cI cZ : ClassId} (x : Bk) : (cw ad cI cZ x)[17]? = some (ad 17, .inl (cI, 100, .inl (aI (x 17)))) := rfl
theorem cws_17 {ad : Nat → Nat} {cI cZ : ClassId} (x : Bk) (f : Int → Int) : (cw ad cI cZ x).set 17 (ad 17, .inl (cI, 100, .inl (aI f))) = cw ad cI cZ (bu x 17 f) := rfl
theorem cwa_18 {ad : Nat → Nat} {cI cZ : ClassId} (x : Bk) : (cw ad cI cZ x)[18]? = some (ad 18, .inl (cI, 1024, .inl (aI (x 18)))) := rfl
theorem cws_18 {ad : Nat → Nat} {cI cZ : ClassId} (x : Bk) (f : Int → Int) : (cw ad cI cZ x).set 18 (ad 18, .inl (cI, 1024, .inl (aI f))) = cw ad cI cZ (bu x 18 f) := rfl
def mw (ad : Nat → Nat) (cI cZ : ClassId) (x : Bk) : va_W := [(ad 0, .inr (5, [.int (iI (x 0 0)), .int (iI (x 1 0)), .ref (ad 1), .ref (ad 2), .ref (ad 3), .ref (ad 4), .ref (ad 5), .ref (ad 6), .ref (ad 7), .int (iI (x 2 1)), .int (iI (x 2 2)), .ref (ad 8), .int (iI (x 4 0)), .int (iI (x 3 0)), .ref (ad 9), .ref (ad 10), .ref (ad 11), .ref (ad 12)])), (ad 1, .inl (cI, 10, .inl (aI (x 5)))), (ad 2, .inl (cI, 10, .inl (aI (x 6)))), (ad 3, .inl (cI, 10, .inl (aI (x 7)))), (ad 4, .inl (cI, 10, .inl (aI (x 8)))), (ad 5, .inl (cI, 100, .inl (aI (x 9)))), (ad 6, .inl (cZ, 100, .inl (aI (x 10)))), (ad 7, .inl (cZ, 16, .inl (aI (x 11)))), (ad 8, .inl (cI, 10, .inl (aI (x 16)))), (ad 9, .inl (cI, 10, .inl (aI (x 14)))), (ad 10, .inl (cI, 40, .inl (aI (x 13)))), (ad 11, .inl (cI, 10, .inl (aI (x 15)))), (ad 12, .inl (cI, 1024, .inl (aI (x 18))))]
theorem mwo_0 {ad : Nat → Nat} {cI cZ : ClassId} (x : Bk) : (mw ad cI cZ x)[0]? = some (ad 0, .inr (5, [.int (iI (x 0 0)), .int (iI (x 1 0)), .ref (ad 1), .ref (ad 2), .ref (ad 3), .ref (ad 4), .ref (ad 5), .ref (ad 6), .ref (ad 7), .int (iI (x 2 1)), .int (iI (x 2 2)), .ref (ad 8), .int (iI (x 4 0)), .int (iI (x 3 0)), .ref (ad 9), .ref (ad 10), .ref (ad 11), .ref (ad 12)])) := rfl
theorem mwf_0_0 {ad : Nat → Nat} {cI cZ : ClassId} (x : Bk) (v : Int) : (mw ad cI cZ x).set 0 (ad 0, .inr (5, ([.int (iI (x 0 0)), .int (iI (x 1 0)), .ref (ad 1), .ref (ad 2), .ref (ad 3), .ref (ad 4), .ref (ad 5), .ref (ad 6), .ref (ad 7), .int (iI (x 2 1)), .int (iI (x 2 2)), .ref (ad 8), .int (iI (x 4 0)), .int (iI (x 3 0)), .ref (ad 9), .ref (ad 10), .ref (ad 11), .ref (ad 12)] : List Value).set 0 (.int (iI v)))) = mw ad cI cZ (bu x 0 (updI (x 0) 0 v)) := rfl
theorem mwf_0_1 {ad : Nat → Nat} {cI cZ : ClassId} (x : Bk) (v : Int) : (mw ad cI cZ x).set 0 (ad 0, .inr (5, ([.int (iI (x 0 0)), .int (iI (x 1 0)), .ref (ad 1), .ref (ad 2), .ref (ad 3), .ref (ad 4), .ref (ad 5), .ref (ad 6), .ref (ad 7), .int (iI (x 2 1)), .int (iI (x 2 2)), .ref (ad 8), .int (iI (x 4 0)), .int (iI (x 3 0)), .ref (ad 9), .ref (ad 10), .ref (ad 11), .ref (ad 12)] : List Value).set 1 (.int (iI v)))) = mw ad cI cZ (bu x 1 (updI (x 1) 0 v)) := rfl
theorem mwf_0_9 {ad : Nat → Nat} {cI cZ : ClassId} (x : Bk) (v : Int) : (mw ad cI cZ x).set 0 (ad 0, .inr (5, ([.int (iI (x 0 0)), .int (iI (x 1 0)), .ref (ad 1), .ref (ad 2), .ref (ad 3), .ref (ad 4), .ref (ad 5), .ref (ad 6), .ref (ad 7), .int (iI (x 2 1)), .int (iI (x 2 2)), .ref (ad 8), .int (iI (x 4 0)), .int (iI (x 3 0)), .ref (ad 9), .ref (ad 10), .ref (ad 11), .ref (ad 12)] : List Value).set 9 (.int (iI v)))) = mw ad cI cZ (bu x 2 (updI (x 2) 1 v)) := rfl
theorem mwf_0_10 {ad : Nat → Nat} {cI cZ : ClassId} (x : Bk) (v : Int) : (mw ad cI cZ x).set 0 (ad 0, .inr (5, ([.int (iI (x 0 0)), .int (iI (x 1 0)), .ref (ad 1), .ref (ad 2), .ref (ad 3), .ref (ad 4), .ref (ad 5), .ref (ad 6), .ref (ad 7), .int (iI (x 2 1)), .int (iI (x 2 2)), .ref (ad 8), .int (iI (x 4 0)), .int (iI (x 3 0)), .ref (ad 9), .ref (ad 10), .ref (ad 11), .ref (ad 12)] : List Value).set 10 (.int (iI v)))) = mw ad cI cZ (bu x 2 (updI (x 2) 2 v)) := rfl
theorem mwf_0_12 {ad : Nat → Nat} {cI cZ : ClassId} (x : Bk) (v : Int) : (mw ad cI cZ x).set 0 (ad 0, .inr (5, ([.int (iI (x 0 0)), .int (iI (x 1 0)), .ref (ad 1), .ref (ad 2), .ref (ad 3), .ref (ad 4), .ref (ad 5), .ref (ad 6), .ref (ad 7), .int (iI (x 2 1)), .int (iI (x 2 2)), .ref (ad 8), .int (iI (x 4 0)), .int (iI (x 3 0)), .ref (ad 9), .ref (ad 10), .ref (ad 11), .ref (ad 12)] : List Value).set 12 (.int (iI v)))) = mw ad cI cZ (bu x 4 (updI (x 4) 0 v)) := rfl
theorem mwf_0_13 {ad : Nat → Nat} {cI cZ : ClassId} (x : Bk) (v : Int) : (mw ad cI cZ x).set 0 (ad 0, .inr (5, ([.int (iI (x 0 0)), .int (iI (x 1 0)), .ref (ad 1), .ref (ad 2), .ref (ad 3), .ref (ad 4), .ref (ad 5), .ref (ad 6), .ref (ad 7), .int (iI (x 2 1)), .int (iI (x 2 2)), .ref (ad 8), .int (iI (x 4 0)), .int (iI (x 3 0)), .ref (ad 9), .ref (ad 10), .ref (ad 11), .ref (ad 12)] : List Value).set 13 (.int (iI v)))) = mw ad cI cZ (bu x 3 (updI (x 3) 0 v)) := rfl
theorem mwa_1 {ad : Nat → Nat} {cI cZ : ClassId} (x : Bk) : (mw ad cI cZ x)[1]? = some (ad 1, .inl (cI, 10, .inl (aI (x 5)))) := rfl
theorem mws_1 {ad : Nat → Nat} {cI cZ : ClassId} (x : Bk) (f : Int → Int) : (mw ad cI cZ x).set 1 (ad 1, .inl (cI, 10, .inl (aI f))) = mw ad cI cZ (bu x 5 f) := rfl
theorem mwa_2 {ad : Nat → Nat} {cI cZ : ClassId} (x : Bk) : (mw ad cI cZ x)[2]? = some (ad 2, .inl (cI, 10, .inl (aI (x 6)))) := rfl
theorem mws_2 {ad : Nat → Nat} {cI cZ : ClassId} (x : Bk) (f : Int → Int) : (mw ad cI cZ x).set 2 (ad 2, .inl (cI, 10, .inl (aI f))) = mw ad cI cZ (bu x 6 f) := rfl
theorem mwa_3 {ad : Nat → Nat} {cI cZ : ClassId} (x : Bk) : (mw ad cI cZ x)[3]? = some (ad 3, .inl (cI, 10, .inl (aI (x 7)))) := rfl
theorem mws_3 {ad : Nat → Nat} {cI cZ : ClassId} (x : Bk) (f : Int → Int) : (mw ad cI cZ x).set 3 (ad 3, .inl (cI, 10, .inl (aI f))) = mw ad cI cZ (bu x 7 f) := rfl
theorem mwa_4 {ad : Nat → Nat} {cI cZ : ClassId} (x : Bk) : (mw ad cI cZ x)[4]? = some (ad 4, .inl (cI, 10, .inl (aI (x 8)))) := rfl
theorem mws_4 {ad : Nat → Nat} {cI cZ : ClassId} (x : Bk) (f : Int → Int) : (mw ad cI cZ x).set 4 (ad 4, .inl (cI, 10, .inl (aI f))) = mw ad cI cZ (bu x 8 f) := rfl
theorem mwa_5 {ad : Nat → Nat} {cI cZ : ClassId} (x : Bk) : (mw ad cI cZ x)[5]? = some (ad 5, .inl (cI, 100, .inl (aI (x 9)))) := rfl
theorem mws_5 {ad : Nat → Nat} {cI cZ : ClassId} (x : Bk) (f : Int → Int) : (mw ad cI cZ x).set 5 (ad 5, .inl (cI, 100, .inl (aI f))) = mw ad cI cZ (bu x 9 f) := rfl
theorem mwa_6 {ad : Nat → Nat} {cI cZ : ClassId} (x : Bk) : (mw ad cI cZ x)[6]? = some (ad 6, .inl (cZ, 100, .inl (aI (x 10)))) := rfl
theorem mws_6 {ad : Nat → Nat} {cI cZ : ClassId} (x : Bk) (f : Int → Int) : (mw ad cI cZ x).set 6 (ad 6, .inl (cZ, 100, .inl (aI f))) = mw ad cI cZ (bu x 10 f) := rfl
theorem mwa_7 {ad : Nat → Nat} {cI cZ : ClassId} (x : Bk) : (mw ad cI cZ x)[7]? = some (ad 7, .inl (cZ, 16, .inl (aI (x 11)))) := rfl
theorem mws_7 {ad : Nat → Nat} {cI cZ : ClassId} (x : Bk) (f : Int → Int) : (mw ad cI cZ x).set 7 (ad 7, .inl (cZ, 16, .inl (aI f))) = mw ad cI cZ (bu x 11 f) := rfl
theorem mwa_8 {ad : Nat → Nat} {cI cZ : ClassId} (x : Bk) : (mw ad cI cZ x)[8]? = some (ad 8, .inl (cI, 10, .inl (aI (x 16)))) := rfl
theorem mws_8 {ad : Nat → Nat} {cI cZ : ClassId} (x : Bk) (f : Int → Int) : (mw ad cI cZ x).set 8 (ad 8, .inl (cI, 10, .inl (aI f))) = mw ad cI cZ (bu x 16 f) := rfl
theorem mwa_9 {ad : Nat → Nat} {cI cZ : ClassId} (x : Bk) : (mw ad cI cZ x)[9]? = some (ad 9, .inl (cI, 10, .inl (aI (x 14)))) := rfl
theorem mws_9 {ad : Nat → Nat} {cI cZ : ClassId} (x : Bk) (f : Int → Int) : (mw ad cI cZ x).set 9 (ad 9, .inl (cI, 10, .inl (aI f))) = mw ad cI cZ (bu x 14 f) := rfl
theorem mwa_10 {ad : Nat → Nat} {cI cZ : ClassId} (x : Bk) : (mw ad cI cZ x)[10]? = some (ad 10, .inl (cI, 40, .inl (aI (x 13)))) := rfl
theorem mws_10 {ad : Nat → Nat} {cI cZ : ClassId} (x : Bk) (f : Int → Int) : (mw ad cI cZ x).set 10 (ad 10, .inl (cI, 40, .inl (aI f))) = mw ad cI cZ (bu x 13 f) := rfl
theorem mwa_11 {ad : Nat → Nat} {cI cZ : ClassId} (x : Bk) : (mw ad cI cZ x)[11]? = some (ad 11, .inl (cI, 10, .inl (aI (x 15)))) := rfl
theorem mws_11 {ad : Nat → Nat} {cI cZ : ClassId} (x : Bk) (f : Int → Int) : (mw ad cI cZ x).set 11 (ad 11, .inl (cI, 10, .inl (aI f))) = mw ad cI cZ (bu x 15 f) := rfl
theorem mwa_12 {ad : Nat → Nat} {cI cZ : ClassId} (x : Bk) : (mw ad cI cZ x)[12]? = some (ad 12, .inl (cI, 1024, .inl (aI (x 18)))) := rfl
theorem mws_12 {ad : Nat → Nat} {cI cZ : ClassId} (x : Bk) (f : Int → Int) : (mw ad cI cZ x).set 12 (ad 12, .inl (cI, 1024, .inl (aI f))) = mw ad cI cZ (bu x 18 f) := rfl
/-! facts that are no good words: nest links and the like, texts, Throwable's statics, classes that are apart -/
def isNst : Cond → Bool
  | .fieldLinkNest .. => true
  | .methodLinkNest .. => true
  | .declares _ => true
  | .castable .. => true
  | _ => false
def nst : List Cond := tables_1.filter isNst
theorem nst_warm {w : Cond} (h : isNst w = true) {s U : State} (hW : s.WarmedH U.vm) (hz : va_Nw w s) : va_Nw w U := by
  cases w with
  | fieldLinkNest a i b n d h => exact va_Nw.warmF hW hz
  | methodLinkNest a i x h => exact va_Nw.warmM hW hz
  | declares x => exact va_Nw.warmD hW hz
  | castable a b => exact va_Nw.warmC hW hz
  | _ => exact absurd h (by simp [isNst])
theorem nst_on {w : Cond} (h : isNst w = true) : w.onTables = true := by
  cases w <;> first | rfl | exact absurd h (by simp [isNst])
theorem tn {w : Cond} (i : Nat) (h : tables_1[i]? = some w) (g : isNst w = true) : w ∈ nst := List.mem_filter.mpr ⟨List.mem_of_getElem? h, g⟩
def strs9 : List (Nat × String) := [(219, "a number outside its range"), (49, "no room for another order"), (208, "no such order"), (221, "the two are the same"), (217, "the order is not free"), (125, "no room for another batch"), (212, "no such batch"), (144, "the order does not suit the batch"), (151, "no room in the batch"), (160, "the order is free"), (183, "no such what"), (190, "a number below 0"), (194, "a share of nothing"), (197, "a mean of no orders")]
def ncs9 : List (String × String) := [("java/lang/UnsupportedOperationException", "java/lang/IllegalArgumentException"), ("java/util/NoSuchElementException", "java/lang/IllegalArgumentException"), ("java/lang/IllegalStateException", "java/lang/IllegalArgumentException"), ("java/lang/ArithmeticException", "java/lang/IllegalArgumentException"), ("java/lang/IllegalArgumentException", "java/lang/UnsupportedOperationException"), ("java/util/NoSuchElementException", "java/lang/UnsupportedOperationException"), ("java/lang/IllegalStateException", "java/lang/UnsupportedOperationException"), ("java/lang/ArithmeticException", "java/lang/UnsupportedOperationException"), ("java/lang/IllegalArgumentException", "java/util/NoSuchElementException"), ("java/lang/UnsupportedOperationException", "java/util/NoSuchElementException"), ("java/lang/IllegalStateException", "java/util/NoSuchElementException"), ("java/lang/ArithmeticException", "java/util/NoSuchElementException"), ("java/lang/IllegalArgumentException", "java/lang/IllegalStateException"), ("java/lang/UnsupportedOperationException", "java/lang/IllegalStateException"), ("java/util/NoSuchElementException", "java/lang/IllegalStateException"), ("java/lang/ArithmeticException", "java/lang/IllegalStateException"), ("java/lang/IllegalArgumentException", "java/lang/ArithmeticException"), ("java/lang/UnsupportedOperationException", "java/lang/ArithmeticException"), ("java/util/NoSuchElementException", "java/lang/ArithmeticException"), ("java/lang/IllegalStateException", "java/lang/ArithmeticException")]
theorem zq_kept {C n d : String} {base : Nat} {A : Nat → Prop} {s U : State} (hF : va_F A s U) (hA : ∀ q : Nat, A q → base ≤ q) (h : vx_Zq C n d (fun q => base ≤ q) s s.heap) : vx_Zq C n d (fun q => base ≤ q) s U.heap :=
  h.kept (fun a ha hn => hF.2 a ha (fun q => hn (hA a q)))
def zz (base : Nat) (U : State) : Prop := (∀ w ∈ nst, va_Nw w U) ∧ vx_Zq Bundle.tN "UNASSIGNED_STACK" Bundle.steD (fun q => base ≤ q) U U.heap ∧ vx_Zq Bundle.tN "SUPPRESSED_SENTINEL" Bundle.listD (fun q => base ≤ q) U U.heap ∧ (∀ q ∈ strs9, ∃ sa : Nat, vk_R "BatchSavings" q.1 q.2 sa U) ∧ ∀ q ∈ ncs9, va_Nc q.1 q.2 U
theorem zzB (base : Nat) : ZB (zz base) := fun U g mk a h =>
  ⟨fun w hw => va_tabs (nst_on (List.mem_filter.mp hw).2) (rfl : U.vm = (U.calling g mk a).vm) (h.1 w hw), vx_Zq.moved (u := U) (U := U.calling g mk a) (Vm.Alike.refl U.vm) h.2.1, vx_Zq.moved (u := U) (U := U.calling g mk a) (Vm.Alike.refl U.vm) h.2.2.1,
    fun q hq => by obtain ⟨sa, h1⟩ := h.2.2.2.1 q hq; exact ⟨sa, vk_R.same (u := U) (U := U.calling g mk a) rfl h1⟩, fun q hq => va_Nc.moved (u := U) (U := U.calling g mk a) (Vm.Alike.refl U.vm) (h.2.2.2.2 q hq)⟩
theorem zzG (base : Nat) : ZG base (zz base) := fun s U A hA hb hW hF h =>
  ⟨fun w hw => nst_warm (List.mem_filter.mp hw).2 hW (h.1 w hw), vx_Zq.moved hW.alike (zq_kept hF hA h.2.1), vx_Zq.moved hW.alike (zq_kept hF hA h.2.2.1),
    fun q hq => by obtain ⟨sa, h1⟩ := h.2.2.2.1 q hq; exact ⟨sa, vk_R.warm hW h1⟩, fun q hq => va_Nc.moved hW.alike (h.2.2.2.2 q hq)⟩
theorem kn_28 : (Cond.methodLinkNest "BatchSavings" 9 y_O_init "BatchSavings") ∈ nst := tn 28 (by decide +kernel) rfl
theorem kn_36 : (Cond.fieldLinkNest "BatchSavings$Batches" 49 "BatchSavings$Orders" "seconds" "[I" "BatchSavings") ∈ nst := tn 36 (by decide +kernel) rfl
theorem kn_38 : (Cond.fieldLinkNest "BatchSavings$Rules" 45 "BatchSavings$Orders" "sizes" "[I" "BatchSavings") ∈ nst := tn 38 (by decide +kernel) rfl
theorem kn_39 : (Cond.fieldLinkNest "BatchSavings" 174 "BatchSavings$Orders" "sizes" "[I" "BatchSavings") ∈ nst := tn 39 (by decide +kernel) rfl
theorem kn_41 : (Cond.fieldLinkNest "BatchSavings$Rules" 66 "BatchSavings$Orders" "zones" "[I" "BatchSavings") ∈ nst := tn 41 (by decide +kernel) rfl
theorem kn_43 : (Cond.fieldLinkNest "BatchSavings$Rules" 42 "BatchSavings$Orders" "weights" "[I" "BatchSavings") ∈ nst := tn 43 (by decide +kernel) rfl
theorem kn_44 : (Cond.fieldLinkNest "BatchSavings" 87 "BatchSavings$Orders" "weights" "[I" "BatchSavings") ∈ nst := tn 44 (by decide +kernel) rfl
theorem kn_47 : (Cond.fieldLinkNest "BatchSavings" 43 "BatchSavings$Orders" "number" "I" "BatchSavings") ∈ nst := tn 47 (by decide +kernel) rfl
theorem kn_48 : (Cond.fieldLinkNest "BatchSavings$Rules" 37 "BatchSavings$Orders" "number" "I" "BatchSavings") ∈ nst := tn 48 (by decide +kernel) rfl
theorem kn_49 : (Cond.fieldLinkNest "BatchSavings$Batches" 35 "BatchSavings$Orders" "number" "I" "BatchSavings") ∈ nst := tn 49 (by decide +kernel) rfl
theorem kn_50 : (Cond.fieldLinkNest "BatchSavings$Matching" 48 "BatchSavings$Orders" "number" "I" "BatchSavings") ∈ nst := tn 50 (by decide +kernel) rfl
theorem kn_67 : (Cond.methodLinkNest "BatchSavings" 18 y_R_init "BatchSavings") ∈ nst := tn 67 (by decide +kernel) rfl
theorem kn_77 : (Cond.fieldLinkNest "BatchSavings" 84 "BatchSavings$Rules" "weightLimit" "I" "BatchSavings") ∈ nst := tn 77 (by decide +kernel) rfl
theorem kn_79 : (Cond.fieldLinkNest "BatchSavings" 97 "BatchSavings$Rules" "sizeLimit" "I" "BatchSavings") ∈ nst := tn 79 (by decide +kernel) rfl
theorem kn_98 : (Cond.methodLinkNest "BatchSavings" 27 y_B_init "BatchSavings") ∈ nst := tn 98 (by decide +kernel) rfl
theorem kn_106 : (Cond.fieldLinkNest "BatchSavings" 165 "BatchSavings$Batches" "lengths" "[I" "BatchSavings") ∈ nst := tn 106 (by decide +kernel) rfl
theorem kn_108 : (Cond.fieldLinkNest "BatchSavings" 157 "BatchSavings$Batches" "homes" "[I" "BatchSavings") ∈ nst := tn 108 (by decide +kernel) rfl
theorem kn_110 : (Cond.fieldLinkNest "BatchSavings" 124 "BatchSavings$Batches" "number" "I" "BatchSavings") ∈ nst := tn 110 (by decide +kernel) rfl
theorem kn_124 : (Cond.methodLinkNest "BatchSavings" 34 y_M_init "BatchSavings") ∈ nst := tn 124 (by decide +kernel) rfl
theorem kn_131 : (Cond.fieldLinkNest "BatchSavings" 121 "BatchSavings$Matching" "partners" "[I" "BatchSavings") ∈ nst := tn 131 (by decide +kernel) rfl
theorem kn_135 : (Cond.fieldLinkNest "BatchSavings" 117 "BatchSavings$Matching" "wasExact" "Z" "BatchSavings") ∈ nst := tn 135 (by decide +kernel) rfl
theorem kn_168 : (Cond.methodLinkNest "BatchSavings" 107 y_B_freeOrders "BatchSavings") ∈ nst := tn 168 (by decide +kernel) rfl
theorem kn_176 : (Cond.methodLinkNest "BatchSavings" 200 y_M_pairs "BatchSavings") ∈ nst := tn 176 (by decide +kernel) rfl
theorem kn_180 : (Cond.methodLinkNest "BatchSavings" 114 y_M_saved "BatchSavings") ∈ nst := tn 180 (by decide +kernel) rfl
theorem kn_184 : (Cond.methodLinkNest "BatchSavings$Matching" 54 y_O_savingOf "BatchSavings") ∈ nst := tn 184 (by decide +kernel) rfl
theorem kn_188 : (Cond.methodLinkNest "BatchSavings$Orders" 37 y_S_pairIndex "BatchSavings") ∈ nst := tn 188 (by decide +kernel) rfl
theorem kn_205 : (Cond.castable "java/lang/IllegalArgumentException" "java/lang/IllegalArgumentException") ∈ nst := tn 205 (by decide +kernel) rfl
theorem kn_275 : (Cond.castable "java/lang/UnsupportedOperationException" "java/lang/UnsupportedOperationException") ∈ nst := tn 275 (by decide +kernel) rfl
theorem kn_289 : (Cond.methodLinkNest "BatchSavings" 54 y_O_add "BatchSavings") ∈ nst := tn 289 (by decide +kernel) rfl
theorem kn_309 : (Cond.methodLinkNest "BatchSavings" 203 y_O_has "BatchSavings") ∈ nst := tn 309 (by decide +kernel) rfl
theorem kn_315 : (Cond.castable "java/util/NoSuchElementException" "java/util/NoSuchElementException") ∈ nst := tn 315 (by decide +kernel) rfl
theorem kn_333 : (Cond.methodLinkNest "BatchSavings" 62 y_O_putTogether "BatchSavings") ∈ nst := tn 333 (by decide +kernel) rfl
theorem kn_337 : (Cond.methodLinkNest "BatchSavings" 65 y_O_savingOf "BatchSavings") ∈ nst := tn 337 (by decide +kernel) rfl
theorem kn_352 : (Cond.methodLinkNest "BatchSavings" 69 y_R_bar "BatchSavings") ∈ nst := tn 352 (by decide +kernel) rfl
theorem kn_356 : (Cond.methodLinkNest "BatchSavings$Rules" 33 y_S_pairIndex "BatchSavings") ∈ nst := tn 356 (by decide +kernel) rfl
theorem kn_357 : (Cond.methodLinkNest "BatchSavings" 73 y_R_allowPair "BatchSavings") ∈ nst := tn 357 (by decide +kernel) rfl
theorem kn_389 : (Cond.methodLinkNest "BatchSavings" 214 y_B_isFree "BatchSavings") ∈ nst := tn 389 (by decide +kernel) rfl
theorem kn_392 : (Cond.castable "java/lang/IllegalStateException" "java/lang/IllegalStateException") ∈ nst := tn 392 (by decide +kernel) rfl
theorem kn_413 : (Cond.methodLinkNest "BatchSavings" 94 y_R_bringNear "BatchSavings") ∈ nst := tn 413 (by decide +kernel) rfl
theorem kn_424 : (Cond.methodLinkNest "BatchSavings" 100 y_R_aboveAlone "BatchSavings") ∈ nst := tn 424 (by decide +kernel) rfl
theorem kn_442 : (Cond.methodLinkNest "BatchSavings" 228 y_M_putGain "BatchSavings") ∈ nst := tn 442 (by decide +kernel) rfl
theorem kn_446 : (Cond.methodLinkNest "BatchSavings$Matching" 31 y_S_pairIndex "BatchSavings") ∈ nst := tn 446 (by decide +kernel) rfl
theorem kn_447 : (Cond.methodLinkNest "BatchSavings" 110 y_M_pairAnew "BatchSavings") ∈ nst := tn 447 (by decide +kernel) rfl
theorem kn_505 : (Cond.methodLinkNest "BatchSavings" 127 y_M_part "BatchSavings") ∈ nst := tn 505 (by decide +kernel) rfl
theorem kn_509 : (Cond.methodLinkNest "BatchSavings" 130 y_B_addEmpty "BatchSavings") ∈ nst := tn 509 (by decide +kernel) rfl
theorem kn_513 : (Cond.methodLinkNest "BatchSavings" 133 y_B_put "BatchSavings") ∈ nst := tn 513 (by decide +kernel) rfl
theorem kn_528 : (Cond.methodLinkNest "BatchSavings" 211 y_B_has "BatchSavings") ∈ nst := tn 528 (by decide +kernel) rfl
theorem kn_537 : (Cond.methodLinkNest "BatchSavings" 231 y_R_startSet "BatchSavings") ∈ nst := tn 537 (by decide +kernel) rfl
theorem kn_538 : (Cond.methodLinkNest "BatchSavings" 168 y_B_orderAt "BatchSavings") ∈ nst := tn 538 (by decide +kernel) rfl
theorem kn_542 : (Cond.methodLinkNest "BatchSavings" 234 y_R_addToSet "BatchSavings") ∈ nst := tn 542 (by decide +kernel) rfl
theorem kn_543 : (Cond.methodLinkNest "BatchSavings" 237 y_R_allowSet "BatchSavings") ∈ nst := tn 543 (by decide +kernel) rfl
theorem kn_544 : (Cond.methodLinkNest "BatchSavings" 186 y_B_savingWithLast "BatchSavings") ∈ nst := tn 544 (by decide +kernel) rfl
theorem kn_549 : (Cond.methodLinkNest "BatchSavings$Batches" 46 y_O_savingOf "BatchSavings") ∈ nst := tn 549 (by decide +kernel) rfl
theorem kn_551 : (Cond.methodLinkNest "BatchSavings" 147 y_B_isFull "BatchSavings") ∈ nst := tn 551 (by decide +kernel) rfl
theorem kn_556 : (Cond.methodLinkNest "BatchSavings" 153 y_B_wayOf "BatchSavings") ∈ nst := tn 556 (by decide +kernel) rfl
theorem kn_576 : (Cond.methodLinkNest "BatchSavings" 162 y_B_take "BatchSavings") ∈ nst := tn 576 (by decide +kernel) rfl
theorem kn_594 : (Cond.methodLinkNest "BatchSavings" 171 y_B_savedBy "BatchSavings") ∈ nst := tn 594 (by decide +kernel) rfl
theorem kn_595 : (Cond.methodLinkNest "BatchSavings" 177 y_B_sumOf "BatchSavings") ∈ nst := tn 595 (by decide +kernel) rfl
theorem kn_616 : (Cond.castable "java/lang/ArithmeticException" "java/lang/ArithmeticException") ∈ nst := tn 616 (by decide +kernel) rfl
theorem kn_638 : (Cond.methodLinkNest "BatchSavings" 199 y_B_saved "BatchSavings") ∈ nst := tn 638 (by decide +kernel) rfl
