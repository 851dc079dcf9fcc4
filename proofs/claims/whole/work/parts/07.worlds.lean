def cw (a : Nat → Nat) (cI : ClassId) (f : Sg) : va_W := [(a 0, .inr (8, [.ref (a 1), .ref (a 7), .ref (a 9), .ref (a 14), .ref (a 20), .ref (a 22), .ref (a 24), .ref (a 26), .ref (a 27), .ref (a 33), .int (f 0 10)])),
  (a 1, .inr (5, [.ref (a 2), .ref (a 3), .ref (a 4), .ref (a 5), .ref (a 6)])),
  (a 2, .inl (cI, 4, .inl (f 2))),
  (a 3, .inl (cI, 4, .inl (f 3))),
  (a 4, .inl (cI, 4, .inl (f 4))),
  (a 5, .inl (cI, 5, .inl (f 5))),
  (a 6, .inl (cI, 5, .inl (f 6))),
  (a 7, .inr (4, [.ref (a 8), .int (f 7 1)])),
  (a 8, .inl (cI, 9, .inl (f 8))),
  (a 9, .inr (6, [.ref (a 1), .ref (a 10), .ref (a 11), .ref (a 12), .ref (a 13), .int (f 9 5)])),
  (a 10, .inl (cI, 9, .inl (f 10))),
  (a 11, .inl (cI, 10, .inl (f 11))),
  (a 12, .inl (cI, 10, .inl (f 12))),
  (a 13, .inl (cI, 5, .inl (f 13))),
  (a 14, .inr (2, [.ref (a 1), .ref (a 9), .int (f 14 2), .int (f 14 3), .ref (a 15), .ref (a 16), .ref (a 17), .ref (a 18), .ref (a 19), .int (f 14 9), .int (f 14 10)])),
  (a 15, .inl (cI, 9, .inl (f 15))),
  (a 16, .inl (cI, 9, .inl (f 16))),
  (a 17, .inl (cI, 9, .inl (f 17))),
  (a 18, .inl (cI, 10, .inl (f 18))),
  (a 19, .inl (cI, 10, .inl (f 19))),
  (a 20, .inr (0, [.ref (a 1), .ref (a 9), .int (f 20 2), .int (f 20 3), .ref (a 21), .int (f 20 5), .int (f 20 6)])),
  (a 21, .inl (cI, 9, .inl (f 21))),
  (a 22, .inr (3, [.ref (a 1), .ref (a 9), .int (f 22 2), .int (f 22 3), .int (f 22 4), .ref (a 23)])),
  (a 23, .inl (cI, 10, .inl (f 23))),
  (a 24, .inr (1, [.ref (a 1), .ref (a 9), .int (f 24 2), .int (f 24 3), .ref (a 7), .ref (a 25), .int (f 24 6)])),
  (a 25, .inl (cI, 9, .inl (f 25))),
  (a 26, .inr (7, [.ref (a 7), .ref (a 9), .int (f 26 2)])),
  (a 27, .inr (5, [.ref (a 28), .ref (a 29), .ref (a 30), .ref (a 31), .ref (a 32)])),
  (a 28, .inl (cI, 4, .inl (f 28))),
  (a 29, .inl (cI, 4, .inl (f 29))),
  (a 30, .inl (cI, 4, .inl (f 30))),
  (a 31, .inl (cI, 5, .inl (f 31))),
  (a 32, .inl (cI, 5, .inl (f 32))),
  (a 33, .inr (5, [.ref (a 34), .ref (a 35), .ref (a 36), .ref (a 37), .ref (a 38)])),
  (a 34, .inl (cI, 4, .inl (f 34))),
  (a 35, .inl (cI, 4, .inl (f 35))),
  (a 36, .inl (cI, 4, .inl (f 36))),
  (a 37, .inl (cI, 5, .inl (f 37))),
  (a 38, .inl (cI, 5, .inl (f 38)))]
theorem cw_fix (a : Nat → Nat) (cI : ClassId) : Fix (cw a cI) := fun _ _ => rfl
theorem ce_0 {a : Nat → Nat} {cI : ClassId} {f : Sg} : (cw a cI f)[0]? = some (a 0, .inr (8, [.ref (a 1), .ref (a 7), .ref (a 9), .ref (a 14), .ref (a 20), .ref (a 22), .ref (a 24), .ref (a 26), .ref (a 27), .ref (a 33), .int (f 0 10)])) := rfl
theorem cs_0_10 {a : Nat → Nat} {cI : ClassId} {f : Sg} {x : Int32} : (cw a cI f).set 0 (a 0, .inr (8, [.ref (a 1), .ref (a 7), .ref (a 9), .ref (a 14), .ref (a 20), .ref (a 22), .ref (a 24), .ref (a 26), .ref (a 27), .ref (a 33), .int x])) = cw a cI (va_up f 0 (upd (f 0) 10 x)) := rfl
theorem ce_1 {a : Nat → Nat} {cI : ClassId} {f : Sg} : (cw a cI f)[1]? = some (a 1, .inr (5, [.ref (a 2), .ref (a 3), .ref (a 4), .ref (a 5), .ref (a 6)])) := rfl
theorem ce_2 {a : Nat → Nat} {cI : ClassId} {f : Sg} : (cw a cI f)[2]? = some (a 2, .inl (cI, 4, .inl (f 2))) := rfl
theorem cs_2 {a : Nat → Nat} {cI : ClassId} {f : Sg} {h : Nat → Int32} : (cw a cI f).set 2 (a 2, .inl (cI, 4, .inl h)) = cw a cI (va_up f 2 h) := rfl
theorem ce_3 {a : Nat → Nat} {cI : ClassId} {f : Sg} : (cw a cI f)[3]? = some (a 3, .inl (cI, 4, .inl (f 3))) := rfl
theorem cs_3 {a : Nat → Nat} {cI : ClassId} {f : Sg} {h : Nat → Int32} : (cw a cI f).set 3 (a 3, .inl (cI, 4, .inl h)) = cw a cI (va_up f 3 h) := rfl
theorem ce_4 {a : Nat → Nat} {cI : ClassId} {f : Sg} : (cw a cI f)[4]? = some (a 4, .inl (cI, 4, .inl (f 4))) := rfl
theorem cs_4 {a : Nat → Nat} {cI : ClassId} {f : Sg} {h : Nat → Int32} : (cw a cI f).set 4 (a 4, .inl (cI, 4, .inl h)) = cw a cI (va_up f 4 h) := rfl
theorem ce_5 {a : Nat → Nat} {cI : ClassId} {f : Sg} : (cw a cI f)[5]? = some (a 5, .inl (cI, 5, .inl (f 5))) := rfl
theorem cs_5 {a : Nat → Nat} {cI : ClassId} {f : Sg} {h : Nat → Int32} : (cw a cI f).set 5 (a 5, .inl (cI, 5, .inl h)) = cw a cI (va_up f 5 h) := rfl
theorem ce_6 {a : Nat → Nat} {cI : ClassId} {f : Sg} : (cw a cI f)[6]? = some (a 6, .inl (cI, 5, .inl (f 6))) := rfl
theorem cs_6 {a : Nat → Nat} {cI : ClassId} {f : Sg} {h : Nat → Int32} : (cw a cI f).set 6 (a 6, .inl (cI, 5, .inl h)) = cw a cI (va_up f 6 h) := rfl
theorem ce_7 {a : Nat → Nat} {cI : ClassId} {f : Sg} : (cw a cI f)[7]? = some (a 7, .inr (4, [.ref (a 8), .int (f 7 1)])) := rfl
theorem cs_7_1 {a : Nat → Nat} {cI : ClassId} {f : Sg} {x : Int32} : (cw a cI f).set 7 (a 7, .inr (4, [.ref (a 8), .int x])) = cw a cI (va_up f 7 (upd (f 7) 1 x)) := rfl
theorem ce_8 {a : Nat → Nat} {cI : ClassId} {f : Sg} : (cw a cI f)[8]? = some (a 8, .inl (cI, 9, .inl (f 8))) := rfl
theorem cs_8 {a : Nat → Nat} {cI : ClassId} {f : Sg} {h : Nat → Int32} : (cw a cI f).set 8 (a 8, .inl (cI, 9, .inl h)) = cw a cI (va_up f 8 h) := rfl
theorem ce_9 {a : Nat → Nat} {cI : ClassId} {f : Sg} : (cw a cI f)[9]? = some (a 9, .inr (6, [.ref (a 1), .ref (a 10), .ref (a 11), .ref (a 12), .ref (a 13), .int (f 9 5)])) := rfl
theorem cs_9_5 {a : Nat → Nat} {cI : ClassId} {f : Sg} {x : Int32} : (cw a cI f).set 9 (a 9, .inr (6, [.ref (a 1), .ref (a 10), .ref (a 11), .ref (a 12), .ref (a 13), .int x])) = cw a cI (va_up f 9 (upd (f 9) 5 x)) := rfl
theorem ce_10 {a : Nat → Nat} {cI : ClassId} {f : Sg} : (cw a cI f)[10]? = some (a 10, .inl (cI, 9, .inl (f 10))) := rfl
theorem cs_10 {a : Nat → Nat} {cI : ClassId} {f : Sg} {h : Nat → Int32} : (cw a cI f).set 10 (a 10, .inl (cI, 9, .inl h)) = cw a cI (va_up f 10 h) := rfl
theorem ce_11 {a : Nat → Nat} {cI : ClassId} {f : Sg} : (cw a cI f)[11]? = some (a 11, .inl (cI, 10, .inl (f 11))) := rfl
theorem cs_11 {a : Nat → Nat} {cI : ClassId} {f : Sg} {h : Nat → Int32} : (cw a cI f).set 11 (a 11, .inl (cI, 10, .inl h)) = cw a cI (va_up f 11 h) := rfl
theorem ce_12 {a : Nat → Nat} {cI : ClassId} {f : Sg} : (cw a cI f)[12]? = some (a 12, .inl (cI, 10, .inl (f 12))) := rfl
theorem cs_12 {a : Nat → Nat} {cI : ClassId} {f : Sg} {h : Nat → Int32} : (cw a cI f).set 12 (a 12, .inl (cI, 10, .inl h)) = cw a cI (va_up f 12 h) := rfl
theorem ce_13 {a : Nat → Nat} {cI : ClassId} {f : Sg} : (cw a cI f)[13]? = some (a 13, .inl (cI, 5, .inl (f 13))) := rfl
theorem cs_13 {a : Nat → Nat} {cI : ClassId} {f : Sg} {h : Nat → Int32} : (cw a cI f).set 13 (a 13, .inl (cI, 5, .inl h)) = cw a cI (va_up f 13 h) := rfl
theorem ce_14 {a : Nat → Nat} {cI : ClassId} {f : Sg} : (cw a cI f)[14]? = some (a 14, .inr (2, [.ref (a 1), .ref (a 9), .int (f 14 2), .int (f 14 3), .ref (a 15), .ref (a 16), .ref (a 17), .ref (a 18), .ref (a 19), .int (f 14 9), .int (f 14 10)])) := rfl
theorem cs_14_2 {a : Nat → Nat} {cI : ClassId} {f : Sg} {x : Int32} : (cw a cI f).set 14 (a 14, .inr (2, [.ref (a 1), .ref (a 9), .int x, .int (f 14 3), .ref (a 15), .ref (a 16), .ref (a 17), .ref (a 18), .ref (a 19), .int (f 14 9), .int (f 14 10)])) = cw a cI (va_up f 14 (upd (f 14) 2 x)) := rfl
theorem cs_14_3 {a : Nat → Nat} {cI : ClassId} {f : Sg} {x : Int32} : (cw a cI f).set 14 (a 14, .inr (2, [.ref (a 1), .ref (a 9), .int (f 14 2), .int x, .ref (a 15), .ref (a 16), .ref (a 17), .ref (a 18), .ref (a 19), .int (f 14 9), .int (f 14 10)])) = cw a cI (va_up f 14 (upd (f 14) 3 x)) := rfl
theorem cs_14_9 {a : Nat → Nat} {cI : ClassId} {f : Sg} {x : Int32} : (cw a cI f).set 14 (a 14, .inr (2, [.ref (a 1), .ref (a 9), .int (f 14 2), .int (f 14 3), .ref (a 15), .ref (a 16), .ref (a 17), .ref (a 18), .ref (a 19), .int x, .int (f 14 10)])) = cw a cI (va_up f 14 (upd (f 14) 9 x)) := rfl
theorem cs_14_10 {a : Nat → Nat} {cI : ClassId} {f : Sg} {x : Int32} : (cw a cI f).set 14 (a 14, .inr (2, [.ref (a 1), .ref (a 9), .int (f 14 2), .int (f 14 3), .ref (a 15), .ref (a 16), .ref (a 17), .ref (a 18), .ref (a 19), .int (f 14 9), .int x])) = cw a cI (va_up f 14 (upd (f 14) 10 x)) := rfl
theorem ce_15 {a : Nat → Nat} {cI : ClassId} {f : Sg} : (cw a cI f)[15]? = some (a 15, .inl (cI, 9, .inl (f 15))) := rfl
theorem cs_15 {a : Nat → Nat} {cI : ClassId} {f : Sg} {h : Nat → Int32} : (cw a cI f).set 15 (a 15, .inl (cI, 9, .inl h)) = cw a cI (va_up f 15 h) := rfl
theorem ce_16 {a : Nat → Nat} {cI : ClassId} {f : Sg} : (cw a cI f)[16]? = some (a 16, .inl (cI, 9, .inl (f 16))) := rfl
theorem cs_16 {a : Nat → Nat} {cI : ClassId} {f : Sg} {h : Nat → Int32} : (cw a cI f).set 16 (a 16, .inl (cI, 9, .inl h)) = cw a cI (va_up f 16 h) := rfl
theorem ce_17 {a : Nat → Nat} {cI : ClassId} {f : Sg} : (cw a cI f)[17]? = some (a 17, .inl (cI, 9, .inl (f 17))) := rfl
theorem cs_17 {a : Nat → Nat} {cI : ClassId} {f : Sg} {h : Nat → Int32} : (cw a cI f).set 17 (a 17, .inl (cI, 9, .inl h)) = cw a cI (va_up f 17 h) := rfl
theorem ce_18 {a : Nat → Nat} {cI : ClassId} {f : Sg} : (cw a cI f)[18]? = some (a 18, .inl (cI, 10, .inl (f 18))) := rfl
theorem cs_18 {a : Nat → Nat} {cI : ClassId} {f : Sg} {h : Nat → Int32} : (cw a cI f).set 18 (a 18, .inl (cI, 10, .inl h)) = cw a cI (va_up f 18 h) := rfl
theorem ce_19 {a : Nat → Nat} {cI : ClassId} {f : Sg} : (cw a cI f)[19]? = some (a 19, .inl (cI, 10, .inl (f 19))) := rfl
theorem cs_19 {a : Nat → Nat} {cI : ClassId} {f : Sg} {h : Nat → Int32} : (cw a cI f).set 19 (a 19, .inl (cI, 10, .inl h)) = cw a cI (va_up f 19 h) := rfl
theorem ce_20 {a : Nat → Nat} {cI : ClassId} {f : Sg} : (cw a cI f)[20]? = some (a 20, .inr (0, [.ref (a 1), .ref (a 9), .int (f 20 2), .int (f 20 3), .ref (a 21), .int (f 20 5), .int (f 20 6)])) := rfl
theorem cs_20_2 {a : Nat → Nat} {cI : ClassId} {f : Sg} {x : Int32} : (cw a cI f).set 20 (a 20, .inr (0, [.ref (a 1), .ref (a 9), .int x, .int (f 20 3), .ref (a 21), .int (f 20 5), .int (f 20 6)])) = cw a cI (va_up f 20 (upd (f 20) 2 x)) := rfl
theorem cs_20_3 {a : Nat → Nat} {cI : ClassId} {f : Sg} {x : Int32} : (cw a cI f).set 20 (a 20, .inr (0, [.ref (a 1), .ref (a 9), .int (f 20 2), .int x, .ref (a 21), .int (f 20 5), .int (f 20 6)])) = cw a cI (va_up f 20 (upd (f 20) 3 x)) := rfl
theorem cs_20_5 {a : Nat → Nat} {cI : ClassId} {f : Sg} {x : Int32} : (cw a cI f).set 20 (a 20, .inr (0, [.ref (a 1), .ref (a 9), .int (f 20 2), .int (f 20 3), .ref (a 21), .int x, .int (f 20 6)])) = cw a cI (va_up f 20 (upd (f 20) 5 x)) := rfl
theorem cs_20_6 {a : Nat → Nat} {cI : ClassId} {f : Sg} {x : Int32} : (cw a cI f).set 20 (a 20, .inr (0, [.ref (a 1), .ref (a 9), .int (f 20 2), .int (f 20 3), .ref (a 21), .int (f 20 5), .int x])) = cw a cI (va_up f 20 (upd (f 20) 6 x)) := rfl
theorem ce_21 {a : Nat → Nat} {cI : ClassId} {f : Sg} : (cw a cI f)[21]? = some (a 21, .inl (cI, 9, .inl (f 21))) := rfl
theorem cs_21 {a : Nat → Nat} {cI : ClassId} {f : Sg} {h : Nat → Int32} : (cw a cI f).set 21 (a 21, .inl (cI, 9, .inl h)) = cw a cI (va_up f 21 h) := rfl
theorem ce_22 {a : Nat → Nat} {cI : ClassId} {f : Sg} : (cw a cI f)[22]? = some (a 22, .inr (3, [.ref (a 1), .ref (a 9), .int (f 22 2), .int (f 22 3), .int (f 22 4), .ref (a 23)])) := rfl
theorem cs_22_2 {a : Nat → Nat} {cI : ClassId} {f : Sg} {x : Int32} : (cw a cI f).set 22 (a 22, .inr (3, [.ref (a 1), .ref (a 9), .int x, .int (f 22 3), .int (f 22 4), .ref (a 23)])) = cw a cI (va_up f 22 (upd (f 22) 2 x)) := rfl
theorem cs_22_3 {a : Nat → Nat} {cI : ClassId} {f : Sg} {x : Int32} : (cw a cI f).set 22 (a 22, .inr (3, [.ref (a 1), .ref (a 9), .int (f 22 2), .int x, .int (f 22 4), .ref (a 23)])) = cw a cI (va_up f 22 (upd (f 22) 3 x)) := rfl
theorem cs_22_4 {a : Nat → Nat} {cI : ClassId} {f : Sg} {x : Int32} : (cw a cI f).set 22 (a 22, .inr (3, [.ref (a 1), .ref (a 9), .int (f 22 2), .int (f 22 3), .int x, .ref (a 23)])) = cw a cI (va_up f 22 (upd (f 22) 4 x)) := rfl
theorem ce_23 {a : Nat → Nat} {cI : ClassId} {f : Sg} : (cw a cI f)[23]? = some (a 23, .inl (cI, 10, .inl (f 23))) := rfl
theorem cs_23 {a : Nat → Nat} {cI : ClassId} {f : Sg} {h : Nat → Int32} : (cw a cI f).set 23 (a 23, .inl (cI, 10, .inl h)) = cw a cI (va_up f 23 h) := rfl
theorem ce_24 {a : Nat → Nat} {cI : ClassId} {f : Sg} : (cw a cI f)[24]? = some (a 24, .inr (1, [.ref (a 1), .ref (a 9), .int (f 24 2), .int (f 24 3), .ref (a 7), .ref (a 25), .int (f 24 6)])) := rfl
theorem cs_24_2 {a : Nat → Nat} {cI : ClassId} {f : Sg} {x : Int32} : (cw a cI f).set 24 (a 24, .inr (1, [.ref (a 1), .ref (a 9), .int x, .int (f 24 3), .ref (a 7), .ref (a 25), .int (f 24 6)])) = cw a cI (va_up f 24 (upd (f 24) 2 x)) := rfl
theorem cs_24_3 {a : Nat → Nat} {cI : ClassId} {f : Sg} {x : Int32} : (cw a cI f).set 24 (a 24, .inr (1, [.ref (a 1), .ref (a 9), .int (f 24 2), .int x, .ref (a 7), .ref (a 25), .int (f 24 6)])) = cw a cI (va_up f 24 (upd (f 24) 3 x)) := rfl
theorem cs_24_6 {a : Nat → Nat} {cI : ClassId} {f : Sg} {x : Int32} : (cw a cI f).set 24 (a 24, .inr (1, [.ref (a 1), .ref (a 9), .int (f 24 2), .int (f 24 3), .ref (a 7), .ref (a 25), .int x])) = cw a cI (va_up f 24 (upd (f 24) 6 x)) := rfl
theorem ce_25 {a : Nat → Nat} {cI : ClassId} {f : Sg} : (cw a cI f)[25]? = some (a 25, .inl (cI, 9, .inl (f 25))) := rfl
theorem cs_25 {a : Nat → Nat} {cI : ClassId} {f : Sg} {h : Nat → Int32} : (cw a cI f).set 25 (a 25, .inl (cI, 9, .inl h)) = cw a cI (va_up f 25 h) := rfl
theorem ce_26 {a : Nat → Nat} {cI : ClassId} {f : Sg} : (cw a cI f)[26]? = some (a 26, .inr (7, [.ref (a 7), .ref (a 9), .int (f 26 2)])) := rfl
theorem cs_26_2 {a : Nat → Nat} {cI : ClassId} {f : Sg} {x : Int32} : (cw a cI f).set 26 (a 26, .inr (7, [.ref (a 7), .ref (a 9), .int x])) = cw a cI (va_up f 26 (upd (f 26) 2 x)) := rfl
theorem ce_27 {a : Nat → Nat} {cI : ClassId} {f : Sg} : (cw a cI f)[27]? = some (a 27, .inr (5, [.ref (a 28), .ref (a 29), .ref (a 30), .ref (a 31), .ref (a 32)])) := rfl
theorem ce_28 {a : Nat → Nat} {cI : ClassId} {f : Sg} : (cw a cI f)[28]? = some (a 28, .inl (cI, 4, .inl (f 28))) := rfl
theorem cs_28 {a : Nat → Nat} {cI : ClassId} {f : Sg} {h : Nat → Int32} : (cw a cI f).set 28 (a 28, .inl (cI, 4, .inl h)) = cw a cI (va_up f 28 h) := rfl
theorem ce_29 {a : Nat → Nat} {cI : ClassId} {f : Sg} : (cw a cI f)[29]? = some (a 29, .inl (cI, 4, .inl (f 29))) := rfl
theorem cs_29 {a : Nat → Nat} {cI : ClassId} {f : Sg} {h : Nat → Int32} : (cw a cI f).set 29 (a 29, .inl (cI, 4, .inl h)) = cw a cI (va_up f 29 h) := rfl
theorem ce_30 {a : Nat → Nat} {cI : ClassId} {f : Sg} : (cw a cI f)[30]? = some (a 30, .inl (cI, 4, .inl (f 30))) := rfl
theorem cs_30 {a : Nat → Nat} {cI : ClassId} {f : Sg} {h : Nat → Int32} : (cw a cI f).set 30 (a 30, .inl (cI, 4, .inl h)) = cw a cI (va_up f 30 h) := rfl
theorem ce_31 {a : Nat → Nat} {cI : ClassId} {f : Sg} : (cw a cI f)[31]? = some (a 31, .inl (cI, 5, .inl (f 31))) := rfl
theorem cs_31 {a : Nat → Nat} {cI : ClassId} {f : Sg} {h : Nat → Int32} : (cw a cI f).set 31 (a 31, .inl (cI, 5, .inl h)) = cw a cI (va_up f 31 h) := rfl
theorem ce_32 {a : Nat → Nat} {cI : ClassId} {f : Sg} : (cw a cI f)[32]? = some (a 32, .inl (cI, 5, .inl (f 32))) := rfl
theorem cs_32 {a : Nat → Nat} {cI : ClassId} {f : Sg} {h : Nat → Int32} : (cw a cI f).set 32 (a 32, .inl (cI, 5, .inl h)) = cw a cI (va_up f 32 h) := rfl
theorem ce_33 {a : Nat → Nat} {cI : ClassId} {f : Sg} : (cw a cI f)[33]? = some (a 33, .inr (5, [.ref (a 34), .ref (a 35), .ref (a 36), .ref (a 37), .ref (a 38)])) := rfl
theorem ce_34 {a : Nat → Nat} {cI : ClassId} {f : Sg} : (cw a cI f)[34]? = some (a 34, .inl (cI, 4, .inl (f 34))) := rfl
theorem cs_34 {a : Nat → Nat} {cI : ClassId} {f : Sg} {h : Nat → Int32} : (cw a cI f).set 34 (a 34, .inl (cI, 4, .inl h)) = cw a cI (va_up f 34 h) := rfl
theorem ce_35 {a : Nat → Nat} {cI : ClassId} {f : Sg} : (cw a cI f)[35]? = some (a 35, .inl (cI, 4, .inl (f 35))) := rfl
theorem cs_35 {a : Nat → Nat} {cI : ClassId} {f : Sg} {h : Nat → Int32} : (cw a cI f).set 35 (a 35, .inl (cI, 4, .inl h)) = cw a cI (va_up f 35 h) := rfl
theorem ce_36 {a : Nat → Nat} {cI : ClassId} {f : Sg} : (cw a cI f)[36]? = some (a 36, .inl (cI, 4, .inl (f 36))) := rfl
theorem cs_36 {a : Nat → Nat} {cI : ClassId} {f : Sg} {h : Nat → Int32} : (cw a cI f).set 36 (a 36, .inl (cI, 4, .inl h)) = cw a cI (va_up f 36 h) := rfl
theorem ce_37 {a : Nat → Nat} {cI : ClassId} {f : Sg} : (cw a cI f)[37]? = some (a 37, .inl (cI, 5, .inl (f 37))) := rfl
theorem cs_37 {a : Nat → Nat} {cI : ClassId} {f : Sg} {h : Nat → Int32} : (cw a cI f).set 37 (a 37, .inl (cI, 5, .inl h)) = cw a cI (va_up f 37 h) := rfl
theorem ce_38 {a : Nat → Nat} {cI : ClassId} {f : Sg} : (cw a cI f)[38]? = some (a 38, .inl (cI, 5, .inl (f 38))) := rfl
theorem cs_38 {a : Nat → Nat} {cI : ClassId} {f : Sg} {h : Nat → Int32} : (cw a cI f).set 38 (a 38, .inl (cI, 5, .inl h)) = cw a cI (va_up f 38 h) := rfl
def rw (a : Nat → Nat) (cI cZ : ClassId) (f : Sg) : va_W := [(a 0, .inr (9, [.ref (a 1), .ref (a 2), .ref (a 3), .ref (a 4), .int (f 0 4), .ref (a 5), .int (f 0 6), .ref (a 6), .ref (a 7), .int (f 0 9), .int (f 0 10), .int (f 0 11), .int (f 0 12), .int (f 0 13), .ref (a 8), .ref (a 9)])),
  (a 1, .inl (cI, 18, .inl (f 1))),
  (a 2, .inl (cI, 36, .inl (f 2))),
  (a 3, .inl (cZ, 2, .inl (f 3))),
  (a 4, .inl (cI, 9, .inl (f 4))),
  (a 5, .inl (cI, 9, .inl (f 5))),
  (a 6, .inl (cI, 9, .inl (f 6))),
  (a 7, .inl (cI, 9, .inl (f 7))),
  (a 8, .inl (cI, 5, .inl (f 8))),
  (a 9, .inl (cI, 9, .inl (f 9)))]
theorem rw_fix (a : Nat → Nat) (cI cZ : ClassId) : Fix (rw a cI cZ) := fun _ _ => rfl
theorem re_0 {a : Nat → Nat} {cI cZ : ClassId} {f : Sg} : (rw a cI cZ f)[0]? = some (a 0, .inr (9, [.ref (a 1), .ref (a 2), .ref (a 3), .ref (a 4), .int (f 0 4), .ref (a 5), .int (f 0 6), .ref (a 6), .ref (a 7), .int (f 0 9), .int (f 0 10), .int (f 0 11), .int (f 0 12), .int (f 0 13), .ref (a 8), .ref (a 9)])) := rfl
theorem rs_0_4 {a : Nat → Nat} {cI cZ : ClassId} {f : Sg} {x : Int32} : (rw a cI cZ f).set 0 (a 0, .inr (9, [.ref (a 1), .ref (a 2), .ref (a 3), .ref (a 4), .int x, .ref (a 5), .int (f 0 6), .ref (a 6), .ref (a 7), .int (f 0 9), .int (f 0 10), .int (f 0 11), .int (f 0 12), .int (f 0 13), .ref (a 8), .ref (a 9)])) = rw a cI cZ (va_up f 0 (upd (f 0) 4 x)) := rfl
theorem rs_0_6 {a : Nat → Nat} {cI cZ : ClassId} {f : Sg} {x : Int32} : (rw a cI cZ f).set 0 (a 0, .inr (9, [.ref (a 1), .ref (a 2), .ref (a 3), .ref (a 4), .int (f 0 4), .ref (a 5), .int x, .ref (a 6), .ref (a 7), .int (f 0 9), .int (f 0 10), .int (f 0 11), .int (f 0 12), .int (f 0 13), .ref (a 8), .ref (a 9)])) = rw a cI cZ (va_up f 0 (upd (f 0) 6 x)) := rfl
theorem rs_0_9 {a : Nat → Nat} {cI cZ : ClassId} {f : Sg} {x : Int32} : (rw a cI cZ f).set 0 (a 0, .inr (9, [.ref (a 1), .ref (a 2), .ref (a 3), .ref (a 4), .int (f 0 4), .ref (a 5), .int (f 0 6), .ref (a 6), .ref (a 7), .int x, .int (f 0 10), .int (f 0 11), .int (f 0 12), .int (f 0 13), .ref (a 8), .ref (a 9)])) = rw a cI cZ (va_up f 0 (upd (f 0) 9 x)) := rfl
theorem rs_0_10 {a : Nat → Nat} {cI cZ : ClassId} {f : Sg} {x : Int32} : (rw a cI cZ f).set 0 (a 0, .inr (9, [.ref (a 1), .ref (a 2), .ref (a 3), .ref (a 4), .int (f 0 4), .ref (a 5), .int (f 0 6), .ref (a 6), .ref (a 7), .int (f 0 9), .int x, .int (f 0 11), .int (f 0 12), .int (f 0 13), .ref (a 8), .ref (a 9)])) = rw a cI cZ (va_up f 0 (upd (f 0) 10 x)) := rfl
theorem rs_0_11 {a : Nat → Nat} {cI cZ : ClassId} {f : Sg} {x : Int32} : (rw a cI cZ f).set 0 (a 0, .inr (9, [.ref (a 1), .ref (a 2), .ref (a 3), .ref (a 4), .int (f 0 4), .ref (a 5), .int (f 0 6), .ref (a 6), .ref (a 7), .int (f 0 9), .int (f 0 10), .int x, .int (f 0 12), .int (f 0 13), .ref (a 8), .ref (a 9)])) = rw a cI cZ (va_up f 0 (upd (f 0) 11 x)) := rfl
theorem rs_0_12 {a : Nat → Nat} {cI cZ : ClassId} {f : Sg} {x : Int32} : (rw a cI cZ f).set 0 (a 0, .inr (9, [.ref (a 1), .ref (a 2), .ref (a 3), .ref (a 4), .int (f 0 4), .ref (a 5), .int (f 0 6), .ref (a 6), .ref (a 7), .int (f 0 9), .int (f 0 10), .int (f 0 11), .int x, .int (f 0 13), .ref (a 8), .ref (a 9)])) = rw a cI cZ (va_up f 0 (upd (f 0) 12 x)) := rfl
theorem rs_0_13 {a : Nat → Nat} {cI cZ : ClassId} {f : Sg} {x : Int32} : (rw a cI cZ f).set 0 (a 0, .inr (9, [.ref (a 1), .ref (a 2), .ref (a 3), .ref (a 4), .int (f 0 4), .ref (a 5), .int (f 0 6), .ref (a 6), .ref (a 7), .int (f 0 9), .int (f 0 10), .int (f 0 11), .int (f 0 12), .int x, .ref (a 8), .ref (a 9)])) = rw a cI cZ (va_up f 0 (upd (f 0) 13 x)) := rfl
theorem re_1 {a : Nat → Nat} {cI cZ : ClassId} {f : Sg} : (rw a cI cZ f)[1]? = some (a 1, .inl (cI, 18, .inl (f 1))) := rfl
theorem rs_1 {a : Nat → Nat} {cI cZ : ClassId} {f : Sg} {h : Nat → Int32} : (rw a cI cZ f).set 1 (a 1, .inl (cI, 18, .inl h)) = rw a cI cZ (va_up f 1 h) := rfl
theorem re_2 {a : Nat → Nat} {cI cZ : ClassId} {f : Sg} : (rw a cI cZ f)[2]? = some (a 2, .inl (cI, 36, .inl (f 2))) := rfl
theorem rs_2 {a : Nat → Nat} {cI cZ : ClassId} {f : Sg} {h : Nat → Int32} : (rw a cI cZ f).set 2 (a 2, .inl (cI, 36, .inl h)) = rw a cI cZ (va_up f 2 h) := rfl
theorem re_3 {a : Nat → Nat} {cI cZ : ClassId} {f : Sg} : (rw a cI cZ f)[3]? = some (a 3, .inl (cZ, 2, .inl (f 3))) := rfl
theorem rs_3 {a : Nat → Nat} {cI cZ : ClassId} {f : Sg} {h : Nat → Int32} : (rw a cI cZ f).set 3 (a 3, .inl (cZ, 2, .inl h)) = rw a cI cZ (va_up f 3 h) := rfl
theorem re_4 {a : Nat → Nat} {cI cZ : ClassId} {f : Sg} : (rw a cI cZ f)[4]? = some (a 4, .inl (cI, 9, .inl (f 4))) := rfl
theorem rs_4 {a : Nat → Nat} {cI cZ : ClassId} {f : Sg} {h : Nat → Int32} : (rw a cI cZ f).set 4 (a 4, .inl (cI, 9, .inl h)) = rw a cI cZ (va_up f 4 h) := rfl
theorem re_5 {a : Nat → Nat} {cI cZ : ClassId} {f : Sg} : (rw a cI cZ f)[5]? = some (a 5, .inl (cI, 9, .inl (f 5))) := rfl
theorem rs_5 {a : Nat → Nat} {cI cZ : ClassId} {f : Sg} {h : Nat → Int32} : (rw a cI cZ f).set 5 (a 5, .inl (cI, 9, .inl h)) = rw a cI cZ (va_up f 5 h) := rfl
theorem re_6 {a : Nat → Nat} {cI cZ : ClassId} {f : Sg} : (rw a cI cZ f)[6]? = some (a 6, .inl (cI, 9, .inl (f 6))) := rfl
theorem rs_6 {a : Nat → Nat} {cI cZ : ClassId} {f : Sg} {h : Nat → Int32} : (rw a cI cZ f).set 6 (a 6, .inl (cI, 9, .inl h)) = rw a cI cZ (va_up f 6 h) := rfl
theorem re_7 {a : Nat → Nat} {cI cZ : ClassId} {f : Sg} : (rw a cI cZ f)[7]? = some (a 7, .inl (cI, 9, .inl (f 7))) := rfl
theorem rs_7 {a : Nat → Nat} {cI cZ : ClassId} {f : Sg} {h : Nat → Int32} : (rw a cI cZ f).set 7 (a 7, .inl (cI, 9, .inl h)) = rw a cI cZ (va_up f 7 h) := rfl
theorem re_8 {a : Nat → Nat} {cI cZ : ClassId} {f : Sg} : (rw a cI cZ f)[8]? = some (a 8, .inl (cI, 5, .inl (f 8))) := rfl
theorem rs_8 {a : Nat → Nat} {cI cZ : ClassId} {f : Sg} {h : Nat → Int32} : (rw a cI cZ f).set 8 (a 8, .inl (cI, 5, .inl h)) = rw a cI cZ (va_up f 8 h) := rfl
theorem re_9 {a : Nat → Nat} {cI cZ : ClassId} {f : Sg} : (rw a cI cZ f)[9]? = some (a 9, .inl (cI, 9, .inl (f 9))) := rfl
theorem rs_9 {a : Nat → Nat} {cI cZ : ClassId} {f : Sg} {h : Nat → Int32} : (rw a cI cZ f).set 9 (a 9, .inl (cI, 9, .inl h)) = rw a cI cZ (va_up f 9 h) := rfl
/-- a loop of 0 numbers: its body, so often -/
def itr0 (B : (Sg → Prop) → Sg → Prop) : Nat → Sg → Prop
  | 0, _ => False
  | n + 1, f => B (itr0 B n) f
/-- a loop of 1 numbers: its body, so often -/
def itr1 (B : (Sg → Int32 → Prop) → Sg → Int32 → Prop) : Nat → Sg → Int32 → Prop
  | 0, _, _ => False
  | n + 1, f, x0 => B (itr1 B n) f x0
/-- a loop of 2 numbers: its body, so often -/
def itr2 (B : (Sg → Int32 → Int32 → Prop) → Sg → Int32 → Int32 → Prop) : Nat → Sg → Int32 → Int32 → Prop
  | 0, _, _, _ => False
  | n + 1, f, x0, x1 => B (itr2 B n) f x0 x1
/-- a loop of 3 numbers: its body, so often -/
def itr3 (B : (Sg → Int32 → Int32 → Int32 → Prop) → Sg → Int32 → Int32 → Int32 → Prop) : Nat → Sg → Int32 → Int32 → Int32 → Prop
  | 0, _, _, _, _ => False
  | n + 1, f, x0, x1, x2 => B (itr3 B n) f x0 x1 x2
/-- a loop of 4 numbers: its body, so often -/
def itr4 (B : (Sg → Int32 → Int32 → Int32 → Int32 → Prop) → Sg → Int32 → Int32 → Int32 → Int32 → Prop) : Nat → Sg → Int32 → Int32 → Int32 → Int32 → Prop
  | 0, _, _, _, _, _ => False
  | n + 1, f, x0, x1, x2, x3 => B (itr4 B n) f x0 x1 x2 x3
/-- a loop of 5 numbers: its body, so often -/
def itr5 (B : (Sg → Int32 → Int32 → Int32 → Int32 → Int32 → Prop) → Sg → Int32 → Int32 → Int32 → Int32 → Int32 → Prop) : Nat → Sg → Int32 → Int32 → Int32 → Int32 → Int32 → Prop
  | 0, _, _, _, _, _, _ => False
  | n + 1, f, x0, x1, x2, x3, x4 => B (itr5 B n) f x0 x1 x2 x3 x4
/-- a loop of 6 numbers: its body, so often -/
def itr6 (B : (Sg → Int32 → Int32 → Int32 → Int32 → Int32 → Int32 → Prop) → Sg → Int32 → Int32 → Int32 → Int32 → Int32 → Int32 → Prop) : Nat → Sg → Int32 → Int32 → Int32 → Int32 → Int32 → Int32 → Prop
  | 0, _, _, _, _, _, _, _ => False
  | n + 1, f, x0, x1, x2, x3, x4, x5 => B (itr6 B n) f x0 x1 x2 x3 x4 x5
/-- a loop of 7 numbers: its body, so often -/
def itr7 (B : (Sg → Int32 → Int32 → Int32 → Int32 → Int32 → Int32 → Int32 → Prop) → Sg → Int32 → Int32 → Int32 → Int32 → Int32 → Int32 → Int32 → Prop) : Nat → Sg → Int32 → Int32 → Int32 → Int32 → Int32 → Int32 → Int32 → Prop
  | 0, _, _, _, _, _, _, _, _ => False
  | n + 1, f, x0, x1, x2, x3, x4, x5, x6 => B (itr7 B n) f x0 x1 x2 x3 x4 x5 x6
/-- a loop of 8 numbers: its body, so often -/
def itr8 (B : (Sg → Int32 → Int32 → Int32 → Int32 → Int32 → Int32 → Int32 → Int32 → Prop) → Sg → Int32 → Int32 → Int32 → Int32 → Int32 → Int32 → Int32 → Int32 → Prop) : Nat → Sg → Int32 → Int32 → Int32 → Int32 → Int32 → Int32 → Int32 → Int32 → Prop
  | 0, _, _, _, _, _, _, _, _, _ => False
  | n + 1, f, x0, x1, x2, x3, x4, x5, x6, x7 => B (itr8 B n) f x0 x1 x2 x3 x4 x5 x6 x7
