theorem fokZ {v : Int32} : fok .boolean (.int v) = true ↔ v = 0 ∨ v = 1 := by simp [fok]
theorem mx305 : mMax 305 = 1 := rfl
theorem mr305 : mRet 305 = some .int := rfl
theorem a305_0 : acode 305 0 = some (.iload_n 0, []) := by decide +kernel
theorem w305_0 {scr : List Int32} {d : Nat} {H : List AC} {Q : Option Value → List AC → Prop} {l0 : Int32} {st : List Value} : Wp scr d 305 0 [some (.int l0)] (st) H Q ↔ Wp scr d 305 1 [some (.int l0)] (.int l0 :: st) H Q := Wp_iload_n a305_0 rfl
theorem a305_1 : acode 305 1 = some (.iload_n 0, []) := by decide +kernel
theorem w305_1 {scr : List Int32} {d : Nat} {H : List AC} {Q : Option Value → List AC → Prop} {l0 : Int32} {st : List Value} : Wp scr d 305 1 [some (.int l0)] (st) H Q ↔ Wp scr d 305 2 [some (.int l0)] (.int l0 :: st) H Q := Wp_iload_n a305_1 rfl
theorem a305_2 : acode 305 2 = some (.iconst 1, []) := by decide +kernel
theorem w305_2 {scr : List Int32} {d : Nat} {H : List AC} {Q : Option Value → List AC → Prop} {l0 : Int32} {st : List Value} : Wp scr d 305 2 [some (.int l0)] (st) H Q ↔ Wp scr d 305 3 [some (.int l0)] (.int (1) :: st) H Q := Wp_iconst a305_2 rfl
theorem a305_3 : acode 305 3 = some (.iushr, []) := by decide +kernel
theorem w305_3 {scr : List Int32} {d : Nat} {H : List AC} {Q : Option Value → List AC → Prop} {l0 : Int32} {x : Int32} {y : Int32} {st : List Value} : Wp scr d 305 3 [some (.int l0)] (.int y :: .int x :: st) H Q ↔ Wp scr d 305 4 [some (.int l0)] (.int ((x.toUInt32 >>> (y.toUInt32 &&& Int32.toUInt32 31)).toInt32) :: st) H Q := Wp_iushr a305_3
theorem a305_4 : acode 305 4 = some (.ldc_w 265, [1431655765, 958]) := by decide +kernel
theorem w305_4 {scr : List Int32} {d : Nat} {H : List AC} {Q : Option Value → List AC → Prop} {l0 : Int32} {st : List Value} : Wp scr d 305 4 [some (.int l0)] (st) H Q ↔ Wp scr d 305 7 [some (.int l0)] (.int (1431655765) :: st) H Q := Wp_ldcw a305_4 rfl
theorem a305_7 : acode 305 7 = some (.iand, []) := by decide +kernel
theorem w305_7 {scr : List Int32} {d : Nat} {H : List AC} {Q : Option Value → List AC → Prop} {l0 : Int32} {x : Int32} {y : Int32} {st : List Value} : Wp scr d 305 7 [some (.int l0)] (.int y :: .int x :: st) H Q ↔ Wp scr d 305 8 [some (.int l0)] (.int (x &&& y) :: st) H Q := Wp_iand a305_7
theorem a305_8 : acode 305 8 = some (.isub, []) := by decide +kernel
theorem w305_8 {scr : List Int32} {d : Nat} {H : List AC} {Q : Option Value → List AC → Prop} {l0 : Int32} {x : Int32} {y : Int32} {st : List Value} : Wp scr d 305 8 [some (.int l0)] (.int y :: .int x :: st) H Q ↔ Wp scr d 305 9 [some (.int l0)] (.int (x - y) :: st) H Q := Wp_isub a305_8
theorem a305_9 : acode 305 9 = some (.istore_n 0, []) := by decide +kernel
theorem w305_9 {scr : List Int32} {d : Nat} {H : List AC} {Q : Option Value → List AC → Prop} {l0 : Int32} {v : Int32} {st : List Value} : Wp scr d 305 9 [some (.int l0)] (.int v :: st) H Q ↔ Wp scr d 305 10 [some (.int v)] (st) H Q := Wp_istore_n a305_9 (by exact Nat.le_of_ble_eq_true rfl) rfl
theorem a305_10 : acode 305 10 = some (.iload_n 0, []) := by decide +kernel
theorem w305_10 {scr : List Int32} {d : Nat} {H : List AC} {Q : Option Value → List AC → Prop} {l0 : Int32} {st : List Value} : Wp scr d 305 10 [some (.int l0)] (st) H Q ↔ Wp scr d 305 11 [some (.int l0)] (.int l0 :: st) H Q := Wp_iload_n a305_10 rfl
theorem a305_11 : acode 305 11 = some (.ldc_w 266, [858993459, 959]) := by decide +kernel
theorem w305_11 {scr : List Int32} {d : Nat} {H : List AC} {Q : Option Value → List AC → Prop} {l0 : Int32} {st : List Value} : Wp scr d 305 11 [some (.int l0)] (st) H Q ↔ Wp scr d 305 14 [some (.int l0)] (.int (858993459) :: st) H Q := Wp_ldcw a305_11 rfl
theorem a305_14 : acode 305 14 = some (.iand, []) := by decide +kernel
theorem w305_14 {scr : List Int32} {d : Nat} {H : List AC} {Q : Option Value → List AC → Prop} {l0 : Int32} {x : Int32} {y : Int32} {st : List Value} : Wp scr d 305 14 [some (.int l0)] (.int y :: .int x :: st) H Q ↔ Wp scr d 305 15 [some (.int l0)] (.int (x &&& y) :: st) H Q := Wp_iand a305_14
theorem a305_15 : acode 305 15 = some (.iload_n 0, []) := by decide +kernel
theorem w305_15 {scr : List Int32} {d : Nat} {H : List AC} {Q : Option Value → List AC → Prop} {l0 : Int32} {st : List Value} : Wp scr d 305 15 [some (.int l0)] (st) H Q ↔ Wp scr d 305 16 [some (.int l0)] (.int l0 :: st) H Q := Wp_iload_n a305_15 rfl
theorem a305_16 : acode 305 16 = some (.iconst 2, []) := by decide +kernel
theorem w305_16 {scr : List Int32} {d : Nat} {H : List AC} {Q : Option Value → List AC → Prop} {l0 : Int32} {st : List Value} : Wp scr d 305 16 [some (.int l0)] (st) H Q ↔ Wp scr d 305 17 [some (.int l0)] (.int (2) :: st) H Q := Wp_iconst a305_16 rfl
theorem a305_17 : acode 305 17 = some (.iushr, []) := by decide +kernel
theorem w305_17 {scr : List Int32} {d : Nat} {H : List AC} {Q : Option Value → List AC → Prop} {l0 : Int32} {x : Int32} {y : Int32} {st : List Value} : Wp scr d 305 17 [some (.int l0)] (.int y :: .int x :: st) H Q ↔ Wp scr d 305 18 [some (.int l0)] (.int ((x.toUInt32 >>> (y.toUInt32 &&& Int32.toUInt32 31)).toInt32) :: st) H Q := Wp_iushr a305_17
theorem a305_18 : acode 305 18 = some (.ldc_w 266, [858993459, 959]) := by decide +kernel
theorem w305_18 {scr : List Int32} {d : Nat} {H : List AC} {Q : Option Value → List AC → Prop} {l0 : Int32} {st : List Value} : Wp scr d 305 18 [some (.int l0)] (st) H Q ↔ Wp scr d 305 21 [some (.int l0)] (.int (858993459) :: st) H Q := Wp_ldcw a305_18 rfl
theorem a305_21 : acode 305 21 = some (.iand, []) := by decide +kernel
theorem w305_21 {scr : List Int32} {d : Nat} {H : List AC} {Q : Option Value → List AC → Prop} {l0 : Int32} {x : Int32} {y : Int32} {st : List Value} : Wp scr d 305 21 [some (.int l0)] (.int y :: .int x :: st) H Q ↔ Wp scr d 305 22 [some (.int l0)] (.int (x &&& y) :: st) H Q := Wp_iand a305_21
theorem a305_22 : acode 305 22 = some (.iadd, []) := by decide +kernel
theorem w305_22 {scr : List Int32} {d : Nat} {H : List AC} {Q : Option Value → List AC → Prop} {l0 : Int32} {x : Int32} {y : Int32} {st : List Value} : Wp scr d 305 22 [some (.int l0)] (.int y :: .int x :: st) H Q ↔ Wp scr d 305 23 [some (.int l0)] (.int (x + y) :: st) H Q := Wp_iadd a305_22
theorem a305_23 : acode 305 23 = some (.istore_n 0, []) := by decide +kernel
theorem w305_23 {scr : List Int32} {d : Nat} {H : List AC} {Q : Option Value → List AC → Prop} {l0 : Int32} {v : Int32} {st : List Value} : Wp scr d 305 23 [some (.int l0)] (.int v :: st) H Q ↔ Wp scr d 305 24 [some (.int v)] (st) H Q := Wp_istore_n a305_23 (by exact Nat.le_of_ble_eq_true rfl) rfl
theorem a305_24 : acode 305 24 = some (.iload_n 0, []) := by decide +kernel
theorem w305_24 {scr : List Int32} {d : Nat} {H : List AC} {Q : Option Value → List AC → Prop} {l0 : Int32} {st : List Value} : Wp scr d 305 24 [some (.int l0)] (st) H Q ↔ Wp scr d 305 25 [some (.int l0)] (.int l0 :: st) H Q := Wp_iload_n a305_24 rfl
theorem a305_25 : acode 305 25 = some (.iload_n 0, []) := by decide +kernel
theorem w305_25 {scr : List Int32} {d : Nat} {H : List AC} {Q : Option Value → List AC → Prop} {l0 : Int32} {st : List Value} : Wp scr d 305 25 [some (.int l0)] (st) H Q ↔ Wp scr d 305 26 [some (.int l0)] (.int l0 :: st) H Q := Wp_iload_n a305_25 rfl
theorem a305_26 : acode 305 26 = some (.iconst 4, []) := by decide +kernel
theorem w305_26 {scr : List Int32} {d : Nat} {H : List AC} {Q : Option Value → List AC → Prop} {l0 : Int32} {st : List Value} : Wp scr d 305 26 [some (.int l0)] (st) H Q ↔ Wp scr d 305 27 [some (.int l0)] (.int (4) :: st) H Q := Wp_iconst a305_26 rfl
theorem a305_27 : acode 305 27 = some (.iushr, []) := by decide +kernel
theorem w305_27 {scr : List Int32} {d : Nat} {H : List AC} {Q : Option Value → List AC → Prop} {l0 : Int32} {x : Int32} {y : Int32} {st : List Value} : Wp scr d 305 27 [some (.int l0)] (.int y :: .int x :: st) H Q ↔ Wp scr d 305 28 [some (.int l0)] (.int ((x.toUInt32 >>> (y.toUInt32 &&& Int32.toUInt32 31)).toInt32) :: st) H Q := Wp_iushr a305_27
theorem a305_28 : acode 305 28 = some (.iadd, []) := by decide +kernel
theorem w305_28 {scr : List Int32} {d : Nat} {H : List AC} {Q : Option Value → List AC → Prop} {l0 : Int32} {x : Int32} {y : Int32} {st : List Value} : Wp scr d 305 28 [some (.int l0)] (.int y :: .int x :: st) H Q ↔ Wp scr d 305 29 [some (.int l0)] (.int (x + y) :: st) H Q := Wp_iadd a305_28
theorem a305_29 : acode 305 29 = some (.ldc_w 267, [252645135, 960]) := by decide +kernel
theorem w305_29 {scr : List Int32} {d : Nat} {H : List AC} {Q : Option Value → List AC → Prop} {l0 : Int32} {st : List Value} : Wp scr d 305 29 [some (.int l0)] (st) H Q ↔ Wp scr d 305 32 [some (.int l0)] (.int (252645135) :: st) H Q := Wp_ldcw a305_29 rfl
theorem a305_32 : acode 305 32 = some (.iand, []) := by decide +kernel
theorem w305_32 {scr : List Int32} {d : Nat} {H : List AC} {Q : Option Value → List AC → Prop} {l0 : Int32} {x : Int32} {y : Int32} {st : List Value} : Wp scr d 305 32 [some (.int l0)] (.int y :: .int x :: st) H Q ↔ Wp scr d 305 33 [some (.int l0)] (.int (x &&& y) :: st) H Q := Wp_iand a305_32
theorem a305_33 : acode 305 33 = some (.istore_n 0, []) := by decide +kernel
theorem w305_33 {scr : List Int32} {d : Nat} {H : List AC} {Q : Option Value → List AC → Prop} {l0 : Int32} {v : Int32} {st : List Value} : Wp scr d 305 33 [some (.int l0)] (.int v :: st) H Q ↔ Wp scr d 305 34 [some (.int v)] (st) H Q := Wp_istore_n a305_33 (by exact Nat.le_of_ble_eq_true rfl) rfl
theorem a305_34 : acode 305 34 = some (.iload_n 0, []) := by decide +kernel
theorem w305_34 {scr : List Int32} {d : Nat} {H : List AC} {Q : Option Value → List AC → Prop} {l0 : Int32} {st : List Value} : Wp scr d 305 34 [some (.int l0)] (st) H Q ↔ Wp scr d 305 35 [some (.int l0)] (.int l0 :: st) H Q := Wp_iload_n a305_34 rfl
theorem a305_35 : acode 305 35 = some (.iload_n 0, []) := by decide +kernel
theorem w305_35 {scr : List Int32} {d : Nat} {H : List AC} {Q : Option Value → List AC → Prop} {l0 : Int32} {st : List Value} : Wp scr d 305 35 [some (.int l0)] (st) H Q ↔ Wp scr d 305 36 [some (.int l0)] (.int l0 :: st) H Q := Wp_iload_n a305_35 rfl
theorem a305_36 : acode 305 36 = some (.bipush 8, []) := by decide +kernel
theorem w305_36 {scr : List Int32} {d : Nat} {H : List AC} {Q : Option Value → List AC → Prop} {l0 : Int32} {st : List Value} : Wp scr d 305 36 [some (.int l0)] (st) H Q ↔ Wp scr d 305 38 [some (.int l0)] (.int (8) :: st) H Q := Wp_bipush a305_36 rfl
theorem a305_38 : acode 305 38 = some (.iushr, []) := by decide +kernel
theorem w305_38 {scr : List Int32} {d : Nat} {H : List AC} {Q : Option Value → List AC → Prop} {l0 : Int32} {x : Int32} {y : Int32} {st : List Value} : Wp scr d 305 38 [some (.int l0)] (.int y :: .int x :: st) H Q ↔ Wp scr d 305 39 [some (.int l0)] (.int ((x.toUInt32 >>> (y.toUInt32 &&& Int32.toUInt32 31)).toInt32) :: st) H Q := Wp_iushr a305_38
theorem a305_39 : acode 305 39 = some (.iadd, []) := by decide +kernel
theorem w305_39 {scr : List Int32} {d : Nat} {H : List AC} {Q : Option Value → List AC → Prop} {l0 : Int32} {x : Int32} {y : Int32} {st : List Value} : Wp scr d 305 39 [some (.int l0)] (.int y :: .int x :: st) H Q ↔ Wp scr d 305 40 [some (.int l0)] (.int (x + y) :: st) H Q := Wp_iadd a305_39
theorem a305_40 : acode 305 40 = some (.istore_n 0, []) := by decide +kernel
theorem w305_40 {scr : List Int32} {d : Nat} {H : List AC} {Q : Option Value → List AC → Prop} {l0 : Int32} {v : Int32} {st : List Value} : Wp scr d 305 40 [some (.int l0)] (.int v :: st) H Q ↔ Wp scr d 305 41 [some (.int v)] (st) H Q := Wp_istore_n a305_40 (by exact Nat.le_of_ble_eq_true rfl) rfl
theorem a305_41 : acode 305 41 = some (.iload_n 0, []) := by decide +kernel
theorem w305_41 {scr : List Int32} {d : Nat} {H : List AC} {Q : Option Value → List AC → Prop} {l0 : Int32} {st : List Value} : Wp scr d 305 41 [some (.int l0)] (st) H Q ↔ Wp scr d 305 42 [some (.int l0)] (.int l0 :: st) H Q := Wp_iload_n a305_41 rfl
theorem a305_42 : acode 305 42 = some (.iload_n 0, []) := by decide +kernel
theorem w305_42 {scr : List Int32} {d : Nat} {H : List AC} {Q : Option Value → List AC → Prop} {l0 : Int32} {st : List Value} : Wp scr d 305 42 [some (.int l0)] (st) H Q ↔ Wp scr d 305 43 [some (.int l0)] (.int l0 :: st) H Q := Wp_iload_n a305_42 rfl
theorem a305_43 : acode 305 43 = some (.bipush 16, []) := by decide +kernel
theorem w305_43 {scr : List Int32} {d : Nat} {H : List AC} {Q : Option Value → List AC → Prop} {l0 : Int32} {st : List Value} : Wp scr d 305 43 [some (.int l0)] (st) H Q ↔ Wp scr d 305 45 [some (.int l0)] (.int (16) :: st) H Q := Wp_bipush a305_43 rfl
theorem a305_45 : acode 305 45 = some (.iushr, []) := by decide +kernel
theorem w305_45 {scr : List Int32} {d : Nat} {H : List AC} {Q : Option Value → List AC → Prop} {l0 : Int32} {x : Int32} {y : Int32} {st : List Value} : Wp scr d 305 45 [some (.int l0)] (.int y :: .int x :: st) H Q ↔ Wp scr d 305 46 [some (.int l0)] (.int ((x.toUInt32 >>> (y.toUInt32 &&& Int32.toUInt32 31)).toInt32) :: st) H Q := Wp_iushr a305_45
theorem a305_46 : acode 305 46 = some (.iadd, []) := by decide +kernel
theorem w305_46 {scr : List Int32} {d : Nat} {H : List AC} {Q : Option Value → List AC → Prop} {l0 : Int32} {x : Int32} {y : Int32} {st : List Value} : Wp scr d 305 46 [some (.int l0)] (.int y :: .int x :: st) H Q ↔ Wp scr d 305 47 [some (.int l0)] (.int (x + y) :: st) H Q := Wp_iadd a305_46
theorem a305_47 : acode 305 47 = some (.istore_n 0, []) := by decide +kernel
theorem w305_47 {scr : List Int32} {d : Nat} {H : List AC} {Q : Option Value → List AC → Prop} {l0 : Int32} {v : Int32} {st : List Value} : Wp scr d 305 47 [some (.int l0)] (.int v :: st) H Q ↔ Wp scr d 305 48 [some (.int v)] (st) H Q := Wp_istore_n a305_47 (by exact Nat.le_of_ble_eq_true rfl) rfl
theorem a305_48 : acode 305 48 = some (.iload_n 0, []) := by decide +kernel
theorem w305_48 {scr : List Int32} {d : Nat} {H : List AC} {Q : Option Value → List AC → Prop} {l0 : Int32} {st : List Value} : Wp scr d 305 48 [some (.int l0)] (st) H Q ↔ Wp scr d 305 49 [some (.int l0)] (.int l0 :: st) H Q := Wp_iload_n a305_48 rfl
theorem a305_49 : acode 305 49 = some (.bipush 63, []) := by decide +kernel
theorem w305_49 {scr : List Int32} {d : Nat} {H : List AC} {Q : Option Value → List AC → Prop} {l0 : Int32} {st : List Value} : Wp scr d 305 49 [some (.int l0)] (st) H Q ↔ Wp scr d 305 51 [some (.int l0)] (.int (63) :: st) H Q := Wp_bipush a305_49 rfl
theorem a305_51 : acode 305 51 = some (.iand, []) := by decide +kernel
theorem w305_51 {scr : List Int32} {d : Nat} {H : List AC} {Q : Option Value → List AC → Prop} {l0 : Int32} {x : Int32} {y : Int32} {st : List Value} : Wp scr d 305 51 [some (.int l0)] (.int y :: .int x :: st) H Q ↔ Wp scr d 305 52 [some (.int l0)] (.int (x &&& y) :: st) H Q := Wp_iand a305_51
theorem a305_52 : acode 305 52 = some (.ireturn, []) := by decide +kernel
theorem w305_52 {scr : List Int32} {d : Nat} {H : List AC} {Q : Option Value → List AC → Prop} {l0 : Int32} {v : Int32} : Wp scr d 305 52 [some (.int l0)] ([.int v]) H Q ↔ Q (some (.int v)) H := Wp_iret a305_52 mr305 rfl
theorem mx306 : mMax 306 = 2 := rfl
theorem mr306 : mRet 306 = some .int := rfl
theorem a306_0 : acode 306 0 = some (.iload_n 0, []) := by decide +kernel
theorem w306_0 {scr : List Int32} {d : Nat} {H : List AC} {Q : Option Value → List AC → Prop} {l0 : Int32} {l1 : Int32} {st : List Value} : Wp scr d 306 0 [some (.int l0), some (.int l1)] (st) H Q ↔ Wp scr d 306 1 [some (.int l0), some (.int l1)] (.int l0 :: st) H Q := Wp_iload_n a306_0 rfl
theorem a306_1 : acode 306 1 = some (.iload_n 1, []) := by decide +kernel
theorem w306_1 {scr : List Int32} {d : Nat} {H : List AC} {Q : Option Value → List AC → Prop} {l0 : Int32} {l1 : Int32} {st : List Value} : Wp scr d 306 1 [some (.int l0), some (.int l1)] (st) H Q ↔ Wp scr d 306 2 [some (.int l0), some (.int l1)] (.int l1 :: st) H Q := Wp_iload_n a306_1 rfl
theorem a306_2 : acode 306 2 = some (.if_icmp .lt 7, []) := by decide +kernel
theorem w306_2 {scr : List Int32} {d : Nat} {H : List AC} {Q : Option Value → List AC → Prop} {l0 : Int32} {l1 : Int32} {x : Int32} {y : Int32} {st : List Value} : Wp scr d 306 2 [some (.int l0), some (.int l1)] (.int y :: .int x :: st) H Q ↔ (x < y → Wp scr d 306 9 [some (.int l0), some (.int l1)] (st) H Q) ∧ (¬ (x < y) → Wp scr d 306 5 [some (.int l0), some (.int l1)] (st) H Q) := Wp_if_icmp_lt a306_2 rfl
theorem a306_5 : acode 306 5 = some (.iload_n 0, []) := by decide +kernel
theorem w306_5 {scr : List Int32} {d : Nat} {H : List AC} {Q : Option Value → List AC → Prop} {l0 : Int32} {l1 : Int32} {st : List Value} : Wp scr d 306 5 [some (.int l0), some (.int l1)] (st) H Q ↔ Wp scr d 306 6 [some (.int l0), some (.int l1)] (.int l0 :: st) H Q := Wp_iload_n a306_5 rfl
theorem a306_6 : acode 306 6 = some (.goto 4, []) := by decide +kernel
theorem w306_6 {scr : List Int32} {d : Nat} {H : List AC} {Q : Option Value → List AC → Prop} {l0 : Int32} {l1 : Int32} {st : List Value} : Wp scr d 306 6 [some (.int l0), some (.int l1)] (st) H Q ↔ Wp scr d 306 10 [some (.int l0), some (.int l1)] (st) H Q := Wp_goto a306_6 rfl
theorem a306_9 : acode 306 9 = some (.iload_n 1, []) := by decide +kernel
theorem w306_9 {scr : List Int32} {d : Nat} {H : List AC} {Q : Option Value → List AC → Prop} {l0 : Int32} {l1 : Int32} {st : List Value} : Wp scr d 306 9 [some (.int l0), some (.int l1)] (st) H Q ↔ Wp scr d 306 10 [some (.int l0), some (.int l1)] (.int l1 :: st) H Q := Wp_iload_n a306_9 rfl
theorem a306_10 : acode 306 10 = some (.ireturn, []) := by decide +kernel
theorem w306_10 {scr : List Int32} {d : Nat} {H : List AC} {Q : Option Value → List AC → Prop} {l0 : Int32} {l1 : Int32} {v : Int32} : Wp scr d 306 10 [some (.int l0), some (.int l1)] ([.int v]) H Q ↔ Q (some (.int v)) H := Wp_iret a306_10 mr306 rfl
theorem mx307 : mMax 307 = 2 := rfl
theorem mr307 : mRet 307 = some .int := rfl
theorem a307_0 : acode 307 0 = some (.iload_n 0, []) := by decide +kernel
theorem w307_0 {scr : List Int32} {d : Nat} {H : List AC} {Q : Option Value → List AC → Prop} {l0 : Int32} {l1 : Int32} {st : List Value} : Wp scr d 307 0 [some (.int l0), some (.int l1)] (st) H Q ↔ Wp scr d 307 1 [some (.int l0), some (.int l1)] (.int l0 :: st) H Q := Wp_iload_n a307_0 rfl
theorem a307_1 : acode 307 1 = some (.iload_n 1, []) := by decide +kernel
theorem w307_1 {scr : List Int32} {d : Nat} {H : List AC} {Q : Option Value → List AC → Prop} {l0 : Int32} {l1 : Int32} {st : List Value} : Wp scr d 307 1 [some (.int l0), some (.int l1)] (st) H Q ↔ Wp scr d 307 2 [some (.int l0), some (.int l1)] (.int l1 :: st) H Q := Wp_iload_n a307_1 rfl
theorem a307_2 : acode 307 2 = some (.if_icmp .gt 7, []) := by decide +kernel
theorem w307_2 {scr : List Int32} {d : Nat} {H : List AC} {Q : Option Value → List AC → Prop} {l0 : Int32} {l1 : Int32} {x : Int32} {y : Int32} {st : List Value} : Wp scr d 307 2 [some (.int l0), some (.int l1)] (.int y :: .int x :: st) H Q ↔ (y < x → Wp scr d 307 9 [some (.int l0), some (.int l1)] (st) H Q) ∧ (¬ (y < x) → Wp scr d 307 5 [some (.int l0), some (.int l1)] (st) H Q) := Wp_if_icmp_gt a307_2 rfl
theorem a307_5 : acode 307 5 = some (.iload_n 0, []) := by decide +kernel
theorem w307_5 {scr : List Int32} {d : Nat} {H : List AC} {Q : Option Value → List AC → Prop} {l0 : Int32} {l1 : Int32} {st : List Value} : Wp scr d 307 5 [some (.int l0), some (.int l1)] (st) H Q ↔ Wp scr d 307 6 [some (.int l0), some (.int l1)] (.int l0 :: st) H Q := Wp_iload_n a307_5 rfl
theorem a307_6 : acode 307 6 = some (.goto 4, []) := by decide +kernel
theorem w307_6 {scr : List Int32} {d : Nat} {H : List AC} {Q : Option Value → List AC → Prop} {l0 : Int32} {l1 : Int32} {st : List Value} : Wp scr d 307 6 [some (.int l0), some (.int l1)] (st) H Q ↔ Wp scr d 307 10 [some (.int l0), some (.int l1)] (st) H Q := Wp_goto a307_6 rfl
theorem a307_9 : acode 307 9 = some (.iload_n 1, []) := by decide +kernel
theorem w307_9 {scr : List Int32} {d : Nat} {H : List AC} {Q : Option Value → List AC → Prop} {l0 : Int32} {l1 : Int32} {st : List Value} : Wp scr d 307 9 [some (.int l0), some (.int l1)] (st) H Q ↔ Wp scr d 307 10 [some (.int l0), some (.int l1)] (.int l1 :: st) H Q := Wp_iload_n a307_9 rfl
theorem a307_10 : acode 307 10 = some (.ireturn, []) := by decide +kernel
theorem w307_10 {scr : List Int32} {d : Nat} {H : List AC} {Q : Option Value → List AC → Prop} {l0 : Int32} {l1 : Int32} {v : Int32} : Wp scr d 307 10 [some (.int l0), some (.int l1)] ([.int v]) H Q ↔ Q (some (.int v)) H := Wp_iret a307_10 mr307 rfl
theorem mx308 : mMax 308 = 1 := rfl
theorem mr308 : mRet 308 = some .int := rfl
theorem a308_0 : acode 308 0 = some (.aload_n 0, []) := by decide +kernel
theorem w308_0 {scr : List Int32} {d : Nat} {H : List AC} {Q : Option Value → List AC → Prop} {l0 : Nat} {st : List Value} : Wp scr d 308 0 [some (.retAddr l0)] (st) H Q ↔ (l0 < 200 ∨ l0 = 1000) ∧ Wp scr d 308 1 [some (.retAddr l0)] (.retAddr l0 :: st) H Q := Wp_aload_s a308_0 rfl
theorem a308_1 : acode 308 1 = some (.getfield 9, [200, 0, 2054, 0]) := by decide +kernel
theorem w308_1 {scr : List Int32} {d : Nat} {H : List AC} {Q : Option Value → List AC → Prop} {l0 : Nat} {j : Nat} {st : List Value} (hj : j < 19) : Wp scr d 308 1 [some (.retAddr l0)] (.retAddr j :: st) H Q ↔ Wp scr d 308 4 [some (.retAddr l0)] (.retAddr (100 + j) :: st) H Q := Wp_getsv a308_1 hj
theorem a308_4 : acode 308 4 = some (.arraylength, []) := by decide +kernel
theorem w308_4 {scr : List Int32} {d : Nat} {H : List AC} {Q : Option Value → List AC → Prop} {l0 : Nat} {b : Nat} {st : List Value} (hb : b < 19) : Wp scr d 308 4 [some (.retAddr l0)] (.retAddr (100 + b) :: st) H Q ↔ Wp scr d 308 5 [some (.retAddr l0)] (.int (Int32.ofNat (bytS.getD b []).length) :: st) H Q := by rw [Wp_alenB a308_4 (by omega) (by omega), Nat.add_sub_cancel_left]
theorem a308_5 : acode 308 5 = some (.aload_n 0, []) := by decide +kernel
theorem w308_5 {scr : List Int32} {d : Nat} {H : List AC} {Q : Option Value → List AC → Prop} {l0 : Nat} {st : List Value} : Wp scr d 308 5 [some (.retAddr l0)] (st) H Q ↔ (l0 < 200 ∨ l0 = 1000) ∧ Wp scr d 308 6 [some (.retAddr l0)] (.retAddr l0 :: st) H Q := Wp_aload_s a308_5 rfl
theorem a308_6 : acode 308 6 = some (.invokevirtual 335, [1, 310, 1, 574, 0, 200, 576]) := by decide +kernel
theorem w308_6 {scr : List Int32} {d : Nat} {H : List AC} {Q : Option Value → List AC → Prop} {l0 : Nat} {s0 : Int32} {s1 : Nat} : Wp scr (d + 1) 308 6 [some (.retAddr l0)] ([.retAddr s1, .int s0]) H Q ↔ s1 < 19 ∧ Wp scr d 310 0 [some (.retAddr s1)] [] H (cont scr (d + 1) 308 9 [some (.retAddr l0)] [.int s0] 1 H Q) := Wp_virtS (As := []) a308_6 rfl rfl rfl rfl (by exact Nat.le_of_ble_eq_true rfl)
theorem a308_9 : acode 308 9 = some (.ishr, []) := by decide +kernel
theorem w308_9 {scr : List Int32} {d : Nat} {H : List AC} {Q : Option Value → List AC → Prop} {l0 : Nat} {x : Int32} {y : Int32} {st : List Value} : Wp scr d 308 9 [some (.retAddr l0)] (.int y :: .int x :: st) H Q ↔ Wp scr d 308 10 [some (.retAddr l0)] (.int (x >>> (y &&& 31)) :: st) H Q := Wp_ishr a308_9
theorem a308_10 : acode 308 10 = some (.ireturn, []) := by decide +kernel
theorem w308_10 {scr : List Int32} {d : Nat} {H : List AC} {Q : Option Value → List AC → Prop} {l0 : Nat} {v : Int32} : Wp scr d 308 10 [some (.retAddr l0)] ([.int v]) H Q ↔ Q (some (.int v)) H := Wp_iret a308_10 mr308 rfl
theorem mx309 : mMax 309 = 2 := rfl
theorem mr309 : mRet 309 = some .char := rfl
theorem a309_0 : acode 309 0 = some (.aload_n 0, []) := by decide +kernel
theorem w309_0 {scr : List Int32} {d : Nat} {H : List AC} {Q : Option Value → List AC → Prop} {l0 : Nat} {l1 : Int32} {st : List Value} : Wp scr d 309 0 [some (.retAddr l0), some (.int l1)] (st) H Q ↔ (l0 < 200 ∨ l0 = 1000) ∧ Wp scr d 309 1 [some (.retAddr l0), some (.int l1)] (.retAddr l0 :: st) H Q := Wp_aload_s a309_0 rfl
theorem a309_1 : acode 309 1 = some (.invokevirtual 492, [1, 311, 1, 584, 0, 200, 586]) := by decide +kernel
theorem w309_1 {scr : List Int32} {d : Nat} {H : List AC} {Q : Option Value → List AC → Prop} {l0 : Nat} {l1 : Int32} {s0 : Nat} : Wp scr (d + 1) 309 1 [some (.retAddr l0), some (.int l1)] ([.retAddr s0]) H Q ↔ s0 < 19 ∧ Wp scr d 311 0 [some (.retAddr s0)] [] H (cont scr (d + 1) 309 4 [some (.retAddr l0), some (.int l1)] [] 1 H Q) := Wp_virtS (As := []) a309_1 rfl rfl rfl rfl (by exact Nat.le_of_ble_eq_true rfl)
theorem a309_4 : acode 309 4 = some (.ifCond .eq 12, []) := by decide +kernel
theorem w309_4 {scr : List Int32} {d : Nat} {H : List AC} {Q : Option Value → List AC → Prop} {l0 : Nat} {l1 : Int32} {x : Int32} {st : List Value} : Wp scr d 309 4 [some (.retAddr l0), some (.int l1)] (.int x :: st) H Q ↔ (x = 0 → Wp scr d 309 16 [some (.retAddr l0), some (.int l1)] (st) H Q) ∧ (¬ (x = 0) → Wp scr d 309 7 [some (.retAddr l0), some (.int l1)] (st) H Q) := Wp_ifCond_eq a309_4 rfl
theorem a309_7 : acode 309 7 = some (.aload_n 0, []) := by decide +kernel
theorem w309_7 {scr : List Int32} {d : Nat} {H : List AC} {Q : Option Value → List AC → Prop} {l0 : Nat} {l1 : Int32} {st : List Value} : Wp scr d 309 7 [some (.retAddr l0), some (.int l1)] (st) H Q ↔ (l0 < 200 ∨ l0 = 1000) ∧ Wp scr d 309 8 [some (.retAddr l0), some (.int l1)] (.retAddr l0 :: st) H Q := Wp_aload_s a309_7 rfl
theorem a309_8 : acode 309 8 = some (.getfield 9, [200, 0, 2054, 0]) := by decide +kernel
theorem w309_8 {scr : List Int32} {d : Nat} {H : List AC} {Q : Option Value → List AC → Prop} {l0 : Nat} {l1 : Int32} {j : Nat} {st : List Value} (hj : j < 19) : Wp scr d 309 8 [some (.retAddr l0), some (.int l1)] (.retAddr j :: st) H Q ↔ Wp scr d 309 11 [some (.retAddr l0), some (.int l1)] (.retAddr (100 + j) :: st) H Q := Wp_getsv a309_8 hj
theorem a309_11 : acode 309 11 = some (.iload_n 1, []) := by decide +kernel
theorem w309_11 {scr : List Int32} {d : Nat} {H : List AC} {Q : Option Value → List AC → Prop} {l0 : Nat} {l1 : Int32} {st : List Value} : Wp scr d 309 11 [some (.retAddr l0), some (.int l1)] (st) H Q ↔ Wp scr d 309 12 [some (.retAddr l0), some (.int l1)] (.int l1 :: st) H Q := Wp_iload_n a309_11 rfl
theorem a309_12 : acode 309 12 = some (.invokestatic 495, [2, 313, 2, 588, 0]) := by decide +kernel
theorem w309_12 {scr : List Int32} {d : Nat} {H : List AC} {Q : Option Value → List AC → Prop} {l0 : Nat} {l1 : Int32} {s0 : Nat} {s1 : Int32} : Wp scr (d + 1) 309 12 [some (.retAddr l0), some (.int l1)] ([.int s1, .retAddr s0]) H Q ↔ Wp scr d 313 0 [some (.retAddr s0), some (.int s1)] [] H (cont scr (d + 1) 309 15 [some (.retAddr l0), some (.int l1)] [] 2 H Q) := Wp_stat (As := [.int s1, .retAddr s0]) a309_12 rfl rfl rfl rfl (by exact Nat.le_of_ble_eq_true rfl)
theorem a309_15 : acode 309 15 = some (.ireturn, []) := by decide +kernel
theorem w309_15 {scr : List Int32} {d : Nat} {H : List AC} {Q : Option Value → List AC → Prop} {l0 : Nat} {l1 : Int32} {v : Int32} (hv : narrow .char (.int v) = .int v) : Wp scr d 309 15 [some (.retAddr l0), some (.int l1)] ([.int v]) H Q ↔ Q (some (.int v)) H := Wp_iret a309_15 mr309 hv
theorem a309_16 : acode 309 16 = some (.aload_n 0, []) := by decide +kernel
theorem w309_16 {scr : List Int32} {d : Nat} {H : List AC} {Q : Option Value → List AC → Prop} {l0 : Nat} {l1 : Int32} {st : List Value} : Wp scr d 309 16 [some (.retAddr l0), some (.int l1)] (st) H Q ↔ (l0 < 200 ∨ l0 = 1000) ∧ Wp scr d 309 17 [some (.retAddr l0), some (.int l1)] (.retAddr l0 :: st) H Q := Wp_aload_s a309_16 rfl
theorem a309_17 : acode 309 17 = some (.getfield 9, [200, 0, 2054, 0]) := by decide +kernel
theorem w309_17 {scr : List Int32} {d : Nat} {H : List AC} {Q : Option Value → List AC → Prop} {l0 : Nat} {l1 : Int32} {j : Nat} {st : List Value} (hj : j < 19) : Wp scr d 309 17 [some (.retAddr l0), some (.int l1)] (.retAddr j :: st) H Q ↔ Wp scr d 309 20 [some (.retAddr l0), some (.int l1)] (.retAddr (100 + j) :: st) H Q := Wp_getsv a309_17 hj
theorem a309_20 : acode 309 20 = some (.iload_n 1, []) := by decide +kernel
theorem w309_20 {scr : List Int32} {d : Nat} {H : List AC} {Q : Option Value → List AC → Prop} {l0 : Nat} {l1 : Int32} {st : List Value} : Wp scr d 309 20 [some (.retAddr l0), some (.int l1)] (st) H Q ↔ Wp scr d 309 21 [some (.retAddr l0), some (.int l1)] (.int l1 :: st) H Q := Wp_iload_n a309_20 rfl
theorem a309_21 : acode 309 21 = some (.invokestatic 498, []) := by decide +kernel
theorem mx310 : mMax 310 = 1 := rfl
theorem mr310 : mRet 310 = some .byte := rfl
theorem a310_0 : acode 310 0 = some (.getstatic 38, [0, 1, 578]) := by decide +kernel
theorem w310_0 {scr : List Int32} {d : Nat} {H : List AC} {Q : Option Value → List AC → Prop} {l0 : Nat} {st : List Value} : Wp scr d 310 0 [some (.retAddr l0)] (st) H Q ↔ Wp scr d 310 3 [some (.retAddr l0)] (.int (1) :: st) H Q := Wp_getsi a310_0 rfl
theorem a310_3 : acode 310 3 = some (.ifCond .eq 10, []) := by decide +kernel
theorem w310_3 {scr : List Int32} {d : Nat} {H : List AC} {Q : Option Value → List AC → Prop} {l0 : Nat} {x : Int32} {st : List Value} : Wp scr d 310 3 [some (.retAddr l0)] (.int x :: st) H Q ↔ (x = 0 → Wp scr d 310 13 [some (.retAddr l0)] (st) H Q) ∧ (¬ (x = 0) → Wp scr d 310 6 [some (.retAddr l0)] (st) H Q) := Wp_ifCond_eq a310_3 rfl
theorem a310_6 : acode 310 6 = some (.aload_n 0, []) := by decide +kernel
theorem w310_6 {scr : List Int32} {d : Nat} {H : List AC} {Q : Option Value → List AC → Prop} {l0 : Nat} {st : List Value} : Wp scr d 310 6 [some (.retAddr l0)] (st) H Q ↔ (l0 < 200 ∨ l0 = 1000) ∧ Wp scr d 310 7 [some (.retAddr l0)] (.retAddr l0 :: st) H Q := Wp_aload_s a310_6 rfl
theorem a310_7 : acode 310 7 = some (.getfield 15, [200, 1, 2055, 0]) := by decide +kernel
theorem w310_7 {scr : List Int32} {d : Nat} {H : List AC} {Q : Option Value → List AC → Prop} {l0 : Nat} {j : Nat} {st : List Value} (hj : j < 19) : Wp scr d 310 7 [some (.retAddr l0)] (.retAddr j :: st) H Q ↔ Wp scr d 310 10 [some (.retAddr l0)] (.int 0 :: st) H Q := Wp_getsc a310_7 hj
theorem a310_10 : acode 310 10 = some (.goto 4, []) := by decide +kernel
theorem w310_10 {scr : List Int32} {d : Nat} {H : List AC} {Q : Option Value → List AC → Prop} {l0 : Nat} {st : List Value} : Wp scr d 310 10 [some (.retAddr l0)] (st) H Q ↔ Wp scr d 310 14 [some (.retAddr l0)] (st) H Q := Wp_goto a310_10 rfl
theorem a310_13 : acode 310 13 = some (.iconst 1, []) := by decide +kernel
theorem w310_13 {scr : List Int32} {d : Nat} {H : List AC} {Q : Option Value → List AC → Prop} {l0 : Nat} {st : List Value} : Wp scr d 310 13 [some (.retAddr l0)] (st) H Q ↔ Wp scr d 310 14 [some (.retAddr l0)] (.int (1) :: st) H Q := Wp_iconst a310_13 rfl
theorem a310_14 : acode 310 14 = some (.ireturn, []) := by decide +kernel
theorem w310_14 {scr : List Int32} {d : Nat} {H : List AC} {Q : Option Value → List AC → Prop} {l0 : Nat} {v : Int32} (hv : narrow .byte (.int v) = .int v) : Wp scr d 310 14 [some (.retAddr l0)] ([.int v]) H Q ↔ Q (some (.int v)) H := Wp_iret a310_14 mr310 hv
theorem mx311 : mMax 311 = 1 := rfl
theorem mr311 : mRet 311 = some .boolean := rfl
theorem a311_0 : acode 311 0 = some (.getstatic 38, [0, 1, 578]) := by decide +kernel
theorem w311_0 {scr : List Int32} {d : Nat} {H : List AC} {Q : Option Value → List AC → Prop} {l0 : Nat} {st : List Value} : Wp scr d 311 0 [some (.retAddr l0)] (st) H Q ↔ Wp scr d 311 3 [some (.retAddr l0)] (.int (1) :: st) H Q := Wp_getsi a311_0 rfl
theorem a311_3 : acode 311 3 = some (.ifCond .eq 14, []) := by decide +kernel
theorem w311_3 {scr : List Int32} {d : Nat} {H : List AC} {Q : Option Value → List AC → Prop} {l0 : Nat} {x : Int32} {st : List Value} : Wp scr d 311 3 [some (.retAddr l0)] (.int x :: st) H Q ↔ (x = 0 → Wp scr d 311 17 [some (.retAddr l0)] (st) H Q) ∧ (¬ (x = 0) → Wp scr d 311 6 [some (.retAddr l0)] (st) H Q) := Wp_ifCond_eq a311_3 rfl
theorem a311_6 : acode 311 6 = some (.aload_n 0, []) := by decide +kernel
theorem w311_6 {scr : List Int32} {d : Nat} {H : List AC} {Q : Option Value → List AC → Prop} {l0 : Nat} {st : List Value} : Wp scr d 311 6 [some (.retAddr l0)] (st) H Q ↔ (l0 < 200 ∨ l0 = 1000) ∧ Wp scr d 311 7 [some (.retAddr l0)] (.retAddr l0 :: st) H Q := Wp_aload_s a311_6 rfl
theorem a311_7 : acode 311 7 = some (.getfield 15, [200, 1, 2055, 0]) := by decide +kernel
theorem w311_7 {scr : List Int32} {d : Nat} {H : List AC} {Q : Option Value → List AC → Prop} {l0 : Nat} {j : Nat} {st : List Value} (hj : j < 19) : Wp scr d 311 7 [some (.retAddr l0)] (.retAddr j :: st) H Q ↔ Wp scr d 311 10 [some (.retAddr l0)] (.int 0 :: st) H Q := Wp_getsc a311_7 hj
theorem a311_10 : acode 311 10 = some (.ifCond .ne 7, []) := by decide +kernel
theorem w311_10 {scr : List Int32} {d : Nat} {H : List AC} {Q : Option Value → List AC → Prop} {l0 : Nat} {x : Int32} {st : List Value} : Wp scr d 311 10 [some (.retAddr l0)] (.int x :: st) H Q ↔ (¬ x = 0 → Wp scr d 311 17 [some (.retAddr l0)] (st) H Q) ∧ (¬ (¬ x = 0) → Wp scr d 311 13 [some (.retAddr l0)] (st) H Q) := Wp_ifCond_ne a311_10 rfl
theorem a311_13 : acode 311 13 = some (.iconst 1, []) := by decide +kernel
theorem w311_13 {scr : List Int32} {d : Nat} {H : List AC} {Q : Option Value → List AC → Prop} {l0 : Nat} {st : List Value} : Wp scr d 311 13 [some (.retAddr l0)] (st) H Q ↔ Wp scr d 311 14 [some (.retAddr l0)] (.int (1) :: st) H Q := Wp_iconst a311_13 rfl
theorem a311_14 : acode 311 14 = some (.goto 4, []) := by decide +kernel
theorem w311_14 {scr : List Int32} {d : Nat} {H : List AC} {Q : Option Value → List AC → Prop} {l0 : Nat} {st : List Value} : Wp scr d 311 14 [some (.retAddr l0)] (st) H Q ↔ Wp scr d 311 18 [some (.retAddr l0)] (st) H Q := Wp_goto a311_14 rfl
theorem a311_17 : acode 311 17 = some (.iconst 0, []) := by decide +kernel
theorem w311_17 {scr : List Int32} {d : Nat} {H : List AC} {Q : Option Value → List AC → Prop} {l0 : Nat} {st : List Value} : Wp scr d 311 17 [some (.retAddr l0)] (st) H Q ↔ Wp scr d 311 18 [some (.retAddr l0)] (.int (0) :: st) H Q := Wp_iconst a311_17 rfl
theorem a311_18 : acode 311 18 = some (.ireturn, []) := by decide +kernel
theorem w311_18 {scr : List Int32} {d : Nat} {H : List AC} {Q : Option Value → List AC → Prop} {l0 : Nat} {v : Int32} (hv : v = 0 ∨ v = 1) : Wp scr d 311 18 [some (.retAddr l0)] ([.int v]) H Q ↔ Q (some (.int v)) H := Wp_zret a311_18 mr311 hv
theorem mx312 : mMax 312 = 2 := rfl
theorem mr312 : mRet 312 = none := rfl
theorem a312_0 : acode 312 0 = some (.iload_n 0, []) := by decide +kernel
theorem w312_0 {scr : List Int32} {d : Nat} {H : List AC} {Q : Option Value → List AC → Prop} {l0 : Int32} {l1 : Int32} {st : List Value} : Wp scr d 312 0 [some (.int l0), some (.int l1)] (st) H Q ↔ Wp scr d 312 1 [some (.int l0), some (.int l1)] (.int l0 :: st) H Q := Wp_iload_n a312_0 rfl
theorem a312_1 : acode 312 1 = some (.iload_n 1, []) := by decide +kernel
theorem w312_1 {scr : List Int32} {d : Nat} {H : List AC} {Q : Option Value → List AC → Prop} {l0 : Int32} {l1 : Int32} {st : List Value} : Wp scr d 312 1 [some (.int l0), some (.int l1)] (st) H Q ↔ Wp scr d 312 2 [some (.int l0), some (.int l1)] (.int l1 :: st) H Q := Wp_iload_n a312_1 rfl
theorem a312_2 : acode 312 2 = some (.getstatic 1053, [1, 999, 594]) := by decide +kernel
theorem w312_2 {scr : List Int32} {d : Nat} {H : List AC} {Q : Option Value → List AC → Prop} {l0 : Int32} {l1 : Int32} {st : List Value} : Wp scr d 312 2 [some (.int l0), some (.int l1)] (st) H Q ↔ Wp scr d 312 5 [some (.int l0), some (.int l1)] (.retAddr 999 :: st) H Q := Wp_getsr a312_2
theorem a312_5 : acode 312 5 = some (.invokestatic 1059, [2, 314, 3, 596, 0]) := by decide +kernel
theorem w312_5 {scr : List Int32} {d : Nat} {H : List AC} {Q : Option Value → List AC → Prop} {l0 : Int32} {l1 : Int32} {s0 : Int32} {s1 : Int32} : Wp scr (d + 1) 312 5 [some (.int l0), some (.int l1)] ([.retAddr 999, .int s1, .int s0]) H Q ↔ Wp scr d 314 0 [some (.int s0), some (.int s1), some (.retAddr 999)] [] H (cont scr (d + 1) 312 8 [some (.int l0), some (.int l1)] [] 2 H Q) := Wp_stat (As := [.retAddr 999, .int s1, .int s0]) a312_5 rfl rfl rfl rfl (by exact Nat.le_of_ble_eq_true rfl)
theorem a312_8 : acode 312 8 = some (.pop, []) := by decide +kernel
theorem w312_8 {scr : List Int32} {d : Nat} {H : List AC} {Q : Option Value → List AC → Prop} {l0 : Int32} {l1 : Int32} {v : Int32} {st : List Value} : Wp scr d 312 8 [some (.int l0), some (.int l1)] (.int v :: st) H Q ↔ Wp scr d 312 9 [some (.int l0), some (.int l1)] (st) H Q := Wp_pop a312_8 rfl
theorem a312_9 : acode 312 9 = some (.return_, []) := by decide +kernel
theorem w312_9 {scr : List Int32} {d : Nat} {H : List AC} {Q : Option Value → List AC → Prop} {l0 : Int32} {l1 : Int32} : Wp scr d 312 9 [some (.int l0), some (.int l1)] ([]) H Q ↔ Q none H := Wp_vret a312_9 mr312
theorem mx313 : mMax 313 = 2 := rfl
theorem mr313 : mRet 313 = some .char := rfl
theorem a313_0 : acode 313 0 = some (.iload_n 1, []) := by decide +kernel
theorem w313_0 {scr : List Int32} {d : Nat} {H : List AC} {Q : Option Value → List AC → Prop} {l0 : Nat} {l1 : Int32} {st : List Value} : Wp scr d 313 0 [some (.retAddr l0), some (.int l1)] (st) H Q ↔ Wp scr d 313 1 [some (.retAddr l0), some (.int l1)] (.int l1 :: st) H Q := Wp_iload_n a313_0 rfl
theorem a313_1 : acode 313 1 = some (.aload_n 0, []) := by decide +kernel
theorem w313_1 {scr : List Int32} {d : Nat} {H : List AC} {Q : Option Value → List AC → Prop} {l0 : Nat} {l1 : Int32} {st : List Value} : Wp scr d 313 1 [some (.retAddr l0), some (.int l1)] (st) H Q ↔ (l0 < 200 ∨ l0 = 1000) ∧ Wp scr d 313 2 [some (.retAddr l0), some (.int l1)] (.retAddr l0 :: st) H Q := Wp_aload_s a313_1 rfl
theorem a313_2 : acode 313 2 = some (.arraylength, []) := by decide +kernel
theorem w313_2 {scr : List Int32} {d : Nat} {H : List AC} {Q : Option Value → List AC → Prop} {l0 : Nat} {l1 : Int32} {b : Nat} {st : List Value} (hb : b < 19) : Wp scr d 313 2 [some (.retAddr l0), some (.int l1)] (.retAddr (100 + b) :: st) H Q ↔ Wp scr d 313 3 [some (.retAddr l0), some (.int l1)] (.int (Int32.ofNat (bytS.getD b []).length) :: st) H Q := by rw [Wp_alenB a313_2 (by omega) (by omega), Nat.add_sub_cancel_left]
theorem a313_3 : acode 313 3 = some (.invokestatic 9, [2, 312, 2, 591, 0]) := by decide +kernel
theorem w313_3 {scr : List Int32} {d : Nat} {H : List AC} {Q : Option Value → List AC → Prop} {l0 : Nat} {l1 : Int32} {s0 : Int32} {s1 : Int32} : Wp scr (d + 1) 313 3 [some (.retAddr l0), some (.int l1)] ([.int s1, .int s0]) H Q ↔ Wp scr d 312 0 [some (.int s0), some (.int s1)] [] H (cont scr (d + 1) 313 6 [some (.retAddr l0), some (.int l1)] [] 2 H Q) := Wp_stat (As := [.int s1, .int s0]) a313_3 rfl rfl rfl rfl (by exact Nat.le_of_ble_eq_true rfl)
theorem a313_6 : acode 313 6 = some (.aload_n 0, []) := by decide +kernel
theorem w313_6 {scr : List Int32} {d : Nat} {H : List AC} {Q : Option Value → List AC → Prop} {l0 : Nat} {l1 : Int32} {st : List Value} : Wp scr d 313 6 [some (.retAddr l0), some (.int l1)] (st) H Q ↔ (l0 < 200 ∨ l0 = 1000) ∧ Wp scr d 313 7 [some (.retAddr l0), some (.int l1)] (.retAddr l0 :: st) H Q := Wp_aload_s a313_6 rfl
theorem a313_7 : acode 313 7 = some (.iload_n 1, []) := by decide +kernel
theorem w313_7 {scr : List Int32} {d : Nat} {H : List AC} {Q : Option Value → List AC → Prop} {l0 : Nat} {l1 : Int32} {st : List Value} : Wp scr d 313 7 [some (.retAddr l0), some (.int l1)] (st) H Q ↔ Wp scr d 313 8 [some (.retAddr l0), some (.int l1)] (.int l1 :: st) H Q := Wp_iload_n a313_7 rfl
theorem a313_8 : acode 313 8 = some (.baload, []) := by decide +kernel
theorem w313_8 {scr : List Int32} {d : Nat} {H : List AC} {Q : Option Value → List AC → Prop} {l0 : Nat} {l1 : Int32} {j : Int32} {b : Nat} {st : List Value} (hb : b < 19) : Wp scr d 313 8 [some (.retAddr l0), some (.int l1)] (.int j :: .retAddr (100 + b) :: st) H Q ↔ inb j (bytS.getD b []).length = true ∧ Wp scr d 313 9 [some (.retAddr l0), some (.int l1)] (.int ((bytS.getD b []).getD j.toNatClampNeg 0) :: st) H Q := by rw [Wp_baload a313_8 (by omega) (by omega), Nat.add_sub_cancel_left]
theorem a313_9 : acode 313 9 = some (.sipush 255, []) := by decide +kernel
theorem w313_9 {scr : List Int32} {d : Nat} {H : List AC} {Q : Option Value → List AC → Prop} {l0 : Nat} {l1 : Int32} {st : List Value} : Wp scr d 313 9 [some (.retAddr l0), some (.int l1)] (st) H Q ↔ Wp scr d 313 12 [some (.retAddr l0), some (.int l1)] (.int (255) :: st) H Q := Wp_sipush a313_9 rfl
theorem a313_12 : acode 313 12 = some (.iand, []) := by decide +kernel
theorem w313_12 {scr : List Int32} {d : Nat} {H : List AC} {Q : Option Value → List AC → Prop} {l0 : Nat} {l1 : Int32} {x : Int32} {y : Int32} {st : List Value} : Wp scr d 313 12 [some (.retAddr l0), some (.int l1)] (.int y :: .int x :: st) H Q ↔ Wp scr d 313 13 [some (.retAddr l0), some (.int l1)] (.int (x &&& y) :: st) H Q := Wp_iand a313_12
theorem a313_13 : acode 313 13 = some (.i2c, []) := by decide +kernel
theorem w313_13 {scr : List Int32} {d : Nat} {H : List AC} {Q : Option Value → List AC → Prop} {l0 : Nat} {l1 : Int32} {x : Int32} {st : List Value} : Wp scr d 313 13 [some (.retAddr l0), some (.int l1)] (.int x :: st) H Q ↔ Wp scr d 313 14 [some (.retAddr l0), some (.int l1)] (.int ((x.toUInt32 % 65536).toInt32) :: st) H Q := Wp_i2c a313_13
theorem a313_14 : acode 313 14 = some (.ireturn, []) := by decide +kernel
theorem w313_14 {scr : List Int32} {d : Nat} {H : List AC} {Q : Option Value → List AC → Prop} {l0 : Nat} {l1 : Int32} {v : Int32} (hv : narrow .char (.int v) = .int v) : Wp scr d 313 14 [some (.retAddr l0), some (.int l1)] ([.int v]) H Q ↔ Q (some (.int v)) H := Wp_iret a313_14 mr313 hv
theorem mx314 : mMax 314 = 3 := rfl
theorem mr314 : mRet 314 = some .int := rfl
theorem a314_0 : acode 314 0 = some (.iload_n 0, []) := by decide +kernel
theorem w314_0 {scr : List Int32} {d : Nat} {H : List AC} {Q : Option Value → List AC → Prop} {l0 : Int32} {l1 : Int32} {st : List Value} : Wp scr d 314 0 [some (.int l0), some (.int l1), some (.retAddr 999)] (st) H Q ↔ Wp scr d 314 1 [some (.int l0), some (.int l1), some (.retAddr 999)] (.int l0 :: st) H Q := Wp_iload_n a314_0 rfl
theorem a314_1 : acode 314 1 = some (.ifCond .lt 8, []) := by decide +kernel
theorem w314_1 {scr : List Int32} {d : Nat} {H : List AC} {Q : Option Value → List AC → Prop} {l0 : Int32} {l1 : Int32} {x : Int32} {st : List Value} : Wp scr d 314 1 [some (.int l0), some (.int l1), some (.retAddr 999)] (.int x :: st) H Q ↔ (x < 0 → Wp scr d 314 9 [some (.int l0), some (.int l1), some (.retAddr 999)] (st) H Q) ∧ (¬ (x < 0) → Wp scr d 314 4 [some (.int l0), some (.int l1), some (.retAddr 999)] (st) H Q) := Wp_ifCond_lt a314_1 rfl
theorem a314_4 : acode 314 4 = some (.iload_n 0, []) := by decide +kernel
theorem w314_4 {scr : List Int32} {d : Nat} {H : List AC} {Q : Option Value → List AC → Prop} {l0 : Int32} {l1 : Int32} {st : List Value} : Wp scr d 314 4 [some (.int l0), some (.int l1), some (.retAddr 999)] (st) H Q ↔ Wp scr d 314 5 [some (.int l0), some (.int l1), some (.retAddr 999)] (.int l0 :: st) H Q := Wp_iload_n a314_4 rfl
theorem a314_5 : acode 314 5 = some (.iload_n 1, []) := by decide +kernel
theorem w314_5 {scr : List Int32} {d : Nat} {H : List AC} {Q : Option Value → List AC → Prop} {l0 : Int32} {l1 : Int32} {st : List Value} : Wp scr d 314 5 [some (.int l0), some (.int l1), some (.retAddr 999)] (st) H Q ↔ Wp scr d 314 6 [some (.int l0), some (.int l1), some (.retAddr 999)] (.int l1 :: st) H Q := Wp_iload_n a314_5 rfl
theorem a314_6 : acode 314 6 = some (.if_icmp .lt 10, []) := by decide +kernel
theorem w314_6 {scr : List Int32} {d : Nat} {H : List AC} {Q : Option Value → List AC → Prop} {l0 : Int32} {l1 : Int32} {x : Int32} {y : Int32} {st : List Value} : Wp scr d 314 6 [some (.int l0), some (.int l1), some (.retAddr 999)] (.int y :: .int x :: st) H Q ↔ (x < y → Wp scr d 314 16 [some (.int l0), some (.int l1), some (.retAddr 999)] (st) H Q) ∧ (¬ (x < y) → Wp scr d 314 9 [some (.int l0), some (.int l1), some (.retAddr 999)] (st) H Q) := Wp_if_icmp_lt a314_6 rfl
theorem a314_9 : acode 314 9 = some (.aload_n 2, []) := by decide +kernel
theorem a314_10 : acode 314 10 = some (.iload_n 0, []) := by decide +kernel
theorem w314_10 {scr : List Int32} {d : Nat} {H : List AC} {Q : Option Value → List AC → Prop} {l0 : Int32} {l1 : Int32} {st : List Value} : Wp scr d 314 10 [some (.int l0), some (.int l1), some (.retAddr 999)] (st) H Q ↔ Wp scr d 314 11 [some (.int l0), some (.int l1), some (.retAddr 999)] (.int l0 :: st) H Q := Wp_iload_n a314_10 rfl
theorem a314_11 : acode 314 11 = some (.iload_n 1, []) := by decide +kernel
theorem w314_11 {scr : List Int32} {d : Nat} {H : List AC} {Q : Option Value → List AC → Prop} {l0 : Int32} {l1 : Int32} {st : List Value} : Wp scr d 314 11 [some (.int l0), some (.int l1), some (.retAddr 999)] (st) H Q ↔ Wp scr d 314 12 [some (.int l0), some (.int l1), some (.retAddr 999)] (.int l1 :: st) H Q := Wp_iload_n a314_11 rfl
theorem a314_12 : acode 314 12 = some (.invokestatic 95, []) := by decide +kernel
theorem a314_16 : acode 314 16 = some (.iload_n 0, []) := by decide +kernel
theorem w314_16 {scr : List Int32} {d : Nat} {H : List AC} {Q : Option Value → List AC → Prop} {l0 : Int32} {l1 : Int32} {st : List Value} : Wp scr d 314 16 [some (.int l0), some (.int l1), some (.retAddr 999)] (st) H Q ↔ Wp scr d 314 17 [some (.int l0), some (.int l1), some (.retAddr 999)] (.int l0 :: st) H Q := Wp_iload_n a314_16 rfl
theorem a314_17 : acode 314 17 = some (.ireturn, []) := by decide +kernel
theorem w314_17 {scr : List Int32} {d : Nat} {H : List AC} {Q : Option Value → List AC → Prop} {l0 : Int32} {l1 : Int32} {v : Int32} : Wp scr d 314 17 [some (.int l0), some (.int l1), some (.retAddr 999)] ([.int v]) H Q ↔ Q (some (.int v)) H := Wp_iret a314_17 mr314 rfl
