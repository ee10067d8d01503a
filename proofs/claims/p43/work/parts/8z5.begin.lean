/-! what is known at the start -/
def fl1 : List Cond := flatC (Jvm.Cond.and given_1 narrow_1)
def stI (i : Nat) : String × Nat × String := stS.getD i ("", 0, "")
def tmS (i : Nat) : Term := Term.string (stI i).1 (stI i).2.1
def tmV (i : Nat) : Term := Term.field (tmS i) "java/lang/String" "value" "[B"
theorem fl_ex : ∀ i, i < 61 → Cond.exactly (tmS i) "java/lang/String" ∈ fl1 := by decide +kernel
def posC : List Nat := [218, 369, 386, 420, 458, 476, 493, 523, 540, 561, 585, 605, 639, 656, 667, 672, 684, 695, 701, 709, 717, 721, 734, 745, 750, 761, 774, 789, 801, 811, 825, 840, 855, 860, 865, 870, 875, 883, 891, 896, 901, 906, 912, 918, 934, 944, 957, 969, 974, 981, 986, 991, 996, 1002, 1010, 1015, 1020, 1027, 1033, 1059, 1082]
theorem fl_coP : ∀ i, i < 61 → fl1[posC.getD i 0]? = some (Cond.eq (Term.field (tmS i) "java/lang/String" "coder" "B") (.int 0)) := by decide +kernel
theorem fl_co : ∀ i, i < 61 → Cond.eq (Term.field (tmS i) "java/lang/String" "coder" "B") (.int 0) ∈ fl1 := fun i hi => List.mem_of_getElem? (fl_coP i hi)
theorem fl_ar : ∀ i, i < 61 → Cond.arrayOf (tmV i) .byte ∈ fl1 := by decide +kernel
def posL : List Nat := [220, 371, 388, 422, 460, 478, 495, 525, 542, 563, 587, 607, 641, 658, 669, 674, 686, 697, 703, 711, 719, 723, 736, 747, 752, 763, 776, 791, 803, 813, 827, 842, 857, 862, 867, 872, 877, 885, 893, 898, 903, 908, 914, 920, 936, 946, 959, 971, 976, 983, 988, 993, 998, 1004, 1012, 1017, 1022, 1029, 1035, 1061, 1084]
theorem fl_leP : ∀ i, i < 61 → fl1[posL.getD i 0]? = some (Cond.eq (.length (tmV i)) (.int (Int32.ofNat (lenS.getD i 0)))) := by decide +kernel
theorem fl_le : ∀ i, i < 61 → Cond.eq (.length (tmV i)) (.int (Int32.ofNat (lenS.getD i 0))) ∈ fl1 := fun i hi => List.mem_of_getElem? (fl_leP i hi)
def posE : List Nat := [221, 372, 389, 423, 461, 479, 496, 526, 543, 564, 588, 608, 642, 659, 670, 675, 687, 698, 704, 712, 0, 724, 737, 748, 753, 764, 777, 792, 804, 814, 828, 843, 858, 863, 868, 873, 878, 886, 894, 899, 904, 909, 915, 921, 937, 947, 960, 972, 977, 984, 989, 994, 999, 1005, 1013, 1018, 1023, 1030, 1036, 1062, 1085]
def elP (i : Nat) : Prop := ∀ j, j < lenS.getD i 0 → fl1[posE.getD i 0 + j]? = some (Cond.eq (.elem (tmV i) (.int (Int32.ofNat j))) (.int ((bytS.getD i []).getD j 0)))
theorem fl_e0 : ∀ j, j < lenS.getD 0 0 → fl1[posE.getD 0 0 + j]? = some (Cond.eq (.elem (tmV 0) (.int (Int32.ofNat j))) (.int ((bytS.getD 0 []).getD j 0))) := by decide +kernel
theorem fl_e1 : ∀ j, j < lenS.getD 1 0 → fl1[posE.getD 1 0 + j]? = some (Cond.eq (.elem (tmV 1) (.int (Int32.ofNat j))) (.int ((bytS.getD 1 []).getD j 0))) := by decide +kernel
theorem fl_e2 : ∀ j, j < lenS.getD 2 0 → fl1[posE.getD 2 0 + j]? = some (Cond.eq (.elem (tmV 2) (.int (Int32.ofNat j))) (.int ((bytS.getD 2 []).getD j 0))) := by decide +kernel
theorem fl_e3 : ∀ j, j < lenS.getD 3 0 → fl1[posE.getD 3 0 + j]? = some (Cond.eq (.elem (tmV 3) (.int (Int32.ofNat j))) (.int ((bytS.getD 3 []).getD j 0))) := by decide +kernel
theorem fl_e4 : ∀ j, j < lenS.getD 4 0 → fl1[posE.getD 4 0 + j]? = some (Cond.eq (.elem (tmV 4) (.int (Int32.ofNat j))) (.int ((bytS.getD 4 []).getD j 0))) := by decide +kernel
theorem fl_e5 : ∀ j, j < lenS.getD 5 0 → fl1[posE.getD 5 0 + j]? = some (Cond.eq (.elem (tmV 5) (.int (Int32.ofNat j))) (.int ((bytS.getD 5 []).getD j 0))) := by decide +kernel
theorem fl_e6 : ∀ j, j < lenS.getD 6 0 → fl1[posE.getD 6 0 + j]? = some (Cond.eq (.elem (tmV 6) (.int (Int32.ofNat j))) (.int ((bytS.getD 6 []).getD j 0))) := by decide +kernel
theorem fl_e7 : ∀ j, j < lenS.getD 7 0 → fl1[posE.getD 7 0 + j]? = some (Cond.eq (.elem (tmV 7) (.int (Int32.ofNat j))) (.int ((bytS.getD 7 []).getD j 0))) := by decide +kernel
theorem fl_e8 : ∀ j, j < lenS.getD 8 0 → fl1[posE.getD 8 0 + j]? = some (Cond.eq (.elem (tmV 8) (.int (Int32.ofNat j))) (.int ((bytS.getD 8 []).getD j 0))) := by decide +kernel
theorem fl_e9 : ∀ j, j < lenS.getD 9 0 → fl1[posE.getD 9 0 + j]? = some (Cond.eq (.elem (tmV 9) (.int (Int32.ofNat j))) (.int ((bytS.getD 9 []).getD j 0))) := by decide +kernel
theorem fl_e10 : ∀ j, j < lenS.getD 10 0 → fl1[posE.getD 10 0 + j]? = some (Cond.eq (.elem (tmV 10) (.int (Int32.ofNat j))) (.int ((bytS.getD 10 []).getD j 0))) := by decide +kernel
theorem fl_e11 : ∀ j, j < lenS.getD 11 0 → fl1[posE.getD 11 0 + j]? = some (Cond.eq (.elem (tmV 11) (.int (Int32.ofNat j))) (.int ((bytS.getD 11 []).getD j 0))) := by decide +kernel
theorem fl_e12 : ∀ j, j < lenS.getD 12 0 → fl1[posE.getD 12 0 + j]? = some (Cond.eq (.elem (tmV 12) (.int (Int32.ofNat j))) (.int ((bytS.getD 12 []).getD j 0))) := by decide +kernel
theorem fl_e13 : ∀ j, j < lenS.getD 13 0 → fl1[posE.getD 13 0 + j]? = some (Cond.eq (.elem (tmV 13) (.int (Int32.ofNat j))) (.int ((bytS.getD 13 []).getD j 0))) := by decide +kernel
theorem fl_e14 : ∀ j, j < lenS.getD 14 0 → fl1[posE.getD 14 0 + j]? = some (Cond.eq (.elem (tmV 14) (.int (Int32.ofNat j))) (.int ((bytS.getD 14 []).getD j 0))) := by decide +kernel
theorem fl_e15 : ∀ j, j < lenS.getD 15 0 → fl1[posE.getD 15 0 + j]? = some (Cond.eq (.elem (tmV 15) (.int (Int32.ofNat j))) (.int ((bytS.getD 15 []).getD j 0))) := by decide +kernel
theorem fl_e16 : ∀ j, j < lenS.getD 16 0 → fl1[posE.getD 16 0 + j]? = some (Cond.eq (.elem (tmV 16) (.int (Int32.ofNat j))) (.int ((bytS.getD 16 []).getD j 0))) := by decide +kernel
theorem fl_e17 : ∀ j, j < lenS.getD 17 0 → fl1[posE.getD 17 0 + j]? = some (Cond.eq (.elem (tmV 17) (.int (Int32.ofNat j))) (.int ((bytS.getD 17 []).getD j 0))) := by decide +kernel
theorem fl_e18 : ∀ j, j < lenS.getD 18 0 → fl1[posE.getD 18 0 + j]? = some (Cond.eq (.elem (tmV 18) (.int (Int32.ofNat j))) (.int ((bytS.getD 18 []).getD j 0))) := by decide +kernel
theorem fl_e19 : ∀ j, j < lenS.getD 19 0 → fl1[posE.getD 19 0 + j]? = some (Cond.eq (.elem (tmV 19) (.int (Int32.ofNat j))) (.int ((bytS.getD 19 []).getD j 0))) := by decide +kernel
theorem fl_e20 : ∀ j, j < lenS.getD 20 0 → fl1[posE.getD 20 0 + j]? = some (Cond.eq (.elem (tmV 20) (.int (Int32.ofNat j))) (.int ((bytS.getD 20 []).getD j 0))) := by decide +kernel
theorem fl_e21 : ∀ j, j < lenS.getD 21 0 → fl1[posE.getD 21 0 + j]? = some (Cond.eq (.elem (tmV 21) (.int (Int32.ofNat j))) (.int ((bytS.getD 21 []).getD j 0))) := by decide +kernel
theorem fl_e22 : ∀ j, j < lenS.getD 22 0 → fl1[posE.getD 22 0 + j]? = some (Cond.eq (.elem (tmV 22) (.int (Int32.ofNat j))) (.int ((bytS.getD 22 []).getD j 0))) := by decide +kernel
theorem fl_e23 : ∀ j, j < lenS.getD 23 0 → fl1[posE.getD 23 0 + j]? = some (Cond.eq (.elem (tmV 23) (.int (Int32.ofNat j))) (.int ((bytS.getD 23 []).getD j 0))) := by decide +kernel
theorem fl_e24 : ∀ j, j < lenS.getD 24 0 → fl1[posE.getD 24 0 + j]? = some (Cond.eq (.elem (tmV 24) (.int (Int32.ofNat j))) (.int ((bytS.getD 24 []).getD j 0))) := by decide +kernel
theorem fl_e25 : ∀ j, j < lenS.getD 25 0 → fl1[posE.getD 25 0 + j]? = some (Cond.eq (.elem (tmV 25) (.int (Int32.ofNat j))) (.int ((bytS.getD 25 []).getD j 0))) := by decide +kernel
theorem fl_e26 : ∀ j, j < lenS.getD 26 0 → fl1[posE.getD 26 0 + j]? = some (Cond.eq (.elem (tmV 26) (.int (Int32.ofNat j))) (.int ((bytS.getD 26 []).getD j 0))) := by decide +kernel
theorem fl_e27 : ∀ j, j < lenS.getD 27 0 → fl1[posE.getD 27 0 + j]? = some (Cond.eq (.elem (tmV 27) (.int (Int32.ofNat j))) (.int ((bytS.getD 27 []).getD j 0))) := by decide +kernel
theorem fl_e28 : ∀ j, j < lenS.getD 28 0 → fl1[posE.getD 28 0 + j]? = some (Cond.eq (.elem (tmV 28) (.int (Int32.ofNat j))) (.int ((bytS.getD 28 []).getD j 0))) := by decide +kernel
theorem fl_e29 : ∀ j, j < lenS.getD 29 0 → fl1[posE.getD 29 0 + j]? = some (Cond.eq (.elem (tmV 29) (.int (Int32.ofNat j))) (.int ((bytS.getD 29 []).getD j 0))) := by decide +kernel
theorem fl_e30 : ∀ j, j < lenS.getD 30 0 → fl1[posE.getD 30 0 + j]? = some (Cond.eq (.elem (tmV 30) (.int (Int32.ofNat j))) (.int ((bytS.getD 30 []).getD j 0))) := by decide +kernel
theorem fl_e31 : ∀ j, j < lenS.getD 31 0 → fl1[posE.getD 31 0 + j]? = some (Cond.eq (.elem (tmV 31) (.int (Int32.ofNat j))) (.int ((bytS.getD 31 []).getD j 0))) := by decide +kernel
theorem fl_e32 : ∀ j, j < lenS.getD 32 0 → fl1[posE.getD 32 0 + j]? = some (Cond.eq (.elem (tmV 32) (.int (Int32.ofNat j))) (.int ((bytS.getD 32 []).getD j 0))) := by decide +kernel
theorem fl_e33 : ∀ j, j < lenS.getD 33 0 → fl1[posE.getD 33 0 + j]? = some (Cond.eq (.elem (tmV 33) (.int (Int32.ofNat j))) (.int ((bytS.getD 33 []).getD j 0))) := by decide +kernel
theorem fl_e34 : ∀ j, j < lenS.getD 34 0 → fl1[posE.getD 34 0 + j]? = some (Cond.eq (.elem (tmV 34) (.int (Int32.ofNat j))) (.int ((bytS.getD 34 []).getD j 0))) := by decide +kernel
theorem fl_e35 : ∀ j, j < lenS.getD 35 0 → fl1[posE.getD 35 0 + j]? = some (Cond.eq (.elem (tmV 35) (.int (Int32.ofNat j))) (.int ((bytS.getD 35 []).getD j 0))) := by decide +kernel
theorem fl_e36 : ∀ j, j < lenS.getD 36 0 → fl1[posE.getD 36 0 + j]? = some (Cond.eq (.elem (tmV 36) (.int (Int32.ofNat j))) (.int ((bytS.getD 36 []).getD j 0))) := by decide +kernel
theorem fl_e37 : ∀ j, j < lenS.getD 37 0 → fl1[posE.getD 37 0 + j]? = some (Cond.eq (.elem (tmV 37) (.int (Int32.ofNat j))) (.int ((bytS.getD 37 []).getD j 0))) := by decide +kernel
theorem fl_e38 : ∀ j, j < lenS.getD 38 0 → fl1[posE.getD 38 0 + j]? = some (Cond.eq (.elem (tmV 38) (.int (Int32.ofNat j))) (.int ((bytS.getD 38 []).getD j 0))) := by decide +kernel
theorem fl_e39 : ∀ j, j < lenS.getD 39 0 → fl1[posE.getD 39 0 + j]? = some (Cond.eq (.elem (tmV 39) (.int (Int32.ofNat j))) (.int ((bytS.getD 39 []).getD j 0))) := by decide +kernel
theorem fl_e40 : ∀ j, j < lenS.getD 40 0 → fl1[posE.getD 40 0 + j]? = some (Cond.eq (.elem (tmV 40) (.int (Int32.ofNat j))) (.int ((bytS.getD 40 []).getD j 0))) := by decide +kernel
theorem fl_e41 : ∀ j, j < lenS.getD 41 0 → fl1[posE.getD 41 0 + j]? = some (Cond.eq (.elem (tmV 41) (.int (Int32.ofNat j))) (.int ((bytS.getD 41 []).getD j 0))) := by decide +kernel
theorem fl_e42 : ∀ j, j < lenS.getD 42 0 → fl1[posE.getD 42 0 + j]? = some (Cond.eq (.elem (tmV 42) (.int (Int32.ofNat j))) (.int ((bytS.getD 42 []).getD j 0))) := by decide +kernel
theorem fl_e43 : ∀ j, j < lenS.getD 43 0 → fl1[posE.getD 43 0 + j]? = some (Cond.eq (.elem (tmV 43) (.int (Int32.ofNat j))) (.int ((bytS.getD 43 []).getD j 0))) := by decide +kernel
theorem fl_e44 : ∀ j, j < lenS.getD 44 0 → fl1[posE.getD 44 0 + j]? = some (Cond.eq (.elem (tmV 44) (.int (Int32.ofNat j))) (.int ((bytS.getD 44 []).getD j 0))) := by decide +kernel
theorem fl_e45 : ∀ j, j < lenS.getD 45 0 → fl1[posE.getD 45 0 + j]? = some (Cond.eq (.elem (tmV 45) (.int (Int32.ofNat j))) (.int ((bytS.getD 45 []).getD j 0))) := by decide +kernel
theorem fl_e46 : ∀ j, j < lenS.getD 46 0 → fl1[posE.getD 46 0 + j]? = some (Cond.eq (.elem (tmV 46) (.int (Int32.ofNat j))) (.int ((bytS.getD 46 []).getD j 0))) := by decide +kernel
theorem fl_e47 : ∀ j, j < lenS.getD 47 0 → fl1[posE.getD 47 0 + j]? = some (Cond.eq (.elem (tmV 47) (.int (Int32.ofNat j))) (.int ((bytS.getD 47 []).getD j 0))) := by decide +kernel
theorem fl_e48 : ∀ j, j < lenS.getD 48 0 → fl1[posE.getD 48 0 + j]? = some (Cond.eq (.elem (tmV 48) (.int (Int32.ofNat j))) (.int ((bytS.getD 48 []).getD j 0))) := by decide +kernel
theorem fl_e49 : ∀ j, j < lenS.getD 49 0 → fl1[posE.getD 49 0 + j]? = some (Cond.eq (.elem (tmV 49) (.int (Int32.ofNat j))) (.int ((bytS.getD 49 []).getD j 0))) := by decide +kernel
theorem fl_e50 : ∀ j, j < lenS.getD 50 0 → fl1[posE.getD 50 0 + j]? = some (Cond.eq (.elem (tmV 50) (.int (Int32.ofNat j))) (.int ((bytS.getD 50 []).getD j 0))) := by decide +kernel
theorem fl_e51 : ∀ j, j < lenS.getD 51 0 → fl1[posE.getD 51 0 + j]? = some (Cond.eq (.elem (tmV 51) (.int (Int32.ofNat j))) (.int ((bytS.getD 51 []).getD j 0))) := by decide +kernel
theorem fl_e52 : ∀ j, j < lenS.getD 52 0 → fl1[posE.getD 52 0 + j]? = some (Cond.eq (.elem (tmV 52) (.int (Int32.ofNat j))) (.int ((bytS.getD 52 []).getD j 0))) := by decide +kernel
theorem fl_e53 : ∀ j, j < lenS.getD 53 0 → fl1[posE.getD 53 0 + j]? = some (Cond.eq (.elem (tmV 53) (.int (Int32.ofNat j))) (.int ((bytS.getD 53 []).getD j 0))) := by decide +kernel
theorem fl_e54 : ∀ j, j < lenS.getD 54 0 → fl1[posE.getD 54 0 + j]? = some (Cond.eq (.elem (tmV 54) (.int (Int32.ofNat j))) (.int ((bytS.getD 54 []).getD j 0))) := by decide +kernel
theorem fl_e55 : ∀ j, j < lenS.getD 55 0 → fl1[posE.getD 55 0 + j]? = some (Cond.eq (.elem (tmV 55) (.int (Int32.ofNat j))) (.int ((bytS.getD 55 []).getD j 0))) := by decide +kernel
theorem fl_e56 : ∀ j, j < lenS.getD 56 0 → fl1[posE.getD 56 0 + j]? = some (Cond.eq (.elem (tmV 56) (.int (Int32.ofNat j))) (.int ((bytS.getD 56 []).getD j 0))) := by decide +kernel
theorem fl_e57 : ∀ j, j < lenS.getD 57 0 → fl1[posE.getD 57 0 + j]? = some (Cond.eq (.elem (tmV 57) (.int (Int32.ofNat j))) (.int ((bytS.getD 57 []).getD j 0))) := by decide +kernel
theorem fl_e58 : ∀ j, j < lenS.getD 58 0 → fl1[posE.getD 58 0 + j]? = some (Cond.eq (.elem (tmV 58) (.int (Int32.ofNat j))) (.int ((bytS.getD 58 []).getD j 0))) := by decide +kernel
theorem fl_e59 : ∀ j, j < lenS.getD 59 0 → fl1[posE.getD 59 0 + j]? = some (Cond.eq (.elem (tmV 59) (.int (Int32.ofNat j))) (.int ((bytS.getD 59 []).getD j 0))) := by decide +kernel
theorem fl_e60 : ∀ j, j < lenS.getD 60 0 → fl1[posE.getD 60 0 + j]? = some (Cond.eq (.elem (tmV 60) (.int (Int32.ofNat j))) (.int ((bytS.getD 60 []).getD j 0))) := by decide +kernel
theorem fl_el : ∀ i, i < 61 → ∀ j, j < lenS.getD i 0 → Cond.eq (.elem (tmV i) (.int (Int32.ofNat j))) (.int ((bytS.getD i []).getD j 0)) ∈ fl1 := by
  intro i hi j hj
  match i, hi with
  | 0, _ => exact List.mem_of_getElem? (fl_e0 j hj)
  | 1, _ => exact List.mem_of_getElem? (fl_e1 j hj)
  | 2, _ => exact List.mem_of_getElem? (fl_e2 j hj)
  | 3, _ => exact List.mem_of_getElem? (fl_e3 j hj)
  | 4, _ => exact List.mem_of_getElem? (fl_e4 j hj)
  | 5, _ => exact List.mem_of_getElem? (fl_e5 j hj)
  | 6, _ => exact List.mem_of_getElem? (fl_e6 j hj)
  | 7, _ => exact List.mem_of_getElem? (fl_e7 j hj)
  | 8, _ => exact List.mem_of_getElem? (fl_e8 j hj)
  | 9, _ => exact List.mem_of_getElem? (fl_e9 j hj)
  | 10, _ => exact List.mem_of_getElem? (fl_e10 j hj)
  | 11, _ => exact List.mem_of_getElem? (fl_e11 j hj)
  | 12, _ => exact List.mem_of_getElem? (fl_e12 j hj)
  | 13, _ => exact List.mem_of_getElem? (fl_e13 j hj)
  | 14, _ => exact List.mem_of_getElem? (fl_e14 j hj)
  | 15, _ => exact List.mem_of_getElem? (fl_e15 j hj)
  | 16, _ => exact List.mem_of_getElem? (fl_e16 j hj)
  | 17, _ => exact List.mem_of_getElem? (fl_e17 j hj)
  | 18, _ => exact List.mem_of_getElem? (fl_e18 j hj)
  | 19, _ => exact List.mem_of_getElem? (fl_e19 j hj)
  | 20, _ => exact List.mem_of_getElem? (fl_e20 j hj)
  | 21, _ => exact List.mem_of_getElem? (fl_e21 j hj)
  | 22, _ => exact List.mem_of_getElem? (fl_e22 j hj)
  | 23, _ => exact List.mem_of_getElem? (fl_e23 j hj)
  | 24, _ => exact List.mem_of_getElem? (fl_e24 j hj)
  | 25, _ => exact List.mem_of_getElem? (fl_e25 j hj)
  | 26, _ => exact List.mem_of_getElem? (fl_e26 j hj)
  | 27, _ => exact List.mem_of_getElem? (fl_e27 j hj)
  | 28, _ => exact List.mem_of_getElem? (fl_e28 j hj)
  | 29, _ => exact List.mem_of_getElem? (fl_e29 j hj)
  | 30, _ => exact List.mem_of_getElem? (fl_e30 j hj)
  | 31, _ => exact List.mem_of_getElem? (fl_e31 j hj)
  | 32, _ => exact List.mem_of_getElem? (fl_e32 j hj)
  | 33, _ => exact List.mem_of_getElem? (fl_e33 j hj)
  | 34, _ => exact List.mem_of_getElem? (fl_e34 j hj)
  | 35, _ => exact List.mem_of_getElem? (fl_e35 j hj)
  | 36, _ => exact List.mem_of_getElem? (fl_e36 j hj)
  | 37, _ => exact List.mem_of_getElem? (fl_e37 j hj)
  | 38, _ => exact List.mem_of_getElem? (fl_e38 j hj)
  | 39, _ => exact List.mem_of_getElem? (fl_e39 j hj)
  | 40, _ => exact List.mem_of_getElem? (fl_e40 j hj)
  | 41, _ => exact List.mem_of_getElem? (fl_e41 j hj)
  | 42, _ => exact List.mem_of_getElem? (fl_e42 j hj)
  | 43, _ => exact List.mem_of_getElem? (fl_e43 j hj)
  | 44, _ => exact List.mem_of_getElem? (fl_e44 j hj)
  | 45, _ => exact List.mem_of_getElem? (fl_e45 j hj)
  | 46, _ => exact List.mem_of_getElem? (fl_e46 j hj)
  | 47, _ => exact List.mem_of_getElem? (fl_e47 j hj)
  | 48, _ => exact List.mem_of_getElem? (fl_e48 j hj)
  | 49, _ => exact List.mem_of_getElem? (fl_e49 j hj)
  | 50, _ => exact List.mem_of_getElem? (fl_e50 j hj)
  | 51, _ => exact List.mem_of_getElem? (fl_e51 j hj)
  | 52, _ => exact List.mem_of_getElem? (fl_e52 j hj)
  | 53, _ => exact List.mem_of_getElem? (fl_e53 j hj)
  | 54, _ => exact List.mem_of_getElem? (fl_e54 j hj)
  | 55, _ => exact List.mem_of_getElem? (fl_e55 j hj)
  | 56, _ => exact List.mem_of_getElem? (fl_e56 j hj)
  | 57, _ => exact List.mem_of_getElem? (fl_e57 j hj)
  | 58, _ => exact List.mem_of_getElem? (fl_e58 j hj)
  | 59, _ => exact List.mem_of_getElem? (fl_e59 j hj)
  | 60, _ => exact List.mem_of_getElem? (fl_e60 j hj)
  | i + 61, h => exact absurd h (by omega)
theorem fl_sm : ∀ i, i < 61 → lenS.getD i 0 < 2 ^ 31 := by decide +kernel
theorem fl_df : ∀ i, i < 61 → ∀ j, j < 61 → lenS.getD i 0 = lenS.getD j 0 → (∀ k, k < lenS.getD i 0 → (bytS.getD i []).getD k 0 = (bytS.getD j []).getD k 0) → i = j := by decide +kernel
def tmT : Term := Term.static "java/lang/Integer" "DigitTens" "[B"
def tmO : Term := Term.static "java/lang/Integer" "DigitOnes" "[B"
theorem fl_Ta : Cond.arrayOf tmT .byte ∈ fl1 := by decide +kernel
theorem fl_Tl : Cond.eq (.length tmT) (.int 100) ∈ fl1 := by decide +kernel
theorem fl_TeP : ∀ j, j < 100 → fl1[117 + j]? = some (Cond.eq (.elem tmT (.int (Int32.ofNat j))) (.int (tensB j))) := by decide +kernel
theorem fl_Te : ∀ j, j < 100 → Cond.eq (.elem tmT (.int (Int32.ofNat j))) (.int (tensB j)) ∈ fl1 := fun j hj => List.mem_of_getElem? (fl_TeP j hj)
theorem fl_Oa : Cond.arrayOf tmO .byte ∈ fl1 := by decide +kernel
theorem fl_Ol : Cond.eq (.length tmO) (.int 100) ∈ fl1 := by decide +kernel
theorem fl_OeP : ∀ j, j < 100 → fl1[14 + j]? = some (Cond.eq (.elem tmO (.int (Int32.ofNat j))) (.int (onesB j))) := by decide +kernel
theorem fl_Oe : ∀ j, j < 100 → Cond.eq (.elem tmO (.int (Int32.ofNat j))) (.int (onesB j)) ∈ fl1 := fun j hj => List.mem_of_getElem? (fl_OeP j hj)
theorem fl_tE : Cond.eq (tmS iE) (.string "StoryTapestryLaw$Tree" 68) ∈ fl1 ∨ Cond.eq (.string "StoryTapestryLaw$Tree" 68) (tmS iE) ∈ fl1 := by decide +kernel
theorem fl_st : ∀ q ∈ stS, Cond.stringRef q.1 q.2.1 q.2.2 ∈ lw_tbl := by decide +kernel
theorem fl_nc : ∀ q ∈ ncS, Cond.not (.castable q.1 q.2) ∈ fl1 := by
  intro q hq
  unfold ncS at hq
  cases hq
section BG
variable {s : State} {args : Array Value} {A : Nat → Prop}
theorem str_one (h : ∀ w ∈ fl1, w.before args s = true) (hA : ∀ a : Nat, a < s.heap.size → ¬ A a) (i : Nat) (hi : i < 61) : ∃ q : Nat × Nat, (tmS i).eval args s none [] s = some (.ref q.1) ∧ va_O "java/lang/String" q.1 A s s.heap ∧ va_OF "java/lang/String" "coder" "B" (.int 0) q.1 A s s.heap ∧ va_OF "java/lang/String" "value" "[B" (.ref q.2) q.1 A s s.heap ∧ va_T .byte q.2 (lenS.getD i 0) (fun j => .int ((bytS.getD i []).getD j 0)) A s s.heap := by
  obtain ⟨adK, adV, h1, h2⟩ := vk_Sof (args := args) (s := s) (N := 1) (tm := fun _ => tmS i) (len := [lenS.getD i 0]) (byt := [bytS.getD i []]) (A := A)
    (fun k hk => by rw [show k = 0 by omega]; exact fl_sm i hi)
    (fun k hk => h _ (fl_ex i hi)) (fun k hk => h _ (fl_co i hi)) (fun k hk => h _ (fl_ar i hi))
    (fun k hk => by rw [show k = 0 by omega]; exact h _ (fl_le i hi))
    (fun k hk j hj => by rw [show k = 0 by omega] at hj ⊢; exact h _ (fl_el i hi j hj))
    (fun a c ha hc hne => absurd (show a = c by omega) hne) hA
  obtain ⟨b1, b2, b3, b4⟩ := h1.1 0 (by decide)
  exact ⟨(adK 0, adV 0), h2 0 (by decide), b1, b2, b3, b4⟩
theorem str_all (h : ∀ w ∈ fl1, w.before args s = true) (hA : ∀ a : Nat, a < s.heap.size → ¬ A a) : ∃ adK adV : Nat → Nat, vk_S nS lenS bytS adK adV A s s.heap ∧ ∀ i, i < 61 → (tmS i).eval args s none [] s = some (.ref (adK i)) := by
  have h0 : ∀ i : Nat, ∃ q : Nat × Nat, i < 61 → (tmS i).eval args s none [] s = some (.ref q.1) ∧ va_O "java/lang/String" q.1 A s s.heap ∧ va_OF "java/lang/String" "coder" "B" (.int 0) q.1 A s s.heap ∧ va_OF "java/lang/String" "value" "[B" (.ref q.2) q.1 A s s.heap ∧ va_T .byte q.2 (lenS.getD i 0) (fun j => .int ((bytS.getD i []).getD j 0)) A s s.heap := by
    intro i
    by_cases hi : i < 61
    · obtain ⟨q, hq⟩ := str_one h hA i hi
      exact ⟨q, fun _ => hq⟩
    · exact ⟨(0, 0), fun h9 => absurd h9 hi⟩
  obtain ⟨ad, had⟩ := Classical.axiomOfChoice h0
  refine ⟨fun i => (ad i).1, fun i => (ad i).2, ⟨fun i hi => (had i hi).2, fun i j hi hj e => ?_⟩, fun i hi => (had i hi).1⟩
  have hi2 : i < 61 := hi
  have hj2 : j < 61 := hj
  obtain ⟨-, -, -, ⟨cf1, k1, i1, f1, ce1, p1, p2, p3, p4, p5, p6⟩, cc1, r1, r2, r3, r4, r5, r6, r7⟩ := had i hi2
  obtain ⟨-, -, -, ⟨cf2, k2, i2, f2, ce2, t1, t2, t3, t4, t5, t6⟩, cc2, u1, u2, u3, u4, u5, u6, u7⟩ := had j hj2
  have e0 : (ad i).1 = (ad j).1 := e
  rw [p1] at t1
  obtain ⟨rfl, rfl, rfl, rfl⟩ : cf1 = cf2 ∧ k1 = k2 ∧ i1 = i2 ∧ f1 = f2 := by
    have := Option.some.inj t1
    simpa [Prod.ext_iff] using this
  rw [e0, t3] at p3
  have e1 : ce2 = ce1 := Option.some.inj p3
  rw [← e1, t5] at p5
  have e2 : (ad j).2 = (ad i).2 := by
    have := Option.some.inj p5
    injection this
  rw [← e2, u1] at r1
  have e3 : cc2 = cc1 := Option.some.inj r1
  subst e3
  have e4 : lenS.getD i 0 = lenS.getD j 0 := (nI_eq (fl_sm i hi2) (fl_sm j hj2)).mp (r5.symm.trans u5)
  refine fl_df i hi2 j hj2 e4 (fun k hk => ?_)
  have e5 := (r6 k hk).symm.trans (u6 k (by omega))
  have := Option.some.inj e5
  injection this
theorem arr_0 (h : (Cond.arrayClass .int).before args s = true) : ∃ c : ClassId, ArrOfT s c .int ∧ va_RA s c .int := by
  obtain ⟨c, k, comp, h1, h2, h3⟩ := Cond.arrayClass_spec h
  exact ⟨c, fun n z => ⟨fun k h => (by cases h), k, h2, comp, h3⟩, h1⟩
theorem arr_1 (h : (Cond.arrayClass .long).before args s = true) : ∃ c : ClassId, ArrOfT s c .long ∧ va_RA s c .long := by
  obtain ⟨c, k, comp, h1, h2, h3⟩ := Cond.arrayClass_spec h
  exact ⟨c, fun n z => ⟨fun k h => (by cases h), k, h2, comp, h3⟩, h1⟩
theorem arr_2 (h : (Cond.arrayClass .byte).before args s = true) : ∃ c : ClassId, ArrOfT s c .byte ∧ va_RA s c .byte := by
  obtain ⟨c, k, comp, h1, h2, h3⟩ := Cond.arrayClass_spec h
  exact ⟨c, fun n z => ⟨fun k h => (by cases h), k, h2, comp, h3⟩, h1⟩
theorem arr_3 (h : (Cond.arrayClass .boolean).before args s = true) : ∃ c : ClassId, ArrOfT s c .boolean ∧ va_RA s c .boolean := by
  obtain ⟨c, k, comp, h1, h2, h3⟩ := Cond.arrayClass_spec h
  exact ⟨c, fun n z => ⟨fun k h => (by cases h), k, h2, comp, h3⟩, h1⟩
theorem arr_A (t : FieldType) (h : (Cond.arrayOver (.array t)).before args s = true) : ∃ c : ClassId, ArrOfT s c (.array t) ∧ va_RA s c (.array t) := by
  obtain ⟨comp, c, k, h1, h2, h3, h4, h5⟩ := arrayOverA_spec h
  exact ⟨c, fun n z => ⟨fun k h => (by cases h), k, h3, comp, h4⟩, h5⟩
theorem arr_R (C : String) (h : (Cond.arrayOver (.object C)).before args s = true) : ∃ c : ClassId, ArrOfT s c (.object C) ∧ va_RA s c (.object C) := by
  obtain ⟨comp, c, k, h1, h2, h3, h4, h5⟩ := Cond.arrayOver_spec h
  exact ⟨c, fun n z => ⟨fun k h => (by cases h), k, h3, comp, h4⟩, k, comp, h3, h4, h1, h5⟩
theorem cls_all (h : ∀ w ∈ gtbl, w.before args s = true) (hi : ∀ w ∈ lw_tbl, w.before args s = true) : ∃ (dC : Nat → ClassId) (dI : Nat → Nat → Nat), ∀ (c : Nat) (q : vw_C), vwCl[c]? = some q → u_Kn s q.1 q.2.1 q.2.2 (dC c) (dI c) := by
  have h0 : ∀ c : Nat, ∃ d : ClassId × (Nat → Nat), ∀ q : vw_C, vwCl[c]? = some q → u_Kn s q.1 q.2.1 q.2.2 d.1 d.2 := by
    intro c
    match c with
    | 0 => exact (fun ⟨cC, iS, hk⟩ => ⟨(cC, iS), fun q hq => by cases hq; exact hk⟩) (u_known (C := RX0) (T := TX0) (N := 6) (n := 6) h il_0 (hi _ (by decide +kernel)))
    | 1 => exact (fun ⟨cC, iS, hk⟩ => ⟨(cC, iS), fun q hq => by cases hq; exact hk⟩) (u_known (C := RX1) (T := TX1) (N := 7) (n := 7) h il_1 (hi _ (by decide +kernel)))
    | 2 => exact (fun ⟨cC, iS, hk⟩ => ⟨(cC, iS), fun q hq => by cases hq; exact hk⟩) (u_known (C := RX2) (T := TX2) (N := 2) (n := 2) h il_2 (hi _ (by decide +kernel)))
    | 3 => exact (fun ⟨cC, iS, hk⟩ => ⟨(cC, iS), fun q hq => by cases hq; exact hk⟩) (u_known (C := RX3) (T := TX3) (N := 7) (n := 7) h il_3 (hi _ (by decide +kernel)))
    | 4 => exact (fun ⟨cC, iS, hk⟩ => ⟨(cC, iS), fun q hq => by cases hq; exact hk⟩) (u_known (C := RX4) (T := TX4) (N := 9) (n := 9) h il_4 (hi _ (by decide +kernel)))
    | 5 => exact (fun ⟨cC, iS, hk⟩ => ⟨(cC, iS), fun q hq => by cases hq; exact hk⟩) (u_known (C := RX5) (T := TX5) (N := 1) (n := 1) h il_5 (hi _ (by decide +kernel)))
    | 6 => exact (fun ⟨cC, iS, hk⟩ => ⟨(cC, iS), fun q hq => by cases hq; exact hk⟩) (u_known (C := RX6) (T := TX6) (N := 4) (n := 4) h il_6 (hi _ (by decide +kernel)))
    | 7 => exact (fun ⟨cC, iS, hk⟩ => ⟨(cC, iS), fun q hq => by cases hq; exact hk⟩) (u_known (C := RX7) (T := TX7) (N := 10) (n := 10) h il_7 (hi _ (by decide +kernel)))
    | 8 => exact (fun ⟨cC, iS, hk⟩ => ⟨(cC, iS), fun q hq => by cases hq; exact hk⟩) (u_known (C := RX8) (T := TX8) (N := 7) (n := 7) h il_8 (hi _ (by decide +kernel)))
    | 9 => exact (fun ⟨cC, iS, hk⟩ => ⟨(cC, iS), fun q hq => by cases hq; exact hk⟩) (u_known (C := RX9) (T := TX9) (N := 8) (n := 8) h il_9 (hi _ (by decide +kernel)))
    | 10 => exact (fun ⟨cC, iS, hk⟩ => ⟨(cC, iS), fun q hq => by cases hq; exact hk⟩) (u_known (C := RX10) (T := TX10) (N := 8) (n := 8) h il_10 (hi _ (by decide +kernel)))
    | 11 => exact (fun ⟨cC, iS, hk⟩ => ⟨(cC, iS), fun q hq => by cases hq; exact hk⟩) (u_known (C := RX11) (T := TX11) (N := 5) (n := 5) h il_11 (hi _ (by decide +kernel)))
    | 12 => exact (fun ⟨cC, iS, hk⟩ => ⟨(cC, iS), fun q hq => by cases hq; exact hk⟩) (u_known (C := RJ0) (T := TJ0) (N := 4) (n := 4) h il_12 (hi _ (by decide +kernel)))
    | 13 => exact (fun ⟨cC, iS, hk⟩ => ⟨(cC, iS), fun q hq => by cases hq; exact hk⟩) (u_known (C := RJ4) (T := TJ4) (N := 4) (n := 4) h il_13 (hi _ (by decide +kernel)))
    | c + 14 => exact ⟨(0, fun _ => 0), fun q hq => by simp at hq⟩
  obtain ⟨d, hd⟩ := Classical.axiomOfChoice h0
  exact ⟨fun c => (d c).1, fun c => (d c).2, fun c q hq => hd c q hq⟩
theorem eqv_r {t u : Term} {v : Value} (h : (Cond.eq t u).before args s = true) (ht : t.eval args s none [] s = some v) : u.eval args s none [] s = some v := by
  cases hu : u.eval args s none [] s with
  | none => simp [Cond.before, Cond.holds, Cond.value, ht, hu] at h
  | some w =>
    simp only [Cond.before, Cond.holds, Cond.value, ht, hu] at h
    cases w <;> cases v <;> simp_all
theorem tree_e (hf : ∀ w ∈ fl1, w.before args s = true) {a : Nat} (h : (tmS iE).eval args s none [] s = some (.ref a)) : (Term.string "StoryTapestryLaw$Tree" 68).eval args s none [] s = some (.ref a) := by
  rcases fl_tE with h1 | h1
  · exact eqv_r (hf _ h1) h
  · exact va_eqv (hf _ h1) h
/-- everything that stays, from the statement's words -/
theorem kn_start {b L : Nat} {xs : Nat → Int32} (hts : ∀ w ∈ lw_tbl, w.before args s = true) (hgv : (Jvm.Cond.and given_1 narrow_1).before args s = true) (hX : va_X b L xs s s.heap) (hbl : b < s.heap.size) : ∃ g : GG, Kn g s s.heap ∧ gb g = b ∧ gL g = L ∧ gB g = s.heap.size := by
  have hf : ∀ w ∈ fl1, w.before args s = true := flat_of_before _ hgv
  have hg : ∀ w ∈ gtbl, w.before args s = true := fun w hw => hts w (List.mem_filter.mp hw).1
  have hA : ∀ a : Nat, a < s.heap.size → ¬ (fun q : Nat => s.heap.size ≤ q) a := fun a ha h9 => absurd ha (Nat.not_lt.mpr h9)
  obtain ⟨dC, dI, hC⟩ := cls_all hg hts
  obtain ⟨c0, hc0⟩ := arr_0 (hts _ (by decide +kernel : Cond.arrayClass .int ∈ lw_tbl))
  obtain ⟨c1, hc1⟩ := arr_1 (hts _ (by decide +kernel : Cond.arrayClass .long ∈ lw_tbl))
  obtain ⟨c2, hc2⟩ := arr_2 (hts _ (by decide +kernel : Cond.arrayClass .byte ∈ lw_tbl))
  obtain ⟨c3, hc3⟩ := arr_3 (hts _ (by decide +kernel : Cond.arrayClass .boolean ∈ lw_tbl))
  have w4 := hts _ (by decide +kernel : Cond.arrayOver (.array .int) ∈ lw_tbl)
  have w5 := hts _ (by decide +kernel : Cond.arrayOver (.array .boolean) ∈ lw_tbl)
  have w6 := hts _ (by decide +kernel : Cond.arrayOver (.object "StoryTapestryLaw$Tree") ∈ lw_tbl)
  have w7 := hts _ (by decide +kernel : Cond.arrayOver (.object "java/lang/String") ∈ lw_tbl)
  obtain ⟨c4, hc4⟩ := arr_A .int w4
  obtain ⟨c5, hc5⟩ := arr_A .boolean w5
  obtain ⟨c6, hc6⟩ := arr_R "StoryTapestryLaw$Tree" w6
  obtain ⟨c7, hc7⟩ := arr_R "java/lang/String" w7
  obtain ⟨adK, adV, hS, hE⟩ := str_all hf hA
  obtain ⟨tT, hT1, hT2⟩ := va_Tof (args := args) (s := s) (tm := tmT) (ty := .byte) (N := 100) (f := fun j => .int (tensB j)) (by decide) (hf _ fl_Ta) (va_eqt (hf _ fl_Tl)) (fun j hj => va_eqt (hf _ (fl_Te j hj))) hA
  obtain ⟨tO, hO1, hO2⟩ := va_Tof (args := args) (s := s) (tm := tmO) (ty := .byte) (N := 100) (f := fun j => .int (onesB j)) (by decide) (hf _ fl_Oa) (va_eqt (hf _ fl_Ol)) (fun j hj => va_eqt (hf _ (fl_Oe j hj))) hA
  refine ⟨(s.heap.size, (dC, dI), (fun k => [c0, c1, c2, c3, c4, c5, c6, c7].getD k 0), adK, adV, (fun k => if k = 0 then tT else tO), b, L, xs), ⟨⟨hC, fun k q hk => ?_⟩, hS, fun i q hi => ?_, ⟨?_, ?_⟩, ⟨hT2, hO2, ?_, w7, w6, w4, w5⟩, ?_, ?_, ?_, ?_, hX, hbl, hA b hbl, fun w hw => va_Nw.of (nest_tabs hw) (hts w (List.mem_filter.mp hw).1), fun q hq => va_Nc.of (hf _ (fl_nc q hq))⟩, rfl, rfl, rfl⟩
  · match k, hk with
    | 0, hk => cases hk; exact hc0
    | 1, hk => cases hk; exact hc1
    | 2, hk => cases hk; exact hc2
    | 3, hk => cases hk; exact hc3
    | 4, hk => cases hk; exact hc4
    | 5, hk => cases hk; exact hc5
    | 6, hk => cases hk; exact hc6
    | 7, hk => cases hk; exact hc7
    | k + 8, hk => simp at hk
  · have hi2 : i < 61 := (List.getElem?_eq_some_iff.mp hi).1
    have e : stI i = q := by unfold stI; rw [List.getD_eq_getElem?_getD, hi]; rfl
    have h1 := hE i hi2
    unfold tmS at h1
    rw [e] at h1
    exact vk_R.of (hts _ (fl_st q (List.mem_of_getElem? hi))) h1
  · exact va_Zof (hts _ (by decide +kernel)) (hts _ (by decide +kernel)) hT1 hA
  · exact va_Zof (hts _ (by decide +kernel)) (hts _ (by decide +kernel)) hO1 hA
  · have hTE : (Term.string "StoryTapestryLaw$Tree" 68).eval args s none [] s = some (.ref (adK iE)) := tree_e hf (hE iE (by decide))
    exact vk_R.of (hts _ (by decide +kernel : Cond.stringRef "StoryTapestryLaw$Tree" 68 "" ∈ lw_tbl)) hTE
  · exact vx_Zqof (hts _ (by decide +kernel)) (hts _ (by decide +kernel)) (hf _ (by decide +kernel)) hA
  · exact vx_Zqof (hts _ (by decide +kernel)) (hts _ (by decide +kernel)) (hf _ (by decide +kernel)) hA
  · exact va_Zof (hts _ (by decide +kernel)) (hts _ (by decide +kernel)) (va_eqi (hf _ (by decide +kernel))) hA
  · exact va_Zqof (hts _ (by decide +kernel)) (hts _ (by decide +kernel)) (hf _ (by decide +kernel)) hA
end BG
