theorem pm110 (X : aX) (pc : Nat) : pg X 110 pc = lk pc (tb110 X) := rfl
theorem e110_0 (X : aX) (la : aLs) (st : List aV) (M : aM) : go X 110 0 la st M = kC X 110 (i_lda 0 1 la st M) := evC ((pm110 X 0).trans rfl) la st M
theorem e110_1 (X : aX) (la : aLs) (st : List aV) (M : aM) : go X 110 1 la st M = kC X 110 (i_ldi 1 2 la st M) := evC ((pm110 X 1).trans rfl) la st M
theorem e110_2 (X : aX) (la : aLs) (st : List aV) (M : aM) : go X 110 2 la st M = kK X 110 109 2 5 6 la st M := evK ((pm110 X 2).trans rfl) la st M
theorem e110_5 (X : aX) (la : aLs) (st : List aV) (M : aM) : go X 110 5 la st M = kC X 110 (i_sti 3 6 la st M) := evC ((pm110 X 5).trans rfl) la st M
theorem e110_6 (X : aX) (la : aLs) (st : List aV) (M : aM) : go X 110 6 la st M = kC X 110 (i_ldi 3 7 la st M) := evC ((pm110 X 6).trans rfl) la st M
theorem e110_7 (X : aX) (la : aLs) (st : List aV) (M : aM) : go X 110 7 la st M = kC X 110 (i_ci (-1) 8 la st M) := evC ((pm110 X 7).trans rfl) la st M
theorem e110_8 (X : aX) (la : aLs) (st : List aV) (M : aM) : go X 110 8 la st M = kC X 110 (i_cme 13 11 la st M) := evC ((pm110 X 8).trans rfl) la st M
theorem e110_11 (X : aX) (la : aLs) (st : List aV) (M : aM) : go X 110 11 la st M = kC X 110 (i_ldi 3 12 la st M) := evC ((pm110 X 11).trans rfl) la st M
theorem e110_12 (X : aX) (la : aLs) (st : List aV) (M : aM) : go X 110 12 la st M = i_irt st M := evR ((pm110 X 12).trans rfl) la st M
theorem e110_13 (X : aX) (la : aLs) (st : List aV) (M : aM) : go X 110 13 la st M = kC X 110 (i_lda 0 14 la st M) := evC ((pm110 X 13).trans rfl) la st M
theorem e110_14 (X : aX) (la : aLs) (st : List aV) (M : aM) : go X 110 14 la st M = kC X 110 (i_get 5 0 17 la st M) := evC ((pm110 X 14).trans rfl) la st M
theorem e110_17 (X : aX) (la : aLs) (st : List aV) (M : aM) : go X 110 17 la st M = kC X 110 (i_ldi 2 18 la st M) := evC ((pm110 X 17).trans rfl) la st M
theorem e110_18 (X : aX) (la : aLs) (st : List aV) (M : aM) : go X 110 18 la st M = kK X 110 27 2 21 4 la st M := evK ((pm110 X 18).trans rfl) la st M
theorem e110_21 (X : aX) (la : aLs) (st : List aV) (M : aM) : go X 110 21 la st M = kC X 110 (i_ife 28 24 la st M) := evC ((pm110 X 21).trans rfl) la st M
theorem e110_24 (X : aX) (la : aLs) (st : List aV) (M : aM) : go X 110 24 la st M = kC X 110 (i_ci (-1) 25 la st M) := evC ((pm110 X 24).trans rfl) la st M
theorem e110_25 (X : aX) (la : aLs) (st : List aV) (M : aM) : go X 110 25 la st M = kC X 110 (i_go 29 la st M) := evC ((pm110 X 25).trans rfl) la st M
theorem e110_28 (X : aX) (la : aLs) (st : List aV) (M : aM) : go X 110 28 la st M = kC X 110 (i_ci (nI 0) 29 la st M) := evC ((pm110 X 28).trans rfl) la st M
theorem e110_29 (X : aX) (la : aLs) (st : List aV) (M : aM) : go X 110 29 la st M = i_irt st M := evR ((pm110 X 29).trans rfl) la st M
theorem c110 (X : aX) (as : List aV) (M : aM) : cl X 110 as M = if cs as ≤ 4 then go X 110 0 (ent 4 as) [] M else none := rfl
theorem pm111 (X : aX) (pc : Nat) : pg X 111 pc = lk pc (tb111 X) := rfl
theorem e111_0 (X : aX) (la : aLs) (st : List aV) (M : aM) : go X 111 0 la st M = kC X 111 (i_ci (nI 60) 2 la st M) := evC ((pm111 X 0).trans rfl) la st M
theorem e111_2 (X : aX) (la : aLs) (st : List aV) (M : aM) : go X 111 2 la st M = kC X 111 (i_sti 1 3 la st M) := evC ((pm111 X 2).trans rfl) la st M
theorem e111_3 (X : aX) (la : aLs) (st : List aV) (M : aM) : go X 111 3 la st M = kC X 111 (i_ldi 1 4 la st M) := evC ((pm111 X 3).trans rfl) la st M
theorem e111_4 (X : aX) (la : aLs) (st : List aV) (M : aM) : go X 111 4 la st M = kC X 111 (i_ci (nI 1) 5 la st M) := evC ((pm111 X 4).trans rfl) la st M
theorem e111_5 (X : aX) (la : aLs) (st : List aV) (M : aM) : go X 111 5 la st M = kC X 111 (i_cmg 8 29 la st M) := evC ((pm111 X 5).trans rfl) la st M
theorem e111_8 (X : aX) (la : aLs) (st : List aV) (M : aM) : go X 111 8 la st M = kC X 111 (i_ldi 0 9 la st M) := evC ((pm111 X 8).trans rfl) la st M
theorem e111_9 (X : aX) (la : aLs) (st : List aV) (M : aM) : go X 111 9 la st M = kC X 111 (i_ldi 1 10 la st M) := evC ((pm111 X 9).trans rfl) la st M
theorem e111_10 (X : aX) (la : aLs) (st : List aV) (M : aM) : go X 111 10 la st M = kC X 111 (i_div (fun x y => x - x / y * y) 11 la st M) := evC ((pm111 X 10).trans rfl) la st M
theorem e111_11 (X : aX) (la : aLs) (st : List aV) (M : aM) : go X 111 11 la st M = kC X 111 (i_ife 14 23 la st M) := evC ((pm111 X 11).trans rfl) la st M
theorem e111_14 (X : aX) (la : aLs) (st : List aV) (M : aM) : go X 111 14 la st M = kC X 111 (i_ci (nI 60) 16 la st M) := evC ((pm111 X 14).trans rfl) la st M
theorem e111_16 (X : aX) (la : aLs) (st : List aV) (M : aM) : go X 111 16 la st M = kC X 111 (i_ldi 1 17 la st M) := evC ((pm111 X 16).trans rfl) la st M
theorem e111_17 (X : aX) (la : aLs) (st : List aV) (M : aM) : go X 111 17 la st M = kC X 111 (i_div (fun x y => x - x / y * y) 18 la st M) := evC ((pm111 X 17).trans rfl) la st M
theorem e111_18 (X : aX) (la : aLs) (st : List aV) (M : aM) : go X 111 18 la st M = kC X 111 (i_ife 21 23 la st M) := evC ((pm111 X 18).trans rfl) la st M
theorem e111_21 (X : aX) (la : aLs) (st : List aV) (M : aM) : go X 111 21 la st M = kC X 111 (i_ldi 1 22 la st M) := evC ((pm111 X 21).trans rfl) la st M
theorem e111_22 (X : aX) (la : aLs) (st : List aV) (M : aM) : go X 111 22 la st M = i_irt st M := evR ((pm111 X 22).trans rfl) la st M
theorem e111_23 (X : aX) (la : aLs) (st : List aV) (M : aM) : go X 111 23 la st M = kC X 111 (i_inc 1 (-1) 26 la st M) := evC ((pm111 X 23).trans rfl) la st M
theorem e111_26 (X : aX) (la : aLs) (st : List aV) (M : aM) : go X 111 26 la st M = kC X 111 (i_go 3 la st M) := evC ((pm111 X 26).trans rfl) la st M
theorem e111_29 (X : aX) (la : aLs) (st : List aV) (M : aM) : go X 111 29 la st M = kC X 111 (i_ci (nI 1) 30 la st M) := evC ((pm111 X 29).trans rfl) la st M
theorem e111_30 (X : aX) (la : aLs) (st : List aV) (M : aM) : go X 111 30 la st M = i_irt st M := evR ((pm111 X 30).trans rfl) la st M
theorem c111 (X : aX) (as : List aV) (M : aM) : cl X 111 as M = if cs as ≤ 2 then go X 111 0 (ent 2 as) [] M else none := rfl
theorem pm112 (X : aX) (pc : Nat) : pg X 112 pc = lk pc (tb112 X) := rfl
theorem e112_0 (X : aX) (la : aLs) (st : List aV) (M : aM) : go X 112 0 la st M = kC X 112 (i_lda 0 1 la st M) := evC ((pm112 X 0).trans rfl) la st M
theorem e112_1 (X : aX) (la : aLs) (st : List aV) (M : aM) : go X 112 1 la st M = kC X 112 (i_oin 4 la st M) := evC ((pm112 X 1).trans rfl) la st M
theorem e112_4 (X : aX) (la : aLs) (st : List aV) (M : aM) : go X 112 4 la st M = kC X 112 (i_lda 0 5 la st M) := evC ((pm112 X 4).trans rfl) la st M
theorem e112_5 (X : aX) (la : aLs) (st : List aV) (M : aM) : go X 112 5 la st M = kC X 112 (i_ci (nI 94) 7 la st M) := evC ((pm112 X 5).trans rfl) la st M
theorem e112_7 (X : aX) (la : aLs) (st : List aV) (M : aM) : go X 112 7 la st M = kC X 112 (i_nwa 9 la st M) := evC ((pm112 X 7).trans rfl) la st M
theorem e112_9 (X : aX) (la : aLs) (st : List aV) (M : aM) : go X 112 9 la st M = kC X 112 (i_put 6 0 2 12 la st M) := evC ((pm112 X 9).trans rfl) la st M
theorem e112_12 (X : aX) (la : aLs) (st : List aV) (M : aM) : go X 112 12 la st M = kC X 112 (i_lda 0 13 la st M) := evC ((pm112 X 12).trans rfl) la st M
theorem e112_13 (X : aX) (la : aLs) (st : List aV) (M : aM) : go X 112 13 la st M = kC X 112 (i_ci (nI 94) 15 la st M) := evC ((pm112 X 13).trans rfl) la st M
theorem e112_15 (X : aX) (la : aLs) (st : List aV) (M : aM) : go X 112 15 la st M = kC X 112 (i_nwa 17 la st M) := evC ((pm112 X 15).trans rfl) la st M
theorem e112_17 (X : aX) (la : aLs) (st : List aV) (M : aM) : go X 112 17 la st M = kC X 112 (i_put 6 1 2 20 la st M) := evC ((pm112 X 17).trans rfl) la st M
theorem e112_20 (X : aX) (la : aLs) (st : List aV) (M : aM) : go X 112 20 la st M = kC X 112 (i_lda 0 21 la st M) := evC ((pm112 X 20).trans rfl) la st M
theorem e112_21 (X : aX) (la : aLs) (st : List aV) (M : aM) : go X 112 21 la st M = kC X 112 (i_ci (nI 94) 23 la st M) := evC ((pm112 X 21).trans rfl) la st M
theorem e112_23 (X : aX) (la : aLs) (st : List aV) (M : aM) : go X 112 23 la st M = kC X 112 (i_nwa 25 la st M) := evC ((pm112 X 23).trans rfl) la st M
theorem e112_25 (X : aX) (la : aLs) (st : List aV) (M : aM) : go X 112 25 la st M = kC X 112 (i_put 6 2 2 28 la st M) := evC ((pm112 X 25).trans rfl) la st M
theorem e112_28 (X : aX) (la : aLs) (st : List aV) (M : aM) : go X 112 28 la st M = kC X 112 (i_lda 0 29 la st M) := evC ((pm112 X 28).trans rfl) la st M
theorem e112_29 (X : aX) (la : aLs) (st : List aV) (M : aM) : go X 112 29 la st M = kC X 112 (i_ci (nI 8) 31 la st M) := evC ((pm112 X 29).trans rfl) la st M
theorem e112_31 (X : aX) (la : aLs) (st : List aV) (M : aM) : go X 112 31 la st M = kC X 112 (i_nwa 33 la st M) := evC ((pm112 X 31).trans rfl) la st M
theorem e112_33 (X : aX) (la : aLs) (st : List aV) (M : aM) : go X 112 33 la st M = kC X 112 (i_put 6 4 2 36 la st M) := evC ((pm112 X 33).trans rfl) la st M
theorem e112_36 (X : aX) (la : aLs) (st : List aV) (M : aM) : go X 112 36 la st M = kC X 112 (i_lda 0 37 la st M) := evC ((pm112 X 36).trans rfl) la st M
theorem e112_37 (X : aX) (la : aLs) (st : List aV) (M : aM) : go X 112 37 la st M = kC X 112 (i_ci (nI 8) 39 la st M) := evC ((pm112 X 37).trans rfl) la st M
theorem e112_39 (X : aX) (la : aLs) (st : List aV) (M : aM) : go X 112 39 la st M = kC X 112 (i_nwa 41 la st M) := evC ((pm112 X 39).trans rfl) la st M
theorem e112_41 (X : aX) (la : aLs) (st : List aV) (M : aM) : go X 112 41 la st M = kC X 112 (i_put 6 5 2 44 la st M) := evC ((pm112 X 41).trans rfl) la st M
theorem e112_44 (X : aX) (la : aLs) (st : List aV) (M : aM) : go X 112 44 la st M = kC X 112 (i_lda 0 45 la st M) := evC ((pm112 X 44).trans rfl) la st M
theorem e112_45 (X : aX) (la : aLs) (st : List aV) (M : aM) : go X 112 45 la st M = kC X 112 (i_ci (nI 120) 47 la st M) := evC ((pm112 X 45).trans rfl) la st M
theorem e112_47 (X : aX) (la : aLs) (st : List aV) (M : aM) : go X 112 47 la st M = kC X 112 (i_nwa 49 la st M) := evC ((pm112 X 47).trans rfl) la st M
theorem e112_49 (X : aX) (la : aLs) (st : List aV) (M : aM) : go X 112 49 la st M = kC X 112 (i_put 6 7 2 52 la st M) := evC ((pm112 X 49).trans rfl) la st M
theorem e112_52 (X : aX) (la : aLs) (st : List aV) (M : aM) : go X 112 52 la st M = kC X 112 (i_lda 0 53 la st M) := evC ((pm112 X 52).trans rfl) la st M
theorem e112_53 (X : aX) (la : aLs) (st : List aV) (M : aM) : go X 112 53 la st M = kC X 112 (i_ci (nI 7) 55 la st M) := evC ((pm112 X 53).trans rfl) la st M
theorem e112_55 (X : aX) (la : aLs) (st : List aV) (M : aM) : go X 112 55 la st M = kC X 112 (i_nwq 4 58 la st M) := evC ((pm112 X 55).trans rfl) la st M
theorem e112_58 (X : aX) (la : aLs) (st : List aV) (M : aM) : go X 112 58 la st M = kC X 112 (i_dup 59 la st M) := evC ((pm112 X 58).trans rfl) la st M
theorem e112_59 (X : aX) (la : aLs) (st : List aV) (M : aM) : go X 112 59 la st M = kC X 112 (i_ci (nI 0) 60 la st M) := evC ((pm112 X 59).trans rfl) la st M
theorem e112_60 (X : aX) (la : aLs) (st : List aV) (M : aM) : go X 112 60 la st M = kC X 112 (i_ca (aR (80, 0, 0)) 62 la st M) := evC ((pm112 X 60).trans rfl) la st M
theorem e112_62 (X : aX) (la : aLs) (st : List aV) (M : aM) : go X 112 62 la st M = kC X 112 (i_aas 63 la st M) := evC ((pm112 X 62).trans rfl) la st M
theorem e112_63 (X : aX) (la : aLs) (st : List aV) (M : aM) : go X 112 63 la st M = kC X 112 (i_dup 64 la st M) := evC ((pm112 X 63).trans rfl) la st M
theorem e112_64 (X : aX) (la : aLs) (st : List aV) (M : aM) : go X 112 64 la st M = kC X 112 (i_ci (nI 1) 65 la st M) := evC ((pm112 X 64).trans rfl) la st M
theorem e112_65 (X : aX) (la : aLs) (st : List aV) (M : aM) : go X 112 65 la st M = kC X 112 (i_ca (aR (80, 1, 0)) 67 la st M) := evC ((pm112 X 65).trans rfl) la st M
theorem e112_67 (X : aX) (la : aLs) (st : List aV) (M : aM) : go X 112 67 la st M = kC X 112 (i_aas 68 la st M) := evC ((pm112 X 67).trans rfl) la st M
theorem e112_68 (X : aX) (la : aLs) (st : List aV) (M : aM) : go X 112 68 la st M = kC X 112 (i_dup 69 la st M) := evC ((pm112 X 68).trans rfl) la st M
theorem e112_69 (X : aX) (la : aLs) (st : List aV) (M : aM) : go X 112 69 la st M = kC X 112 (i_ci (nI 2) 70 la st M) := evC ((pm112 X 69).trans rfl) la st M
theorem e112_70 (X : aX) (la : aLs) (st : List aV) (M : aM) : go X 112 70 la st M = kC X 112 (i_ca (aR (80, 2, 0)) 72 la st M) := evC ((pm112 X 70).trans rfl) la st M
theorem e112_72 (X : aX) (la : aLs) (st : List aV) (M : aM) : go X 112 72 la st M = kC X 112 (i_aas 73 la st M) := evC ((pm112 X 72).trans rfl) la st M
theorem e112_73 (X : aX) (la : aLs) (st : List aV) (M : aM) : go X 112 73 la st M = kC X 112 (i_dup 74 la st M) := evC ((pm112 X 73).trans rfl) la st M
theorem e112_74 (X : aX) (la : aLs) (st : List aV) (M : aM) : go X 112 74 la st M = kC X 112 (i_ci (nI 3) 75 la st M) := evC ((pm112 X 74).trans rfl) la st M
theorem e112_75 (X : aX) (la : aLs) (st : List aV) (M : aM) : go X 112 75 la st M = kC X 112 (i_ca (aR (80, 3, 0)) 77 la st M) := evC ((pm112 X 75).trans rfl) la st M
theorem e112_77 (X : aX) (la : aLs) (st : List aV) (M : aM) : go X 112 77 la st M = kC X 112 (i_aas 78 la st M) := evC ((pm112 X 77).trans rfl) la st M
theorem e112_78 (X : aX) (la : aLs) (st : List aV) (M : aM) : go X 112 78 la st M = kC X 112 (i_dup 79 la st M) := evC ((pm112 X 78).trans rfl) la st M
theorem e112_79 (X : aX) (la : aLs) (st : List aV) (M : aM) : go X 112 79 la st M = kC X 112 (i_ci (nI 4) 80 la st M) := evC ((pm112 X 79).trans rfl) la st M
theorem e112_80 (X : aX) (la : aLs) (st : List aV) (M : aM) : go X 112 80 la st M = kC X 112 (i_ca (aR (80, 4, 0)) 82 la st M) := evC ((pm112 X 80).trans rfl) la st M
theorem e112_82 (X : aX) (la : aLs) (st : List aV) (M : aM) : go X 112 82 la st M = kC X 112 (i_aas 83 la st M) := evC ((pm112 X 82).trans rfl) la st M
theorem e112_83 (X : aX) (la : aLs) (st : List aV) (M : aM) : go X 112 83 la st M = kC X 112 (i_dup 84 la st M) := evC ((pm112 X 83).trans rfl) la st M
theorem e112_84 (X : aX) (la : aLs) (st : List aV) (M : aM) : go X 112 84 la st M = kC X 112 (i_ci (nI 5) 85 la st M) := evC ((pm112 X 84).trans rfl) la st M
theorem e112_85 (X : aX) (la : aLs) (st : List aV) (M : aM) : go X 112 85 la st M = kC X 112 (i_ca (aR (80, 5, 0)) 87 la st M) := evC ((pm112 X 85).trans rfl) la st M
theorem e112_87 (X : aX) (la : aLs) (st : List aV) (M : aM) : go X 112 87 la st M = kC X 112 (i_aas 88 la st M) := evC ((pm112 X 87).trans rfl) la st M
theorem e112_88 (X : aX) (la : aLs) (st : List aV) (M : aM) : go X 112 88 la st M = kC X 112 (i_dup 89 la st M) := evC ((pm112 X 88).trans rfl) la st M
theorem e112_89 (X : aX) (la : aLs) (st : List aV) (M : aM) : go X 112 89 la st M = kC X 112 (i_ci (nI 6) 91 la st M) := evC ((pm112 X 89).trans rfl) la st M
theorem e112_91 (X : aX) (la : aLs) (st : List aV) (M : aM) : go X 112 91 la st M = kC X 112 (i_ca (aR (80, 6, 0)) 93 la st M) := evC ((pm112 X 91).trans rfl) la st M
theorem e112_93 (X : aX) (la : aLs) (st : List aV) (M : aM) : go X 112 93 la st M = kC X 112 (i_aas 94 la st M) := evC ((pm112 X 93).trans rfl) la st M
theorem e112_94 (X : aX) (la : aLs) (st : List aV) (M : aM) : go X 112 94 la st M = kC X 112 (i_put 6 14 2 97 la st M) := evC ((pm112 X 94).trans rfl) la st M
theorem e112_97 (X : aX) (la : aLs) (st : List aV) (M : aM) : go X 112 97 la st M = kC X 112 (i_lda 0 98 la st M) := evC ((pm112 X 97).trans rfl) la st M
theorem e112_98 (X : aX) (la : aLs) (st : List aV) (M : aM) : go X 112 98 la st M = kC X 112 (i_ci (nI 720) 101 la st M) := evC ((pm112 X 98).trans rfl) la st M
theorem e112_101 (X : aX) (la : aLs) (st : List aV) (M : aM) : go X 112 101 la st M = kC X 112 (i_nwa 103 la st M) := evC ((pm112 X 101).trans rfl) la st M
theorem e112_103 (X : aX) (la : aLs) (st : List aV) (M : aM) : go X 112 103 la st M = kC X 112 (i_put 6 15 2 106 la st M) := evC ((pm112 X 103).trans rfl) la st M
theorem e112_106 (X : aX) (la : aLs) (st : List aV) (M : aM) : go X 112 106 la st M = kC X 112 (i_lda 0 107 la st M) := evC ((pm112 X 106).trans rfl) la st M
theorem e112_107 (X : aX) (la : aLs) (st : List aV) (M : aM) : go X 112 107 la st M = kC X 112 (i_ci (nI 4) 108 la st M) := evC ((pm112 X 107).trans rfl) la st M
theorem e112_108 (X : aX) (la : aLs) (st : List aV) (M : aM) : go X 112 108 la st M = kC X 112 (i_nwa 110 la st M) := evC ((pm112 X 108).trans rfl) la st M
theorem e112_110 (X : aX) (la : aLs) (st : List aV) (M : aM) : go X 112 110 la st M = kC X 112 (i_put 6 18 2 113 la st M) := evC ((pm112 X 110).trans rfl) la st M
theorem e112_113 (X : aX) (la : aLs) (st : List aV) (M : aM) : go X 112 113 la st M = kC X 112 (i_lda 0 114 la st M) := evC ((pm112 X 113).trans rfl) la st M
theorem e112_114 (X : aX) (la : aLs) (st : List aV) (M : aM) : go X 112 114 la st M = kC X 112 (i_ci (nI 4) 115 la st M) := evC ((pm112 X 114).trans rfl) la st M
theorem e112_115 (X : aX) (la : aLs) (st : List aV) (M : aM) : go X 112 115 la st M = kC X 112 (i_nwa 117 la st M) := evC ((pm112 X 115).trans rfl) la st M
theorem e112_117 (X : aX) (la : aLs) (st : List aV) (M : aM) : go X 112 117 la st M = kC X 112 (i_put 6 19 2 120 la st M) := evC ((pm112 X 117).trans rfl) la st M
theorem e112_120 (X : aX) (la : aLs) (st : List aV) (M : aM) : go X 112 120 la st M = kC X 112 (i_lda 0 121 la st M) := evC ((pm112 X 120).trans rfl) la st M
theorem e112_121 (X : aX) (la : aLs) (st : List aV) (M : aM) : go X 112 121 la st M = kC X 112 (i_ci (nI 160) 124 la st M) := evC ((pm112 X 121).trans rfl) la st M
theorem e112_124 (X : aX) (la : aLs) (st : List aV) (M : aM) : go X 112 124 la st M = kC X 112 (i_nwa 126 la st M) := evC ((pm112 X 124).trans rfl) la st M
theorem e112_126 (X : aX) (la : aLs) (st : List aV) (M : aM) : go X 112 126 la st M = kC X 112 (i_put 6 20 2 129 la st M) := evC ((pm112 X 126).trans rfl) la st M
theorem e112_129 (X : aX) (la : aLs) (st : List aV) (M : aM) : go X 112 129 la st M = kC X 112 (i_lda 0 130 la st M) := evC ((pm112 X 129).trans rfl) la st M
theorem e112_130 (X : aX) (la : aLs) (st : List aV) (M : aM) : go X 112 130 la st M = kC X 112 (i_ci (nI 40) 132 la st M) := evC ((pm112 X 130).trans rfl) la st M
theorem e112_132 (X : aX) (la : aLs) (st : List aV) (M : aM) : go X 112 132 la st M = kC X 112 (i_nwa 134 la st M) := evC ((pm112 X 132).trans rfl) la st M
theorem e112_134 (X : aX) (la : aLs) (st : List aV) (M : aM) : go X 112 134 la st M = kC X 112 (i_put 6 21 2 137 la st M) := evC ((pm112 X 134).trans rfl) la st M
theorem e112_137 (X : aX) (la : aLs) (st : List aV) (M : aM) : go X 112 137 la st M = kC X 112 (i_lda 0 138 la st M) := evC ((pm112 X 137).trans rfl) la st M
theorem e112_138 (X : aX) (la : aLs) (st : List aV) (M : aM) : go X 112 138 la st M = kC X 112 (i_get 6 0 141 la st M) := evC ((pm112 X 138).trans rfl) la st M
theorem e112_141 (X : aX) (la : aLs) (st : List aV) (M : aM) : go X 112 141 la st M = kC X 112 (i_ci (nI 2) 142 la st M) := evC ((pm112 X 141).trans rfl) la st M
theorem e112_142 (X : aX) (la : aLs) (st : List aV) (M : aM) : go X 112 142 la st M = kC X 112 (i_ci (nI 1) 143 la st M) := evC ((pm112 X 142).trans rfl) la st M
theorem e112_143 (X : aX) (la : aLs) (st : List aV) (M : aM) : go X 112 143 la st M = kC X 112 (i_ias 144 la st M) := evC ((pm112 X 143).trans rfl) la st M
theorem e112_144 (X : aX) (la : aLs) (st : List aV) (M : aM) : go X 112 144 la st M = kC X 112 (i_ci (nI 0) 145 la st M) := evC ((pm112 X 144).trans rfl) la st M
theorem e112_145 (X : aX) (la : aLs) (st : List aV) (M : aM) : go X 112 145 la st M = kC X 112 (i_sti 1 146 la st M) := evC ((pm112 X 145).trans rfl) la st M
theorem e112_146 (X : aX) (la : aLs) (st : List aV) (M : aM) : go X 112 146 la st M = kC X 112 (i_ldi 1 147 la st M) := evC ((pm112 X 146).trans rfl) la st M
theorem e112_147 (X : aX) (la : aLs) (st : List aV) (M : aM) : go X 112 147 la st M = kC X 112 (i_ci (nI 10) 149 la st M) := evC ((pm112 X 147).trans rfl) la st M
theorem e112_149 (X : aX) (la : aLs) (st : List aV) (M : aM) : go X 112 149 la st M = kC X 112 (i_cml 152 167 la st M) := evC ((pm112 X 149).trans rfl) la st M
theorem e112_152 (X : aX) (la : aLs) (st : List aV) (M : aM) : go X 112 152 la st M = kC X 112 (i_lda 0 153 la st M) := evC ((pm112 X 152).trans rfl) la st M
theorem e112_153 (X : aX) (la : aLs) (st : List aV) (M : aM) : go X 112 153 la st M = kC X 112 (i_get 6 0 156 la st M) := evC ((pm112 X 153).trans rfl) la st M
theorem e112_156 (X : aX) (la : aLs) (st : List aV) (M : aM) : go X 112 156 la st M = kC X 112 (i_ci (nI 4) 157 la st M) := evC ((pm112 X 156).trans rfl) la st M
theorem e112_157 (X : aX) (la : aLs) (st : List aV) (M : aM) : go X 112 157 la st M = kC X 112 (i_ldi 1 158 la st M) := evC ((pm112 X 157).trans rfl) la st M
theorem e112_158 (X : aX) (la : aLs) (st : List aV) (M : aM) : go X 112 158 la st M = kC X 112 (i_bin (fun x y => x + y) 159 la st M) := evC ((pm112 X 158).trans rfl) la st M
theorem e112_159 (X : aX) (la : aLs) (st : List aV) (M : aM) : go X 112 159 la st M = kC X 112 (i_ci (-1) 160 la st M) := evC ((pm112 X 159).trans rfl) la st M
theorem e112_160 (X : aX) (la : aLs) (st : List aV) (M : aM) : go X 112 160 la st M = kC X 112 (i_ias 161 la st M) := evC ((pm112 X 160).trans rfl) la st M
theorem e112_161 (X : aX) (la : aLs) (st : List aV) (M : aM) : go X 112 161 la st M = kC X 112 (i_inc 1 (nI 1) 164 la st M) := evC ((pm112 X 161).trans rfl) la st M
theorem e112_164 (X : aX) (la : aLs) (st : List aV) (M : aM) : go X 112 164 la st M = kC X 112 (i_go 146 la st M) := evC ((pm112 X 164).trans rfl) la st M
theorem e112_167 (X : aX) (la : aLs) (st : List aV) (M : aM) : go X 112 167 la st M = i_vrt st M := evR ((pm112 X 167).trans rfl) la st M
theorem c112 (X : aX) (as : List aV) (M : aM) : cl X 112 as M = if cs as ≤ 2 then go X 112 0 (ent 2 as) [] M else none := rfl
theorem pm113 (X : aX) (pc : Nat) : pg X 113 pc = lk pc (tb113 X) := rfl
theorem e113_0 (X : aX) (la : aLs) (st : List aV) (M : aM) : go X 113 0 la st M = kC X 113 (i_lda 0 1 la st M) := evC ((pm113 X 0).trans rfl) la st M
theorem e113_1 (X : aX) (la : aLs) (st : List aV) (M : aM) : go X 113 1 la st M = kC X 113 (i_get 6 4 4 la st M) := evC ((pm113 X 1).trans rfl) la st M
theorem e113_4 (X : aX) (la : aLs) (st : List aV) (M : aM) : go X 113 4 la st M = kC X 113 (i_ci (-1000001) 6 la st M) := evC ((pm113 X 4).trans rfl) la st M
theorem e113_6 (X : aX) (la : aLs) (st : List aV) (M : aM) : go X 113 6 la st M = kC X 113 (i_ldi 1 7 la st M) := evC ((pm113 X 6).trans rfl) la st M
theorem e113_7 (X : aX) (la : aLs) (st : List aV) (M : aM) : go X 113 7 la st M = kC X 113 (i_bin (fun x y => x - y) 8 la st M) := evC ((pm113 X 7).trans rfl) la st M
theorem e113_8 (X : aX) (la : aLs) (st : List aV) (M : aM) : go X 113 8 la st M = kC X 113 (i_ci (nI 1) 9 la st M) := evC ((pm113 X 8).trans rfl) la st M
theorem e113_9 (X : aX) (la : aLs) (st : List aV) (M : aM) : go X 113 9 la st M = kC X 113 (i_bin (fun x y => x + y) 10 la st M) := evC ((pm113 X 9).trans rfl) la st M
theorem e113_10 (X : aX) (la : aLs) (st : List aV) (M : aM) : go X 113 10 la st M = kC X 113 (i_dp2 11 la st M) := evC ((pm113 X 10).trans rfl) la st M
theorem e113_11 (X : aX) (la : aLs) (st : List aV) (M : aM) : go X 113 11 la st M = kC X 113 (i_ial X 12 la st M) := evC ((pm113 X 11).trans rfl) la st M
theorem e113_12 (X : aX) (la : aLs) (st : List aV) (M : aM) : go X 113 12 la st M = kC X 113 (i_ci (nI 1) 13 la st M) := evC ((pm113 X 12).trans rfl) la st M
theorem e113_13 (X : aX) (la : aLs) (st : List aV) (M : aM) : go X 113 13 la st M = kC X 113 (i_bin (fun x y => x + y) 14 la st M) := evC ((pm113 X 13).trans rfl) la st M
theorem e113_14 (X : aX) (la : aLs) (st : List aV) (M : aM) : go X 113 14 la st M = kC X 113 (i_ias 15 la st M) := evC ((pm113 X 14).trans rfl) la st M
theorem e113_15 (X : aX) (la : aLs) (st : List aV) (M : aM) : go X 113 15 la st M = kC X 113 (i_lda 0 16 la st M) := evC ((pm113 X 15).trans rfl) la st M
theorem e113_16 (X : aX) (la : aLs) (st : List aV) (M : aM) : go X 113 16 la st M = kC X 113 (i_get 6 4 19 la st M) := evC ((pm113 X 16).trans rfl) la st M
theorem e113_19 (X : aX) (la : aLs) (st : List aV) (M : aM) : go X 113 19 la st M = kC X 113 (i_ci (nI 0) 20 la st M) := evC ((pm113 X 19).trans rfl) la st M
theorem e113_20 (X : aX) (la : aLs) (st : List aV) (M : aM) : go X 113 20 la st M = kC X 113 (i_dp2 21 la st M) := evC ((pm113 X 20).trans rfl) la st M
theorem e113_21 (X : aX) (la : aLs) (st : List aV) (M : aM) : go X 113 21 la st M = kC X 113 (i_ial X 22 la st M) := evC ((pm113 X 21).trans rfl) la st M
theorem e113_22 (X : aX) (la : aLs) (st : List aV) (M : aM) : go X 113 22 la st M = kC X 113 (i_ci (nI 1) 23 la st M) := evC ((pm113 X 22).trans rfl) la st M
theorem e113_23 (X : aX) (la : aLs) (st : List aV) (M : aM) : go X 113 23 la st M = kC X 113 (i_bin (fun x y => x + y) 24 la st M) := evC ((pm113 X 23).trans rfl) la st M
theorem e113_24 (X : aX) (la : aLs) (st : List aV) (M : aM) : go X 113 24 la st M = kC X 113 (i_ias 25 la st M) := evC ((pm113 X 24).trans rfl) la st M
theorem e113_25 (X : aX) (la : aLs) (st : List aV) (M : aM) : go X 113 25 la st M = kC X 113 (i_ldi 1 26 la st M) := evC ((pm113 X 25).trans rfl) la st M
theorem e113_26 (X : aX) (la : aLs) (st : List aV) (M : aM) : go X 113 26 la st M = i_irt st M := evR ((pm113 X 26).trans rfl) la st M
theorem c113 (X : aX) (as : List aV) (M : aM) : cl X 113 as M = if cs as ≤ 2 then go X 113 0 (ent 2 as) [] M else none := rfl
theorem pm114 (X : aX) (pc : Nat) : pg X 114 pc = lk pc (tb114 X) := rfl
theorem e114_0 (X : aX) (la : aLs) (st : List aV) (M : aM) : go X 114 0 la st M = kC X 114 (i_ldi 0 1 la st M) := evC ((pm114 X 0).trans rfl) la st M
theorem e114_1 (X : aX) (la : aLs) (st : List aV) (M : aM) : go X 114 1 la st M = kC X 114 (i_ldi 1 2 la st M) := evC ((pm114 X 1).trans rfl) la st M
theorem e114_2 (X : aX) (la : aLs) (st : List aV) (M : aM) : go X 114 2 la st M = kC X 114 (i_cml 14 5 la st M) := evC ((pm114 X 2).trans rfl) la st M
theorem e114_5 (X : aX) (la : aLs) (st : List aV) (M : aM) : go X 114 5 la st M = kC X 114 (i_ldi 0 6 la st M) := evC ((pm114 X 5).trans rfl) la st M
theorem e114_6 (X : aX) (la : aLs) (st : List aV) (M : aM) : go X 114 6 la st M = kC X 114 (i_ldi 2 7 la st M) := evC ((pm114 X 6).trans rfl) la st M
theorem e114_7 (X : aX) (la : aLs) (st : List aV) (M : aM) : go X 114 7 la st M = kC X 114 (i_cmg 14 10 la st M) := evC ((pm114 X 7).trans rfl) la st M
theorem e114_10 (X : aX) (la : aLs) (st : List aV) (M : aM) : go X 114 10 la st M = kC X 114 (i_ci (nI 1) 11 la st M) := evC ((pm114 X 10).trans rfl) la st M
theorem e114_11 (X : aX) (la : aLs) (st : List aV) (M : aM) : go X 114 11 la st M = kC X 114 (i_go 15 la st M) := evC ((pm114 X 11).trans rfl) la st M
theorem e114_14 (X : aX) (la : aLs) (st : List aV) (M : aM) : go X 114 14 la st M = kC X 114 (i_ci (nI 0) 15 la st M) := evC ((pm114 X 14).trans rfl) la st M
theorem e114_15 (X : aX) (la : aLs) (st : List aV) (M : aM) : go X 114 15 la st M = i_zrt st M := evR ((pm114 X 15).trans rfl) la st M
theorem c114 (X : aX) (as : List aV) (M : aM) : cl X 114 as M = if cs as ≤ 3 then go X 114 0 (ent 3 as) [] M else none := rfl
theorem pm115 (X : aX) (pc : Nat) : pg X 115 pc = lk pc (tb115 X) := rfl
theorem e115_0 (X : aX) (la : aLs) (st : List aV) (M : aM) : go X 115 0 la st M = kC X 115 (i_lda 0 1 la st M) := evC ((pm115 X 0).trans rfl) la st M
theorem e115_1 (X : aX) (la : aLs) (st : List aV) (M : aM) : go X 115 1 la st M = kC X 115 (i_get 6 0 4 la st M) := evC ((pm115 X 1).trans rfl) la st M
theorem e115_4 (X : aX) (la : aLs) (st : List aV) (M : aM) : go X 115 4 la st M = kC X 115 (i_ldi 1 5 la st M) := evC ((pm115 X 4).trans rfl) la st M
theorem e115_5 (X : aX) (la : aLs) (st : List aV) (M : aM) : go X 115 5 la st M = kC X 115 (i_ial X 6 la st M) := evC ((pm115 X 5).trans rfl) la st M
theorem e115_6 (X : aX) (la : aLs) (st : List aV) (M : aM) : go X 115 6 la st M = kC X 115 (i_sti 3 7 la st M) := evC ((pm115 X 6).trans rfl) la st M
theorem e115_7 (X : aX) (la : aLs) (st : List aV) (M : aM) : go X 115 7 la st M = kC X 115 (i_lda 0 8 la st M) := evC ((pm115 X 7).trans rfl) la st M
theorem e115_8 (X : aX) (la : aLs) (st : List aV) (M : aM) : go X 115 8 la st M = kC X 115 (i_get 6 0 11 la st M) := evC ((pm115 X 8).trans rfl) la st M
theorem e115_11 (X : aX) (la : aLs) (st : List aV) (M : aM) : go X 115 11 la st M = kC X 115 (i_ldi 1 12 la st M) := evC ((pm115 X 11).trans rfl) la st M
theorem e115_12 (X : aX) (la : aLs) (st : List aV) (M : aM) : go X 115 12 la st M = kC X 115 (i_ldi 2 13 la st M) := evC ((pm115 X 12).trans rfl) la st M
theorem e115_13 (X : aX) (la : aLs) (st : List aV) (M : aM) : go X 115 13 la st M = kC X 115 (i_ias 14 la st M) := evC ((pm115 X 13).trans rfl) la st M
theorem e115_14 (X : aX) (la : aLs) (st : List aV) (M : aM) : go X 115 14 la st M = kC X 115 (i_ldi 3 15 la st M) := evC ((pm115 X 14).trans rfl) la st M
theorem e115_15 (X : aX) (la : aLs) (st : List aV) (M : aM) : go X 115 15 la st M = i_irt st M := evR ((pm115 X 15).trans rfl) la st M
theorem c115 (X : aX) (as : List aV) (M : aM) : cl X 115 as M = if cs as ≤ 4 then go X 115 0 (ent 4 as) [] M else none := rfl
theorem pm116 (X : aX) (pc : Nat) : pg X 116 pc = lk pc (tb116 X) := rfl
theorem e116_0 (X : aX) (la : aLs) (st : List aV) (M : aM) : go X 116 0 la st M = kC X 116 (i_ci (nI 0) 1 la st M) := evC ((pm116 X 0).trans rfl) la st M
theorem e116_1 (X : aX) (la : aLs) (st : List aV) (M : aM) : go X 116 1 la st M = kC X 116 (i_sti 2 2 la st M) := evC ((pm116 X 1).trans rfl) la st M
theorem e116_2 (X : aX) (la : aLs) (st : List aV) (M : aM) : go X 116 2 la st M = kC X 116 (i_ldi 2 3 la st M) := evC ((pm116 X 2).trans rfl) la st M
theorem e116_3 (X : aX) (la : aLs) (st : List aV) (M : aM) : go X 116 3 la st M = kC X 116 (i_ci (nI 94) 5 la st M) := evC ((pm116 X 3).trans rfl) la st M
theorem e116_5 (X : aX) (la : aLs) (st : List aV) (M : aM) : go X 116 5 la st M = kC X 116 (i_cml 8 20 la st M) := evC ((pm116 X 5).trans rfl) la st M
theorem e116_8 (X : aX) (la : aLs) (st : List aV) (M : aM) : go X 116 8 la st M = kC X 116 (i_lda 1 9 la st M) := evC ((pm116 X 8).trans rfl) la st M
theorem e116_9 (X : aX) (la : aLs) (st : List aV) (M : aM) : go X 116 9 la st M = kC X 116 (i_ldi 2 10 la st M) := evC ((pm116 X 9).trans rfl) la st M
theorem e116_10 (X : aX) (la : aLs) (st : List aV) (M : aM) : go X 116 10 la st M = kC X 116 (i_lda 0 11 la st M) := evC ((pm116 X 10).trans rfl) la st M
theorem e116_11 (X : aX) (la : aLs) (st : List aV) (M : aM) : go X 116 11 la st M = kC X 116 (i_ldi 2 12 la st M) := evC ((pm116 X 11).trans rfl) la st M
theorem e116_12 (X : aX) (la : aLs) (st : List aV) (M : aM) : go X 116 12 la st M = kC X 116 (i_ial X 13 la st M) := evC ((pm116 X 12).trans rfl) la st M
theorem e116_13 (X : aX) (la : aLs) (st : List aV) (M : aM) : go X 116 13 la st M = kC X 116 (i_ias 14 la st M) := evC ((pm116 X 13).trans rfl) la st M
theorem e116_14 (X : aX) (la : aLs) (st : List aV) (M : aM) : go X 116 14 la st M = kC X 116 (i_inc 2 (nI 1) 17 la st M) := evC ((pm116 X 14).trans rfl) la st M
theorem e116_17 (X : aX) (la : aLs) (st : List aV) (M : aM) : go X 116 17 la st M = kC X 116 (i_go 2 la st M) := evC ((pm116 X 17).trans rfl) la st M
theorem e116_20 (X : aX) (la : aLs) (st : List aV) (M : aM) : go X 116 20 la st M = i_vrt st M := evR ((pm116 X 20).trans rfl) la st M
theorem c116 (X : aX) (as : List aV) (M : aM) : cl X 116 as M = if cs as ≤ 3 then go X 116 0 (ent 3 as) [] M else none := rfl
theorem pm117 (X : aX) (pc : Nat) : pg X 117 pc = lk pc (tb117 X) := rfl
theorem e117_0 (X : aX) (la : aLs) (st : List aV) (M : aM) : go X 117 0 la st M = kC X 117 (i_lda 0 1 la st M) := evC ((pm117 X 0).trans rfl) la st M
theorem e117_1 (X : aX) (la : aLs) (st : List aV) (M : aM) : go X 117 1 la st M = kC X 117 (i_get 6 2 4 la st M) := evC ((pm117 X 1).trans rfl) la st M
theorem e117_4 (X : aX) (la : aLs) (st : List aV) (M : aM) : go X 117 4 la st M = kC X 117 (i_lda 0 5 la st M) := evC ((pm117 X 4).trans rfl) la st M
theorem e117_5 (X : aX) (la : aLs) (st : List aV) (M : aM) : go X 117 5 la st M = kC X 117 (i_get 6 0 8 la st M) := evC ((pm117 X 5).trans rfl) la st M
theorem e117_8 (X : aX) (la : aLs) (st : List aV) (M : aM) : go X 117 8 la st M = kK X 117 116 2 11 0 la st M := evK ((pm117 X 8).trans rfl) la st M
theorem e117_11 (X : aX) (la : aLs) (st : List aV) (M : aM) : go X 117 11 la st M = kC X 117 (i_ldi 1 12 la st M) := evC ((pm117 X 11).trans rfl) la st M
theorem e117_12 (X : aX) (la : aLs) (st : List aV) (M : aM) : go X 117 12 la st M = i_irt st M := evR ((pm117 X 12).trans rfl) la st M
theorem c117 (X : aX) (as : List aV) (M : aM) : cl X 117 as M = if cs as ≤ 2 then go X 117 0 (ent 2 as) [] M else none := rfl
theorem pm118 (X : aX) (pc : Nat) : pg X 118 pc = lk pc (tb118 X) := rfl
theorem e118_0 (X : aX) (la : aLs) (st : List aV) (M : aM) : go X 118 0 la st M = kC X 118 (i_ldi 1 1 la st M) := evC ((pm118 X 0).trans rfl) la st M
theorem e118_1 (X : aX) (la : aLs) (st : List aV) (M : aM) : go X 118 1 la st M = kC X 118 (i_ifl 4 13 la st M) := evC ((pm118 X 1).trans rfl) la st M
theorem e118_4 (X : aX) (la : aLs) (st : List aV) (M : aM) : go X 118 4 la st M = kC X 118 (i_lda 0 5 la st M) := evC ((pm118 X 4).trans rfl) la st M
theorem e118_5 (X : aX) (la : aLs) (st : List aV) (M : aM) : go X 118 5 la st M = kC X 118 (i_ci (-1000004) 7 la st M) := evC ((pm118 X 5).trans rfl) la st M
theorem e118_7 (X : aX) (la : aLs) (st : List aV) (M : aM) : go X 118 7 la st M = kK X 118 113 2 10 7 la st M := evK ((pm118 X 7).trans rfl) la st M
theorem e118_10 (X : aX) (la : aLs) (st : List aV) (M : aM) : go X 118 10 la st M = kC X 118 (i_go 14 la st M) := evC ((pm118 X 10).trans rfl) la st M
theorem e118_13 (X : aX) (la : aLs) (st : List aV) (M : aM) : go X 118 13 la st M = kC X 118 (i_ldi 1 14 la st M) := evC ((pm118 X 13).trans rfl) la st M
theorem e118_14 (X : aX) (la : aLs) (st : List aV) (M : aM) : go X 118 14 la st M = i_irt st M := evR ((pm118 X 14).trans rfl) la st M
theorem c118 (X : aX) (as : List aV) (M : aM) : cl X 118 as M = if cs as ≤ 2 then go X 118 0 (ent 2 as) [] M else none := rfl
theorem pm119 (X : aX) (pc : Nat) : pg X 119 pc = lk pc (tb119 X) := rfl
theorem e119_0 (X : aX) (la : aLs) (st : List aV) (M : aM) : go X 119 0 la st M = kC X 119 (i_ci (nI 0) 1 la st M) := evC ((pm119 X 0).trans rfl) la st M
theorem e119_1 (X : aX) (la : aLs) (st : List aV) (M : aM) : go X 119 1 la st M = kC X 119 (i_sti 1 2 la st M) := evC ((pm119 X 1).trans rfl) la st M
theorem e119_2 (X : aX) (la : aLs) (st : List aV) (M : aM) : go X 119 2 la st M = kC X 119 (i_ldi 0 3 la st M) := evC ((pm119 X 2).trans rfl) la st M
theorem e119_3 (X : aX) (la : aLs) (st : List aV) (M : aM) : go X 119 3 la st M = kC X 119 (i_sti 2 4 la st M) := evC ((pm119 X 3).trans rfl) la st M
theorem e119_4 (X : aX) (la : aLs) (st : List aV) (M : aM) : go X 119 4 la st M = kC X 119 (i_ldi 2 5 la st M) := evC ((pm119 X 4).trans rfl) la st M
theorem e119_5 (X : aX) (la : aLs) (st : List aV) (M : aM) : go X 119 5 la st M = kC X 119 (i_ife 20 8 la st M) := evC ((pm119 X 5).trans rfl) la st M
theorem e119_8 (X : aX) (la : aLs) (st : List aV) (M : aM) : go X 119 8 la st M = kC X 119 (i_inc 1 (nI 1) 11 la st M) := evC ((pm119 X 8).trans rfl) la st M
theorem e119_11 (X : aX) (la : aLs) (st : List aV) (M : aM) : go X 119 11 la st M = kC X 119 (i_ldi 2 12 la st M) := evC ((pm119 X 11).trans rfl) la st M
theorem e119_12 (X : aX) (la : aLs) (st : List aV) (M : aM) : go X 119 12 la st M = kC X 119 (i_ldi 2 13 la st M) := evC ((pm119 X 12).trans rfl) la st M
theorem e119_13 (X : aX) (la : aLs) (st : List aV) (M : aM) : go X 119 13 la st M = kC X 119 (i_ci (nI 1) 14 la st M) := evC ((pm119 X 13).trans rfl) la st M
theorem e119_14 (X : aX) (la : aLs) (st : List aV) (M : aM) : go X 119 14 la st M = kC X 119 (i_bin (fun x y => x - y) 15 la st M) := evC ((pm119 X 14).trans rfl) la st M
theorem e119_15 (X : aX) (la : aLs) (st : List aV) (M : aM) : go X 119 15 la st M = kC X 119 (i_bin (fun x y => x &&& y) 16 la st M) := evC ((pm119 X 15).trans rfl) la st M
theorem e119_16 (X : aX) (la : aLs) (st : List aV) (M : aM) : go X 119 16 la st M = kC X 119 (i_sti 2 17 la st M) := evC ((pm119 X 16).trans rfl) la st M
theorem e119_17 (X : aX) (la : aLs) (st : List aV) (M : aM) : go X 119 17 la st M = kC X 119 (i_go 4 la st M) := evC ((pm119 X 17).trans rfl) la st M
theorem e119_20 (X : aX) (la : aLs) (st : List aV) (M : aM) : go X 119 20 la st M = kC X 119 (i_ldi 1 21 la st M) := evC ((pm119 X 20).trans rfl) la st M
theorem e119_21 (X : aX) (la : aLs) (st : List aV) (M : aM) : go X 119 21 la st M = i_irt st M := evR ((pm119 X 21).trans rfl) la st M
theorem c119 (X : aX) (as : List aV) (M : aM) : cl X 119 as M = if cs as ≤ 3 then go X 119 0 (ent 3 as) [] M else none := rfl
theorem pm120 (X : aX) (pc : Nat) : pg X 120 pc = lk pc (tb120 X) := rfl
theorem e120_0 (X : aX) (la : aLs) (st : List aV) (M : aM) : go X 120 0 la st M = kC X 120 (i_ldi 0 1 la st M) := evC ((pm120 X 0).trans rfl) la st M
theorem e120_1 (X : aX) (la : aLs) (st : List aV) (M : aM) : go X 120 1 la st M = kC X 120 (i_ci (nI 0) 2 la st M) := evC ((pm120 X 1).trans rfl) la st M
theorem e120_2 (X : aX) (la : aLs) (st : List aV) (M : aM) : go X 120 2 la st M = kC X 120 (i_ci (nI 59) 4 la st M) := evC ((pm120 X 2).trans rfl) la st M
theorem e120_4 (X : aX) (la : aLs) (st : List aV) (M : aM) : go X 120 4 la st M = kK X 120 114 3 7 0 la st M := evK ((pm120 X 4).trans rfl) la st M
theorem e120_7 (X : aX) (la : aLs) (st : List aV) (M : aM) : go X 120 7 la st M = i_zrt st M := evR ((pm120 X 7).trans rfl) la st M
theorem c120 (X : aX) (as : List aV) (M : aM) : cl X 120 as M = if cs as ≤ 1 then go X 120 0 (ent 1 as) [] M else none := rfl
theorem pm121 (X : aX) (pc : Nat) : pg X 121 pc = lk pc (tb121 X) := rfl
theorem e121_0 (X : aX) (la : aLs) (st : List aV) (M : aM) : go X 121 0 la st M = kC X 121 (i_ci (nI 14) 2 la st M) := evC ((pm121 X 0).trans rfl) la st M
theorem e121_2 (X : aX) (la : aLs) (st : List aV) (M : aM) : go X 121 2 la st M = kC X 121 (i_ci (nI 10) 4 la st M) := evC ((pm121 X 2).trans rfl) la st M
theorem e121_4 (X : aX) (la : aLs) (st : List aV) (M : aM) : go X 121 4 la st M = kC X 121 (i_ldi 0 5 la st M) := evC ((pm121 X 4).trans rfl) la st M
theorem e121_5 (X : aX) (la : aLs) (st : List aV) (M : aM) : go X 121 5 la st M = kC X 121 (i_bin (fun x y => x * y) 6 la st M) := evC ((pm121 X 5).trans rfl) la st M
theorem e121_6 (X : aX) (la : aLs) (st : List aV) (M : aM) : go X 121 6 la st M = kC X 121 (i_bin (fun x y => x + y) 7 la st M) := evC ((pm121 X 6).trans rfl) la st M
theorem e121_7 (X : aX) (la : aLs) (st : List aV) (M : aM) : go X 121 7 la st M = kC X 121 (i_ldi 1 8 la st M) := evC ((pm121 X 7).trans rfl) la st M
theorem e121_8 (X : aX) (la : aLs) (st : List aV) (M : aM) : go X 121 8 la st M = kC X 121 (i_bin (fun x y => x + y) 9 la st M) := evC ((pm121 X 8).trans rfl) la st M
theorem e121_9 (X : aX) (la : aLs) (st : List aV) (M : aM) : go X 121 9 la st M = i_irt st M := evR ((pm121 X 9).trans rfl) la st M
theorem c121 (X : aX) (as : List aV) (M : aM) : cl X 121 as M = if cs as ≤ 2 then go X 121 0 (ent 2 as) [] M else none := rfl
theorem pm122 (X : aX) (pc : Nat) : pg X 122 pc = lk pc (tb122 X) := rfl
theorem e122_0 (X : aX) (la : aLs) (st : List aV) (M : aM) : go X 122 0 la st M = kC X 122 (i_lda 0 1 la st M) := evC ((pm122 X 0).trans rfl) la st M
theorem e122_1 (X : aX) (la : aLs) (st : List aV) (M : aM) : go X 122 1 la st M = kC X 122 (i_get 6 0 4 la st M) := evC ((pm122 X 1).trans rfl) la st M
theorem e122_4 (X : aX) (la : aLs) (st : List aV) (M : aM) : go X 122 4 la st M = kC X 122 (i_ldi 1 5 la st M) := evC ((pm122 X 4).trans rfl) la st M
theorem e122_5 (X : aX) (la : aLs) (st : List aV) (M : aM) : go X 122 5 la st M = kC X 122 (i_ldi 2 6 la st M) := evC ((pm122 X 5).trans rfl) la st M
theorem e122_6 (X : aX) (la : aLs) (st : List aV) (M : aM) : go X 122 6 la st M = kK X 122 121 2 9 0 la st M := evK ((pm122 X 6).trans rfl) la st M
theorem e122_9 (X : aX) (la : aLs) (st : List aV) (M : aM) : go X 122 9 la st M = kC X 122 (i_ial X 10 la st M) := evC ((pm122 X 9).trans rfl) la st M
theorem e122_10 (X : aX) (la : aLs) (st : List aV) (M : aM) : go X 122 10 la st M = i_irt st M := evR ((pm122 X 10).trans rfl) la st M
theorem c122 (X : aX) (as : List aV) (M : aM) : cl X 122 as M = if cs as ≤ 3 then go X 122 0 (ent 3 as) [] M else none := rfl
theorem pm123 (X : aX) (pc : Nat) : pg X 123 pc = lk pc (tb123 X) := rfl
theorem e123_0 (X : aX) (la : aLs) (st : List aV) (M : aM) : go X 123 0 la st M = kC X 123 (i_ldi 1 1 la st M) := evC ((pm123 X 0).trans rfl) la st M
theorem e123_1 (X : aX) (la : aLs) (st : List aV) (M : aM) : go X 123 1 la st M = kC X 123 (i_ci (nI 0) 2 la st M) := evC ((pm123 X 1).trans rfl) la st M
theorem e123_2 (X : aX) (la : aLs) (st : List aV) (M : aM) : go X 123 2 la st M = kC X 123 (i_lda 0 3 la st M) := evC ((pm123 X 2).trans rfl) la st M
theorem e123_3 (X : aX) (la : aLs) (st : List aV) (M : aM) : go X 123 3 la st M = kC X 123 (i_get 6 0 6 la st M) := evC ((pm123 X 3).trans rfl) la st M
theorem e123_6 (X : aX) (la : aLs) (st : List aV) (M : aM) : go X 123 6 la st M = kC X 123 (i_ci (nI 1) 7 la st M) := evC ((pm123 X 6).trans rfl) la st M
theorem e123_7 (X : aX) (la : aLs) (st : List aV) (M : aM) : go X 123 7 la st M = kC X 123 (i_ial X 8 la st M) := evC ((pm123 X 7).trans rfl) la st M
theorem e123_8 (X : aX) (la : aLs) (st : List aV) (M : aM) : go X 123 8 la st M = kC X 123 (i_ci (nI 1) 9 la st M) := evC ((pm123 X 8).trans rfl) la st M
theorem e123_9 (X : aX) (la : aLs) (st : List aV) (M : aM) : go X 123 9 la st M = kC X 123 (i_bin (fun x y => x - y) 10 la st M) := evC ((pm123 X 9).trans rfl) la st M
theorem e123_10 (X : aX) (la : aLs) (st : List aV) (M : aM) : go X 123 10 la st M = kK X 123 114 3 13 0 la st M := evK ((pm123 X 10).trans rfl) la st M
theorem e123_13 (X : aX) (la : aLs) (st : List aV) (M : aM) : go X 123 13 la st M = i_zrt st M := evR ((pm123 X 13).trans rfl) la st M
theorem c123 (X : aX) (as : List aV) (M : aM) : cl X 123 as M = if cs as ≤ 2 then go X 123 0 (ent 2 as) [] M else none := rfl
theorem pm124 (X : aX) (pc : Nat) : pg X 124 pc = lk pc (tb124 X) := rfl
theorem e124_0 (X : aX) (la : aLs) (st : List aV) (M : aM) : go X 124 0 la st M = kC X 124 (i_ldi 0 1 la st M) := evC ((pm124 X 0).trans rfl) la st M
theorem e124_1 (X : aX) (la : aLs) (st : List aV) (M : aM) : go X 124 1 la st M = kC X 124 (i_ci (nI 0) 2 la st M) := evC ((pm124 X 1).trans rfl) la st M
theorem e124_2 (X : aX) (la : aLs) (st : List aV) (M : aM) : go X 124 2 la st M = kC X 124 (i_ci (nI 6) 4 la st M) := evC ((pm124 X 2).trans rfl) la st M
theorem e124_4 (X : aX) (la : aLs) (st : List aV) (M : aM) : go X 124 4 la st M = kK X 124 114 3 7 0 la st M := evK ((pm124 X 4).trans rfl) la st M
theorem e124_7 (X : aX) (la : aLs) (st : List aV) (M : aM) : go X 124 7 la st M = i_zrt st M := evR ((pm124 X 7).trans rfl) la st M
theorem c124 (X : aX) (as : List aV) (M : aM) : cl X 124 as M = if cs as ≤ 1 then go X 124 0 (ent 1 as) [] M else none := rfl
theorem pm125 (X : aX) (pc : Nat) : pg X 125 pc = lk pc (tb125 X) := rfl
theorem e125_0 (X : aX) (la : aLs) (st : List aV) (M : aM) : go X 125 0 la st M = kC X 125 (i_lda 0 1 la st M) := evC ((pm125 X 0).trans rfl) la st M
theorem e125_1 (X : aX) (la : aLs) (st : List aV) (M : aM) : go X 125 1 la st M = kC X 125 (i_get 6 0 4 la st M) := evC ((pm125 X 1).trans rfl) la st M
theorem e125_4 (X : aX) (la : aLs) (st : List aV) (M : aM) : go X 125 4 la st M = kC X 125 (i_ci (nI 1) 5 la st M) := evC ((pm125 X 4).trans rfl) la st M
theorem e125_5 (X : aX) (la : aLs) (st : List aV) (M : aM) : go X 125 5 la st M = kC X 125 (i_ial X 6 la st M) := evC ((pm125 X 5).trans rfl) la st M
theorem e125_6 (X : aX) (la : aLs) (st : List aV) (M : aM) : go X 125 6 la st M = kC X 125 (i_sti 3 7 la st M) := evC ((pm125 X 6).trans rfl) la st M
theorem e125_7 (X : aX) (la : aLs) (st : List aV) (M : aM) : go X 125 7 la st M = kC X 125 (i_ci (nI 0) 8 la st M) := evC ((pm125 X 7).trans rfl) la st M
theorem e125_8 (X : aX) (la : aLs) (st : List aV) (M : aM) : go X 125 8 la st M = kC X 125 (i_sti 4 10 la st M) := evC ((pm125 X 8).trans rfl) la st M
theorem e125_10 (X : aX) (la : aLs) (st : List aV) (M : aM) : go X 125 10 la st M = kC X 125 (i_ldi 4 12 la st M) := evC ((pm125 X 10).trans rfl) la st M
theorem e125_12 (X : aX) (la : aLs) (st : List aV) (M : aM) : go X 125 12 la st M = kC X 125 (i_ci (nI 10) 14 la st M) := evC ((pm125 X 12).trans rfl) la st M
theorem e125_14 (X : aX) (la : aLs) (st : List aV) (M : aM) : go X 125 14 la st M = kC X 125 (i_cml 17 35 la st M) := evC ((pm125 X 14).trans rfl) la st M
theorem e125_17 (X : aX) (la : aLs) (st : List aV) (M : aM) : go X 125 17 la st M = kC X 125 (i_lda 0 18 la st M) := evC ((pm125 X 17).trans rfl) la st M
theorem e125_18 (X : aX) (la : aLs) (st : List aV) (M : aM) : go X 125 18 la st M = kC X 125 (i_get 6 0 21 la st M) := evC ((pm125 X 18).trans rfl) la st M
theorem e125_21 (X : aX) (la : aLs) (st : List aV) (M : aM) : go X 125 21 la st M = kC X 125 (i_ldi 3 22 la st M) := evC ((pm125 X 21).trans rfl) la st M
theorem e125_22 (X : aX) (la : aLs) (st : List aV) (M : aM) : go X 125 22 la st M = kC X 125 (i_ldi 4 24 la st M) := evC ((pm125 X 22).trans rfl) la st M
theorem e125_24 (X : aX) (la : aLs) (st : List aV) (M : aM) : go X 125 24 la st M = kK X 125 121 2 27 0 la st M := evK ((pm125 X 24).trans rfl) la st M
theorem e125_27 (X : aX) (la : aLs) (st : List aV) (M : aM) : go X 125 27 la st M = kC X 125 (i_ci (nI 0) 28 la st M) := evC ((pm125 X 27).trans rfl) la st M
theorem e125_28 (X : aX) (la : aLs) (st : List aV) (M : aM) : go X 125 28 la st M = kC X 125 (i_ias 29 la st M) := evC ((pm125 X 28).trans rfl) la st M
theorem e125_29 (X : aX) (la : aLs) (st : List aV) (M : aM) : go X 125 29 la st M = kC X 125 (i_inc 4 (nI 1) 32 la st M) := evC ((pm125 X 29).trans rfl) la st M
theorem e125_32 (X : aX) (la : aLs) (st : List aV) (M : aM) : go X 125 32 la st M = kC X 125 (i_go 10 la st M) := evC ((pm125 X 32).trans rfl) la st M
theorem e125_35 (X : aX) (la : aLs) (st : List aV) (M : aM) : go X 125 35 la st M = kC X 125 (i_lda 0 36 la st M) := evC ((pm125 X 35).trans rfl) la st M
theorem e125_36 (X : aX) (la : aLs) (st : List aV) (M : aM) : go X 125 36 la st M = kC X 125 (i_get 6 0 39 la st M) := evC ((pm125 X 36).trans rfl) la st M
theorem e125_39 (X : aX) (la : aLs) (st : List aV) (M : aM) : go X 125 39 la st M = kC X 125 (i_ldi 3 40 la st M) := evC ((pm125 X 39).trans rfl) la st M
theorem e125_40 (X : aX) (la : aLs) (st : List aV) (M : aM) : go X 125 40 la st M = kC X 125 (i_ci (nI 0) 41 la st M) := evC ((pm125 X 40).trans rfl) la st M
theorem e125_41 (X : aX) (la : aLs) (st : List aV) (M : aM) : go X 125 41 la st M = kK X 125 121 2 44 0 la st M := evK ((pm125 X 41).trans rfl) la st M
theorem e125_44 (X : aX) (la : aLs) (st : List aV) (M : aM) : go X 125 44 la st M = kC X 125 (i_ldi 1 45 la st M) := evC ((pm125 X 44).trans rfl) la st M
theorem e125_45 (X : aX) (la : aLs) (st : List aV) (M : aM) : go X 125 45 la st M = kC X 125 (i_ias 46 la st M) := evC ((pm125 X 45).trans rfl) la st M
theorem e125_46 (X : aX) (la : aLs) (st : List aV) (M : aM) : go X 125 46 la st M = kC X 125 (i_lda 0 47 la st M) := evC ((pm125 X 46).trans rfl) la st M
theorem e125_47 (X : aX) (la : aLs) (st : List aV) (M : aM) : go X 125 47 la st M = kC X 125 (i_get 6 0 50 la st M) := evC ((pm125 X 47).trans rfl) la st M
theorem e125_50 (X : aX) (la : aLs) (st : List aV) (M : aM) : go X 125 50 la st M = kC X 125 (i_ldi 3 51 la st M) := evC ((pm125 X 50).trans rfl) la st M
theorem e125_51 (X : aX) (la : aLs) (st : List aV) (M : aM) : go X 125 51 la st M = kC X 125 (i_ci (nI 1) 52 la st M) := evC ((pm125 X 51).trans rfl) la st M
theorem e125_52 (X : aX) (la : aLs) (st : List aV) (M : aM) : go X 125 52 la st M = kK X 125 121 2 55 0 la st M := evK ((pm125 X 52).trans rfl) la st M
theorem e125_55 (X : aX) (la : aLs) (st : List aV) (M : aM) : go X 125 55 la st M = kC X 125 (i_ldi 2 56 la st M) := evC ((pm125 X 55).trans rfl) la st M
theorem e125_56 (X : aX) (la : aLs) (st : List aV) (M : aM) : go X 125 56 la st M = kC X 125 (i_ias 57 la st M) := evC ((pm125 X 56).trans rfl) la st M
theorem e125_57 (X : aX) (la : aLs) (st : List aV) (M : aM) : go X 125 57 la st M = kC X 125 (i_lda 0 58 la st M) := evC ((pm125 X 57).trans rfl) la st M
theorem e125_58 (X : aX) (la : aLs) (st : List aV) (M : aM) : go X 125 58 la st M = kC X 125 (i_get 6 0 61 la st M) := evC ((pm125 X 58).trans rfl) la st M
theorem e125_61 (X : aX) (la : aLs) (st : List aV) (M : aM) : go X 125 61 la st M = kC X 125 (i_ldi 3 62 la st M) := evC ((pm125 X 61).trans rfl) la st M
theorem e125_62 (X : aX) (la : aLs) (st : List aV) (M : aM) : go X 125 62 la st M = kC X 125 (i_ci (nI 2) 63 la st M) := evC ((pm125 X 62).trans rfl) la st M
theorem e125_63 (X : aX) (la : aLs) (st : List aV) (M : aM) : go X 125 63 la st M = kK X 125 121 2 66 0 la st M := evK ((pm125 X 63).trans rfl) la st M
theorem e125_66 (X : aX) (la : aLs) (st : List aV) (M : aM) : go X 125 66 la st M = kC X 125 (i_ci (-1) 67 la st M) := evC ((pm125 X 66).trans rfl) la st M
theorem e125_67 (X : aX) (la : aLs) (st : List aV) (M : aM) : go X 125 67 la st M = kC X 125 (i_ias 68 la st M) := evC ((pm125 X 67).trans rfl) la st M
theorem e125_68 (X : aX) (la : aLs) (st : List aV) (M : aM) : go X 125 68 la st M = kC X 125 (i_lda 0 69 la st M) := evC ((pm125 X 68).trans rfl) la st M
theorem e125_69 (X : aX) (la : aLs) (st : List aV) (M : aM) : go X 125 69 la st M = kC X 125 (i_get 6 0 72 la st M) := evC ((pm125 X 69).trans rfl) la st M
theorem e125_72 (X : aX) (la : aLs) (st : List aV) (M : aM) : go X 125 72 la st M = kC X 125 (i_ldi 3 73 la st M) := evC ((pm125 X 72).trans rfl) la st M
theorem e125_73 (X : aX) (la : aLs) (st : List aV) (M : aM) : go X 125 73 la st M = kC X 125 (i_ci (nI 3) 74 la st M) := evC ((pm125 X 73).trans rfl) la st M
theorem e125_74 (X : aX) (la : aLs) (st : List aV) (M : aM) : go X 125 74 la st M = kK X 125 121 2 77 0 la st M := evK ((pm125 X 74).trans rfl) la st M
theorem e125_77 (X : aX) (la : aLs) (st : List aV) (M : aM) : go X 125 77 la st M = kC X 125 (i_ci (nI 60) 79 la st M) := evC ((pm125 X 77).trans rfl) la st M
theorem e125_79 (X : aX) (la : aLs) (st : List aV) (M : aM) : go X 125 79 la st M = kC X 125 (i_ias 80 la st M) := evC ((pm125 X 79).trans rfl) la st M
theorem e125_80 (X : aX) (la : aLs) (st : List aV) (M : aM) : go X 125 80 la st M = kC X 125 (i_lda 0 81 la st M) := evC ((pm125 X 80).trans rfl) la st M
theorem e125_81 (X : aX) (la : aLs) (st : List aV) (M : aM) : go X 125 81 la st M = kC X 125 (i_get 6 0 84 la st M) := evC ((pm125 X 81).trans rfl) la st M
theorem e125_84 (X : aX) (la : aLs) (st : List aV) (M : aM) : go X 125 84 la st M = kC X 125 (i_ldi 3 85 la st M) := evC ((pm125 X 84).trans rfl) la st M
theorem e125_85 (X : aX) (la : aLs) (st : List aV) (M : aM) : go X 125 85 la st M = kC X 125 (i_ci (nI 4) 86 la st M) := evC ((pm125 X 85).trans rfl) la st M
theorem e125_86 (X : aX) (la : aLs) (st : List aV) (M : aM) : go X 125 86 la st M = kK X 125 121 2 89 0 la st M := evK ((pm125 X 86).trans rfl) la st M
theorem e125_89 (X : aX) (la : aLs) (st : List aV) (M : aM) : go X 125 89 la st M = kC X 125 (i_ci (nI 30) 91 la st M) := evC ((pm125 X 89).trans rfl) la st M
theorem e125_91 (X : aX) (la : aLs) (st : List aV) (M : aM) : go X 125 91 la st M = kC X 125 (i_ias 92 la st M) := evC ((pm125 X 91).trans rfl) la st M
theorem e125_92 (X : aX) (la : aLs) (st : List aV) (M : aM) : go X 125 92 la st M = kC X 125 (i_lda 0 93 la st M) := evC ((pm125 X 92).trans rfl) la st M
theorem e125_93 (X : aX) (la : aLs) (st : List aV) (M : aM) : go X 125 93 la st M = kC X 125 (i_get 6 0 96 la st M) := evC ((pm125 X 93).trans rfl) la st M
theorem e125_96 (X : aX) (la : aLs) (st : List aV) (M : aM) : go X 125 96 la st M = kC X 125 (i_ldi 3 97 la st M) := evC ((pm125 X 96).trans rfl) la st M
theorem e125_97 (X : aX) (la : aLs) (st : List aV) (M : aM) : go X 125 97 la st M = kC X 125 (i_ci (nI 5) 98 la st M) := evC ((pm125 X 97).trans rfl) la st M
theorem e125_98 (X : aX) (la : aLs) (st : List aV) (M : aM) : go X 125 98 la st M = kK X 125 121 2 101 0 la st M := evK ((pm125 X 98).trans rfl) la st M
theorem e125_101 (X : aX) (la : aLs) (st : List aV) (M : aM) : go X 125 101 la st M = kC X 125 (i_ci (nI 3) 102 la st M) := evC ((pm125 X 101).trans rfl) la st M
theorem e125_102 (X : aX) (la : aLs) (st : List aV) (M : aM) : go X 125 102 la st M = kC X 125 (i_ias 103 la st M) := evC ((pm125 X 102).trans rfl) la st M
theorem e125_103 (X : aX) (la : aLs) (st : List aV) (M : aM) : go X 125 103 la st M = kC X 125 (i_lda 0 104 la st M) := evC ((pm125 X 103).trans rfl) la st M
theorem e125_104 (X : aX) (la : aLs) (st : List aV) (M : aM) : go X 125 104 la st M = kC X 125 (i_get 6 0 107 la st M) := evC ((pm125 X 104).trans rfl) la st M
theorem e125_107 (X : aX) (la : aLs) (st : List aV) (M : aM) : go X 125 107 la st M = kC X 125 (i_ci (nI 1) 108 la st M) := evC ((pm125 X 107).trans rfl) la st M
theorem e125_108 (X : aX) (la : aLs) (st : List aV) (M : aM) : go X 125 108 la st M = kC X 125 (i_dp2 109 la st M) := evC ((pm125 X 108).trans rfl) la st M
theorem e125_109 (X : aX) (la : aLs) (st : List aV) (M : aM) : go X 125 109 la st M = kC X 125 (i_ial X 110 la st M) := evC ((pm125 X 109).trans rfl) la st M
theorem e125_110 (X : aX) (la : aLs) (st : List aV) (M : aM) : go X 125 110 la st M = kC X 125 (i_ci (nI 1) 111 la st M) := evC ((pm125 X 110).trans rfl) la st M
theorem e125_111 (X : aX) (la : aLs) (st : List aV) (M : aM) : go X 125 111 la st M = kC X 125 (i_bin (fun x y => x + y) 112 la st M) := evC ((pm125 X 111).trans rfl) la st M
theorem e125_112 (X : aX) (la : aLs) (st : List aV) (M : aM) : go X 125 112 la st M = kC X 125 (i_ias 113 la st M) := evC ((pm125 X 112).trans rfl) la st M
theorem e125_113 (X : aX) (la : aLs) (st : List aV) (M : aM) : go X 125 113 la st M = kC X 125 (i_ldi 3 114 la st M) := evC ((pm125 X 113).trans rfl) la st M
theorem e125_114 (X : aX) (la : aLs) (st : List aV) (M : aM) : go X 125 114 la st M = i_irt st M := evR ((pm125 X 114).trans rfl) la st M
theorem c125 (X : aX) (as : List aV) (M : aM) : cl X 125 as M = if cs as ≤ 5 then go X 125 0 (ent 5 as) [] M else none := rfl
theorem pm126 (X : aX) (pc : Nat) : pg X 126 pc = lk pc (tb126 X) := rfl
theorem e126_0 (X : aX) (la : aLs) (st : List aV) (M : aM) : go X 126 0 la st M = kC X 126 (i_ldi 1 1 la st M) := evC ((pm126 X 0).trans rfl) la st M
theorem e126_1 (X : aX) (la : aLs) (st : List aV) (M : aM) : go X 126 1 la st M = kK X 126 124 1 4 0 la st M := evK ((pm126 X 1).trans rfl) la st M
theorem e126_4 (X : aX) (la : aLs) (st : List aV) (M : aM) : go X 126 4 la st M = kC X 126 (i_ife 14 7 la st M) := evC ((pm126 X 4).trans rfl) la st M
theorem e126_7 (X : aX) (la : aLs) (st : List aV) (M : aM) : go X 126 7 la st M = kC X 126 (i_ldi 2 8 la st M) := evC ((pm126 X 7).trans rfl) la st M
theorem e126_8 (X : aX) (la : aLs) (st : List aV) (M : aM) : go X 126 8 la st M = kK X 126 120 1 11 0 la st M := evK ((pm126 X 8).trans rfl) la st M
theorem e126_11 (X : aX) (la : aLs) (st : List aV) (M : aM) : go X 126 11 la st M = kC X 126 (i_ife 14 21 la st M) := evC ((pm126 X 11).trans rfl) la st M
theorem e126_14 (X : aX) (la : aLs) (st : List aV) (M : aM) : go X 126 14 la st M = kC X 126 (i_lda 0 15 la st M) := evC ((pm126 X 14).trans rfl) la st M
theorem e126_15 (X : aX) (la : aLs) (st : List aV) (M : aM) : go X 126 15 la st M = kC X 126 (i_ci (-1000001) 17 la st M) := evC ((pm126 X 15).trans rfl) la st M
theorem e126_17 (X : aX) (la : aLs) (st : List aV) (M : aM) : go X 126 17 la st M = kK X 126 113 2 20 7 la st M := evK ((pm126 X 17).trans rfl) la st M
theorem e126_20 (X : aX) (la : aLs) (st : List aV) (M : aM) : go X 126 20 la st M = i_irt st M := evR ((pm126 X 20).trans rfl) la st M
theorem e126_21 (X : aX) (la : aLs) (st : List aV) (M : aM) : go X 126 21 la st M = kC X 126 (i_lda 0 22 la st M) := evC ((pm126 X 21).trans rfl) la st M
theorem e126_22 (X : aX) (la : aLs) (st : List aV) (M : aM) : go X 126 22 la st M = kC X 126 (i_get 6 0 25 la st M) := evC ((pm126 X 22).trans rfl) la st M
theorem e126_25 (X : aX) (la : aLs) (st : List aV) (M : aM) : go X 126 25 la st M = kC X 126 (i_ci (nI 1) 26 la st M) := evC ((pm126 X 25).trans rfl) la st M
theorem e126_26 (X : aX) (la : aLs) (st : List aV) (M : aM) : go X 126 26 la st M = kC X 126 (i_ial X 27 la st M) := evC ((pm126 X 26).trans rfl) la st M
theorem e126_27 (X : aX) (la : aLs) (st : List aV) (M : aM) : go X 126 27 la st M = kC X 126 (i_ci (nI 8) 29 la st M) := evC ((pm126 X 27).trans rfl) la st M
theorem e126_29 (X : aX) (la : aLs) (st : List aV) (M : aM) : go X 126 29 la st M = kC X 126 (i_cme 32 41 la st M) := evC ((pm126 X 29).trans rfl) la st M
theorem e126_32 (X : aX) (la : aLs) (st : List aV) (M : aM) : go X 126 32 la st M = kC X 126 (i_lda 0 33 la st M) := evC ((pm126 X 32).trans rfl) la st M
theorem e126_33 (X : aX) (la : aLs) (st : List aV) (M : aM) : go X 126 33 la st M = kC X 126 (i_ci (-1000002) 35 la st M) := evC ((pm126 X 33).trans rfl) la st M
theorem e126_35 (X : aX) (la : aLs) (st : List aV) (M : aM) : go X 126 35 la st M = kK X 126 113 2 38 7 la st M := evK ((pm126 X 35).trans rfl) la st M
theorem e126_38 (X : aX) (la : aLs) (st : List aV) (M : aM) : go X 126 38 la st M = kC X 126 (i_go 47 la st M) := evC ((pm126 X 38).trans rfl) la st M
theorem e126_41 (X : aX) (la : aLs) (st : List aV) (M : aM) : go X 126 41 la st M = kC X 126 (i_lda 0 42 la st M) := evC ((pm126 X 41).trans rfl) la st M
theorem e126_42 (X : aX) (la : aLs) (st : List aV) (M : aM) : go X 126 42 la st M = kC X 126 (i_ldi 1 43 la st M) := evC ((pm126 X 42).trans rfl) la st M
theorem e126_43 (X : aX) (la : aLs) (st : List aV) (M : aM) : go X 126 43 la st M = kC X 126 (i_ldi 2 44 la st M) := evC ((pm126 X 43).trans rfl) la st M
theorem e126_44 (X : aX) (la : aLs) (st : List aV) (M : aM) : go X 126 44 la st M = kK X 126 125 3 47 7 la st M := evK ((pm126 X 44).trans rfl) la st M
theorem e126_47 (X : aX) (la : aLs) (st : List aV) (M : aM) : go X 126 47 la st M = i_irt st M := evR ((pm126 X 47).trans rfl) la st M
theorem c126 (X : aX) (as : List aV) (M : aM) : cl X 126 as M = if cs as ≤ 3 then go X 126 0 (ent 3 as) [] M else none := rfl
theorem pm127 (X : aX) (pc : Nat) : pg X 127 pc = lk pc (tb127 X) := rfl
theorem e127_0 (X : aX) (la : aLs) (st : List aV) (M : aM) : go X 127 0 la st M = kC X 127 (i_lda 0 1 la st M) := evC ((pm127 X 0).trans rfl) la st M
theorem e127_1 (X : aX) (la : aLs) (st : List aV) (M : aM) : go X 127 1 la st M = kC X 127 (i_ldi 1 2 la st M) := evC ((pm127 X 1).trans rfl) la st M
theorem e127_2 (X : aX) (la : aLs) (st : List aV) (M : aM) : go X 127 2 la st M = kC X 127 (i_ci (nI 6) 4 la st M) := evC ((pm127 X 2).trans rfl) la st M
theorem e127_4 (X : aX) (la : aLs) (st : List aV) (M : aM) : go X 127 4 la st M = kK X 127 122 3 7 7 la st M := evK ((pm127 X 4).trans rfl) la st M
theorem e127_7 (X : aX) (la : aLs) (st : List aV) (M : aM) : go X 127 7 la st M = kC X 127 (i_ci (nI 1) 8 la st M) := evC ((pm127 X 7).trans rfl) la st M
theorem e127_8 (X : aX) (la : aLs) (st : List aV) (M : aM) : go X 127 8 la st M = kC X 127 (i_cme 11 15 la st M) := evC ((pm127 X 8).trans rfl) la st M
theorem e127_11 (X : aX) (la : aLs) (st : List aV) (M : aM) : go X 127 11 la st M = kC X 127 (i_ci (nI 1) 12 la st M) := evC ((pm127 X 11).trans rfl) la st M
theorem e127_12 (X : aX) (la : aLs) (st : List aV) (M : aM) : go X 127 12 la st M = kC X 127 (i_go 16 la st M) := evC ((pm127 X 12).trans rfl) la st M
theorem e127_15 (X : aX) (la : aLs) (st : List aV) (M : aM) : go X 127 15 la st M = kC X 127 (i_ci (nI 0) 16 la st M) := evC ((pm127 X 15).trans rfl) la st M
theorem e127_16 (X : aX) (la : aLs) (st : List aV) (M : aM) : go X 127 16 la st M = i_zrt st M := evR ((pm127 X 16).trans rfl) la st M
theorem c127 (X : aX) (as : List aV) (M : aM) : cl X 127 as M = if cs as ≤ 2 then go X 127 0 (ent 2 as) [] M else none := rfl
theorem pm128 (X : aX) (pc : Nat) : pg X 128 pc = lk pc (tb128 X) := rfl
theorem e128_0 (X : aX) (la : aLs) (st : List aV) (M : aM) : go X 128 0 la st M = kC X 128 (i_lda 0 1 la st M) := evC ((pm128 X 0).trans rfl) la st M
theorem e128_1 (X : aX) (la : aLs) (st : List aV) (M : aM) : go X 128 1 la st M = kC X 128 (i_ldi 1 2 la st M) := evC ((pm128 X 1).trans rfl) la st M
theorem e128_2 (X : aX) (la : aLs) (st : List aV) (M : aM) : go X 128 2 la st M = kK X 128 127 2 5 7 la st M := evK ((pm128 X 2).trans rfl) la st M
theorem e128_5 (X : aX) (la : aLs) (st : List aV) (M : aM) : go X 128 5 la st M = kC X 128 (i_ife 8 22 la st M) := evC ((pm128 X 5).trans rfl) la st M
theorem e128_8 (X : aX) (la : aLs) (st : List aV) (M : aM) : go X 128 8 la st M = kC X 128 (i_lda 0 9 la st M) := evC ((pm128 X 8).trans rfl) la st M
theorem e128_9 (X : aX) (la : aLs) (st : List aV) (M : aM) : go X 128 9 la st M = kC X 128 (i_ldi 1 10 la st M) := evC ((pm128 X 9).trans rfl) la st M
theorem e128_10 (X : aX) (la : aLs) (st : List aV) (M : aM) : go X 128 10 la st M = kC X 128 (i_ci (nI 7) 12 la st M) := evC ((pm128 X 10).trans rfl) la st M
theorem e128_12 (X : aX) (la : aLs) (st : List aV) (M : aM) : go X 128 12 la st M = kK X 128 122 3 15 7 la st M := evK ((pm128 X 12).trans rfl) la st M
theorem e128_15 (X : aX) (la : aLs) (st : List aV) (M : aM) : go X 128 15 la st M = kC X 128 (i_ifg 18 22 la st M) := evC ((pm128 X 15).trans rfl) la st M
theorem e128_18 (X : aX) (la : aLs) (st : List aV) (M : aM) : go X 128 18 la st M = kC X 128 (i_ci (nI 1) 19 la st M) := evC ((pm128 X 18).trans rfl) la st M
theorem e128_19 (X : aX) (la : aLs) (st : List aV) (M : aM) : go X 128 19 la st M = kC X 128 (i_go 23 la st M) := evC ((pm128 X 19).trans rfl) la st M
theorem e128_22 (X : aX) (la : aLs) (st : List aV) (M : aM) : go X 128 22 la st M = kC X 128 (i_ci (nI 0) 23 la st M) := evC ((pm128 X 22).trans rfl) la st M
theorem e128_23 (X : aX) (la : aLs) (st : List aV) (M : aM) : go X 128 23 la st M = i_zrt st M := evR ((pm128 X 23).trans rfl) la st M
theorem c128 (X : aX) (as : List aV) (M : aM) : cl X 128 as M = if cs as ≤ 2 then go X 128 0 (ent 2 as) [] M else none := rfl
theorem pm129 (X : aX) (pc : Nat) : pg X 129 pc = lk pc (tb129 X) := rfl
theorem e129_0 (X : aX) (la : aLs) (st : List aV) (M : aM) : go X 129 0 la st M = kC X 129 (i_ci (nI 1) 1 la st M) := evC ((pm129 X 0).trans rfl) la st M
theorem e129_1 (X : aX) (la : aLs) (st : List aV) (M : aM) : go X 129 1 la st M = kC X 129 (i_lda 0 2 la st M) := evC ((pm129 X 1).trans rfl) la st M
theorem e129_2 (X : aX) (la : aLs) (st : List aV) (M : aM) : go X 129 2 la st M = kC X 129 (i_ldi 1 3 la st M) := evC ((pm129 X 2).trans rfl) la st M
theorem e129_3 (X : aX) (la : aLs) (st : List aV) (M : aM) : go X 129 3 la st M = kC X 129 (i_ci (nI 4) 4 la st M) := evC ((pm129 X 3).trans rfl) la st M
theorem e129_4 (X : aX) (la : aLs) (st : List aV) (M : aM) : go X 129 4 la st M = kK X 129 122 3 7 7 la st M := evK ((pm129 X 4).trans rfl) la st M
theorem e129_7 (X : aX) (la : aLs) (st : List aV) (M : aM) : go X 129 7 la st M = kC X 129 (i_ci (nI 10) 9 la st M) := evC ((pm129 X 7).trans rfl) la st M
theorem e129_9 (X : aX) (la : aLs) (st : List aV) (M : aM) : go X 129 9 la st M = kC X 129 (i_div (fun x y => x / y) 10 la st M) := evC ((pm129 X 9).trans rfl) la st M
theorem e129_10 (X : aX) (la : aLs) (st : List aV) (M : aM) : go X 129 10 la st M = kC X 129 (i_bin (fun x y => x + y) 11 la st M) := evC ((pm129 X 10).trans rfl) la st M
theorem e129_11 (X : aX) (la : aLs) (st : List aV) (M : aM) : go X 129 11 la st M = kC X 129 (i_sti 2 12 la st M) := evC ((pm129 X 11).trans rfl) la st M
theorem e129_12 (X : aX) (la : aLs) (st : List aV) (M : aM) : go X 129 12 la st M = kC X 129 (i_lda 0 13 la st M) := evC ((pm129 X 12).trans rfl) la st M
theorem e129_13 (X : aX) (la : aLs) (st : List aV) (M : aM) : go X 129 13 la st M = kC X 129 (i_ldi 1 14 la st M) := evC ((pm129 X 13).trans rfl) la st M
theorem e129_14 (X : aX) (la : aLs) (st : List aV) (M : aM) : go X 129 14 la st M = kC X 129 (i_ci (nI 0) 15 la st M) := evC ((pm129 X 14).trans rfl) la st M
theorem e129_15 (X : aX) (la : aLs) (st : List aV) (M : aM) : go X 129 15 la st M = kK X 129 122 3 18 7 la st M := evK ((pm129 X 15).trans rfl) la st M
theorem e129_18 (X : aX) (la : aLs) (st : List aV) (M : aM) : go X 129 18 la st M = kC X 129 (i_sw [(nI 1, 56), (nI 2, 68), (nI 3, 58), (nI 4, 62), (nI 5, 87), (nI 6, 70)] 87 la st M) := evC ((pm129 X 18).trans rfl) la st M
theorem e129_56 (X : aX) (la : aLs) (st : List aV) (M : aM) : go X 129 56 la st M = kC X 129 (i_ldi 2 57 la st M) := evC ((pm129 X 56).trans rfl) la st M
theorem e129_57 (X : aX) (la : aLs) (st : List aV) (M : aM) : go X 129 57 la st M = i_irt st M := evR ((pm129 X 57).trans rfl) la st M
theorem e129_58 (X : aX) (la : aLs) (st : List aV) (M : aM) : go X 129 58 la st M = kC X 129 (i_ci (nI 2) 59 la st M) := evC ((pm129 X 58).trans rfl) la st M
theorem e129_59 (X : aX) (la : aLs) (st : List aV) (M : aM) : go X 129 59 la st M = kC X 129 (i_ldi 2 60 la st M) := evC ((pm129 X 59).trans rfl) la st M
theorem e129_60 (X : aX) (la : aLs) (st : List aV) (M : aM) : go X 129 60 la st M = kC X 129 (i_bin (fun x y => x * y) 61 la st M) := evC ((pm129 X 60).trans rfl) la st M
theorem e129_61 (X : aX) (la : aLs) (st : List aV) (M : aM) : go X 129 61 la st M = i_irt st M := evR ((pm129 X 61).trans rfl) la st M
theorem e129_62 (X : aX) (la : aLs) (st : List aV) (M : aM) : go X 129 62 la st M = kC X 129 (i_ci (nI 2) 63 la st M) := evC ((pm129 X 62).trans rfl) la st M
theorem e129_63 (X : aX) (la : aLs) (st : List aV) (M : aM) : go X 129 63 la st M = kC X 129 (i_ldi 2 64 la st M) := evC ((pm129 X 63).trans rfl) la st M
theorem e129_64 (X : aX) (la : aLs) (st : List aV) (M : aM) : go X 129 64 la st M = kC X 129 (i_bin (fun x y => x * y) 65 la st M) := evC ((pm129 X 64).trans rfl) la st M
theorem e129_65 (X : aX) (la : aLs) (st : List aV) (M : aM) : go X 129 65 la st M = kC X 129 (i_ci (nI 5) 66 la st M) := evC ((pm129 X 65).trans rfl) la st M
theorem e129_66 (X : aX) (la : aLs) (st : List aV) (M : aM) : go X 129 66 la st M = kC X 129 (i_bin (fun x y => x + y) 67 la st M) := evC ((pm129 X 66).trans rfl) la st M
theorem e129_67 (X : aX) (la : aLs) (st : List aV) (M : aM) : go X 129 67 la st M = i_irt st M := evR ((pm129 X 67).trans rfl) la st M
theorem e129_68 (X : aX) (la : aLs) (st : List aV) (M : aM) : go X 129 68 la st M = kC X 129 (i_ci (nI 3) 69 la st M) := evC ((pm129 X 68).trans rfl) la st M
theorem e129_69 (X : aX) (la : aLs) (st : List aV) (M : aM) : go X 129 69 la st M = i_irt st M := evR ((pm129 X 69).trans rfl) la st M
theorem e129_70 (X : aX) (la : aLs) (st : List aV) (M : aM) : go X 129 70 la st M = kC X 129 (i_lda 0 71 la st M) := evC ((pm129 X 70).trans rfl) la st M
theorem e129_71 (X : aX) (la : aLs) (st : List aV) (M : aM) : go X 129 71 la st M = kC X 129 (i_ldi 1 72 la st M) := evC ((pm129 X 71).trans rfl) la st M
theorem e129_72 (X : aX) (la : aLs) (st : List aV) (M : aM) : go X 129 72 la st M = kC X 129 (i_ci (nI 3) 73 la st M) := evC ((pm129 X 72).trans rfl) la st M
theorem e129_73 (X : aX) (la : aLs) (st : List aV) (M : aM) : go X 129 73 la st M = kK X 129 122 3 76 7 la st M := evK ((pm129 X 73).trans rfl) la st M
theorem e129_76 (X : aX) (la : aLs) (st : List aV) (M : aM) : go X 129 76 la st M = kC X 129 (i_ci (nI 50) 78 la st M) := evC ((pm129 X 76).trans rfl) la st M
theorem e129_78 (X : aX) (la : aLs) (st : List aV) (M : aM) : go X 129 78 la st M = kC X 129 (i_cml 85 81 la st M) := evC ((pm129 X 78).trans rfl) la st M
theorem e129_81 (X : aX) (la : aLs) (st : List aV) (M : aM) : go X 129 81 la st M = kC X 129 (i_ci (nI 2) 82 la st M) := evC ((pm129 X 81).trans rfl) la st M
theorem e129_82 (X : aX) (la : aLs) (st : List aV) (M : aM) : go X 129 82 la st M = kC X 129 (i_go 86 la st M) := evC ((pm129 X 82).trans rfl) la st M
theorem e129_85 (X : aX) (la : aLs) (st : List aV) (M : aM) : go X 129 85 la st M = kC X 129 (i_ci (nI 3) 86 la st M) := evC ((pm129 X 85).trans rfl) la st M
theorem e129_86 (X : aX) (la : aLs) (st : List aV) (M : aM) : go X 129 86 la st M = i_irt st M := evR ((pm129 X 86).trans rfl) la st M
theorem e129_87 (X : aX) (la : aLs) (st : List aV) (M : aM) : go X 129 87 la st M = kC X 129 (i_ci (nI 1) 88 la st M) := evC ((pm129 X 87).trans rfl) la st M
theorem e129_88 (X : aX) (la : aLs) (st : List aV) (M : aM) : go X 129 88 la st M = i_irt st M := evR ((pm129 X 88).trans rfl) la st M
theorem c129 (X : aX) (as : List aV) (M : aM) : cl X 129 as M = if cs as ≤ 3 then go X 129 0 (ent 3 as) [] M else none := rfl
theorem pm130 (X : aX) (pc : Nat) : pg X 130 pc = lk pc (tb130 X) := rfl
theorem e130_0 (X : aX) (la : aLs) (st : List aV) (M : aM) : go X 130 0 la st M = kC X 130 (i_lda 0 1 la st M) := evC ((pm130 X 0).trans rfl) la st M
theorem e130_1 (X : aX) (la : aLs) (st : List aV) (M : aM) : go X 130 1 la st M = kC X 130 (i_ldi 1 2 la st M) := evC ((pm130 X 1).trans rfl) la st M
theorem e130_2 (X : aX) (la : aLs) (st : List aV) (M : aM) : go X 130 2 la st M = kC X 130 (i_ci (nI 5) 3 la st M) := evC ((pm130 X 2).trans rfl) la st M
theorem e130_3 (X : aX) (la : aLs) (st : List aV) (M : aM) : go X 130 3 la st M = kK X 130 122 3 6 7 la st M := evK ((pm130 X 3).trans rfl) la st M
theorem e130_6 (X : aX) (la : aLs) (st : List aV) (M : aM) : go X 130 6 la st M = kC X 130 (i_sti 2 7 la st M) := evC ((pm130 X 6).trans rfl) la st M
theorem e130_7 (X : aX) (la : aLs) (st : List aV) (M : aM) : go X 130 7 la st M = kC X 130 (i_lda 0 8 la st M) := evC ((pm130 X 7).trans rfl) la st M
theorem e130_8 (X : aX) (la : aLs) (st : List aV) (M : aM) : go X 130 8 la st M = kC X 130 (i_ldi 1 9 la st M) := evC ((pm130 X 8).trans rfl) la st M
theorem e130_9 (X : aX) (la : aLs) (st : List aV) (M : aM) : go X 130 9 la st M = kC X 130 (i_ci (nI 0) 10 la st M) := evC ((pm130 X 9).trans rfl) la st M
theorem e130_10 (X : aX) (la : aLs) (st : List aV) (M : aM) : go X 130 10 la st M = kK X 130 122 3 13 7 la st M := evK ((pm130 X 10).trans rfl) la st M
theorem e130_13 (X : aX) (la : aLs) (st : List aV) (M : aM) : go X 130 13 la st M = kC X 130 (i_sw [(nI 1, 52), (nI 2, 70), (nI 3, 56), (nI 4, 56), (nI 5, 82), (nI 6, 76)] 84 la st M) := evC ((pm130 X 13).trans rfl) la st M
theorem e130_52 (X : aX) (la : aLs) (st : List aV) (M : aM) : go X 130 52 la st M = kC X 130 (i_ldi 2 53 la st M) := evC ((pm130 X 52).trans rfl) la st M
theorem e130_53 (X : aX) (la : aLs) (st : List aV) (M : aM) : go X 130 53 la st M = kC X 130 (i_ci (nI 1) 54 la st M) := evC ((pm130 X 53).trans rfl) la st M
theorem e130_54 (X : aX) (la : aLs) (st : List aV) (M : aM) : go X 130 54 la st M = kC X 130 (i_bin (fun x y => x + y) 55 la st M) := evC ((pm130 X 54).trans rfl) la st M
theorem e130_55 (X : aX) (la : aLs) (st : List aV) (M : aM) : go X 130 55 la st M = i_irt st M := evR ((pm130 X 55).trans rfl) la st M
theorem e130_56 (X : aX) (la : aLs) (st : List aV) (M : aM) : go X 130 56 la st M = kC X 130 (i_ldi 2 57 la st M) := evC ((pm130 X 56).trans rfl) la st M
theorem e130_57 (X : aX) (la : aLs) (st : List aV) (M : aM) : go X 130 57 la st M = kC X 130 (i_ci (nI 1) 58 la st M) := evC ((pm130 X 57).trans rfl) la st M
theorem e130_58 (X : aX) (la : aLs) (st : List aV) (M : aM) : go X 130 58 la st M = kC X 130 (i_bin (fun x y => x + y) 59 la st M) := evC ((pm130 X 58).trans rfl) la st M
theorem e130_59 (X : aX) (la : aLs) (st : List aV) (M : aM) : go X 130 59 la st M = kC X 130 (i_lda 0 60 la st M) := evC ((pm130 X 59).trans rfl) la st M
theorem e130_60 (X : aX) (la : aLs) (st : List aV) (M : aM) : go X 130 60 la st M = kC X 130 (i_ldi 1 61 la st M) := evC ((pm130 X 60).trans rfl) la st M
theorem e130_61 (X : aX) (la : aLs) (st : List aV) (M : aM) : go X 130 61 la st M = kC X 130 (i_ci (nI 4) 62 la st M) := evC ((pm130 X 61).trans rfl) la st M
theorem e130_62 (X : aX) (la : aLs) (st : List aV) (M : aM) : go X 130 62 la st M = kK X 130 122 3 65 7 la st M := evK ((pm130 X 62).trans rfl) la st M
theorem e130_65 (X : aX) (la : aLs) (st : List aV) (M : aM) : go X 130 65 la st M = kC X 130 (i_ci (nI 20) 67 la st M) := evC ((pm130 X 65).trans rfl) la st M
theorem e130_67 (X : aX) (la : aLs) (st : List aV) (M : aM) : go X 130 67 la st M = kC X 130 (i_div (fun x y => x / y) 68 la st M) := evC ((pm130 X 67).trans rfl) la st M
theorem e130_68 (X : aX) (la : aLs) (st : List aV) (M : aM) : go X 130 68 la st M = kC X 130 (i_bin (fun x y => x + y) 69 la st M) := evC ((pm130 X 68).trans rfl) la st M
theorem e130_69 (X : aX) (la : aLs) (st : List aV) (M : aM) : go X 130 69 la st M = i_irt st M := evR ((pm130 X 69).trans rfl) la st M
theorem e130_70 (X : aX) (la : aLs) (st : List aV) (M : aM) : go X 130 70 la st M = kC X 130 (i_ldi 2 71 la st M) := evC ((pm130 X 70).trans rfl) la st M
theorem e130_71 (X : aX) (la : aLs) (st : List aV) (M : aM) : go X 130 71 la st M = kC X 130 (i_ci (nI 2) 72 la st M) := evC ((pm130 X 71).trans rfl) la st M
theorem e130_72 (X : aX) (la : aLs) (st : List aV) (M : aM) : go X 130 72 la st M = kC X 130 (i_div (fun x y => x / y) 73 la st M) := evC ((pm130 X 72).trans rfl) la st M
theorem e130_73 (X : aX) (la : aLs) (st : List aV) (M : aM) : go X 130 73 la st M = kC X 130 (i_ci (nI 1) 74 la st M) := evC ((pm130 X 73).trans rfl) la st M
theorem e130_74 (X : aX) (la : aLs) (st : List aV) (M : aM) : go X 130 74 la st M = kC X 130 (i_bin (fun x y => x + y) 75 la st M) := evC ((pm130 X 74).trans rfl) la st M
theorem e130_75 (X : aX) (la : aLs) (st : List aV) (M : aM) : go X 130 75 la st M = i_irt st M := evR ((pm130 X 75).trans rfl) la st M
theorem e130_76 (X : aX) (la : aLs) (st : List aV) (M : aM) : go X 130 76 la st M = kC X 130 (i_ldi 2 77 la st M) := evC ((pm130 X 76).trans rfl) la st M
theorem e130_77 (X : aX) (la : aLs) (st : List aV) (M : aM) : go X 130 77 la st M = kC X 130 (i_ci (nI 2) 78 la st M) := evC ((pm130 X 77).trans rfl) la st M
theorem e130_78 (X : aX) (la : aLs) (st : List aV) (M : aM) : go X 130 78 la st M = kC X 130 (i_div (fun x y => x / y) 79 la st M) := evC ((pm130 X 78).trans rfl) la st M
theorem e130_79 (X : aX) (la : aLs) (st : List aV) (M : aM) : go X 130 79 la st M = kC X 130 (i_ci (nI 3) 80 la st M) := evC ((pm130 X 79).trans rfl) la st M
theorem e130_80 (X : aX) (la : aLs) (st : List aV) (M : aM) : go X 130 80 la st M = kC X 130 (i_bin (fun x y => x + y) 81 la st M) := evC ((pm130 X 80).trans rfl) la st M
theorem e130_81 (X : aX) (la : aLs) (st : List aV) (M : aM) : go X 130 81 la st M = i_irt st M := evR ((pm130 X 81).trans rfl) la st M
theorem e130_82 (X : aX) (la : aLs) (st : List aV) (M : aM) : go X 130 82 la st M = kC X 130 (i_ci (nI 1) 83 la st M) := evC ((pm130 X 82).trans rfl) la st M
theorem e130_83 (X : aX) (la : aLs) (st : List aV) (M : aM) : go X 130 83 la st M = i_irt st M := evR ((pm130 X 83).trans rfl) la st M
theorem e130_84 (X : aX) (la : aLs) (st : List aV) (M : aM) : go X 130 84 la st M = kC X 130 (i_ldi 2 85 la st M) := evC ((pm130 X 84).trans rfl) la st M
theorem e130_85 (X : aX) (la : aLs) (st : List aV) (M : aM) : go X 130 85 la st M = i_irt st M := evR ((pm130 X 85).trans rfl) la st M
theorem c130 (X : aX) (as : List aV) (M : aM) : cl X 130 as M = if cs as ≤ 3 then go X 130 0 (ent 3 as) [] M else none := rfl
theorem pm131 (X : aX) (pc : Nat) : pg X 131 pc = lk pc (tb131 X) := rfl
theorem e131_0 (X : aX) (la : aLs) (st : List aV) (M : aM) : go X 131 0 la st M = kC X 131 (i_ci (nI 1) 1 la st M) := evC ((pm131 X 0).trans rfl) la st M
theorem e131_1 (X : aX) (la : aLs) (st : List aV) (M : aM) : go X 131 1 la st M = kC X 131 (i_sti 2 2 la st M) := evC ((pm131 X 1).trans rfl) la st M
theorem e131_2 (X : aX) (la : aLs) (st : List aV) (M : aM) : go X 131 2 la st M = kC X 131 (i_ci (nI 0) 3 la st M) := evC ((pm131 X 2).trans rfl) la st M
theorem e131_3 (X : aX) (la : aLs) (st : List aV) (M : aM) : go X 131 3 la st M = kC X 131 (i_sti 3 4 la st M) := evC ((pm131 X 3).trans rfl) la st M
theorem e131_4 (X : aX) (la : aLs) (st : List aV) (M : aM) : go X 131 4 la st M = kC X 131 (i_ldi 3 5 la st M) := evC ((pm131 X 4).trans rfl) la st M
theorem e131_5 (X : aX) (la : aLs) (st : List aV) (M : aM) : go X 131 5 la st M = kC X 131 (i_lda 0 6 la st M) := evC ((pm131 X 5).trans rfl) la st M
theorem e131_6 (X : aX) (la : aLs) (st : List aV) (M : aM) : go X 131 6 la st M = kC X 131 (i_get 6 0 9 la st M) := evC ((pm131 X 6).trans rfl) la st M
theorem e131_9 (X : aX) (la : aLs) (st : List aV) (M : aM) : go X 131 9 la st M = kC X 131 (i_ci (nI 1) 10 la st M) := evC ((pm131 X 9).trans rfl) la st M
theorem e131_10 (X : aX) (la : aLs) (st : List aV) (M : aM) : go X 131 10 la st M = kC X 131 (i_ial X 11 la st M) := evC ((pm131 X 10).trans rfl) la st M
theorem e131_11 (X : aX) (la : aLs) (st : List aV) (M : aM) : go X 131 11 la st M = kC X 131 (i_cml 14 43 la st M) := evC ((pm131 X 11).trans rfl) la st M
theorem e131_14 (X : aX) (la : aLs) (st : List aV) (M : aM) : go X 131 14 la st M = kC X 131 (i_ldi 2 15 la st M) := evC ((pm131 X 14).trans rfl) la st M
theorem e131_15 (X : aX) (la : aLs) (st : List aV) (M : aM) : go X 131 15 la st M = kC X 131 (i_ife 35 18 la st M) := evC ((pm131 X 15).trans rfl) la st M
theorem e131_18 (X : aX) (la : aLs) (st : List aV) (M : aM) : go X 131 18 la st M = kC X 131 (i_ldi 3 19 la st M) := evC ((pm131 X 18).trans rfl) la st M
theorem e131_19 (X : aX) (la : aLs) (st : List aV) (M : aM) : go X 131 19 la st M = kC X 131 (i_ldi 1 20 la st M) := evC ((pm131 X 19).trans rfl) la st M
theorem e131_20 (X : aX) (la : aLs) (st : List aV) (M : aM) : go X 131 20 la st M = kC X 131 (i_cme 31 23 la st M) := evC ((pm131 X 20).trans rfl) la st M
theorem e131_23 (X : aX) (la : aLs) (st : List aV) (M : aM) : go X 131 23 la st M = kC X 131 (i_lda 0 24 la st M) := evC ((pm131 X 23).trans rfl) la st M
theorem e131_24 (X : aX) (la : aLs) (st : List aV) (M : aM) : go X 131 24 la st M = kC X 131 (i_ldi 3 25 la st M) := evC ((pm131 X 24).trans rfl) la st M
theorem e131_25 (X : aX) (la : aLs) (st : List aV) (M : aM) : go X 131 25 la st M = kK X 131 128 2 28 7 la st M := evK ((pm131 X 25).trans rfl) la st M
theorem e131_28 (X : aX) (la : aLs) (st : List aV) (M : aM) : go X 131 28 la st M = kC X 131 (i_ife 31 35 la st M) := evC ((pm131 X 28).trans rfl) la st M
theorem e131_31 (X : aX) (la : aLs) (st : List aV) (M : aM) : go X 131 31 la st M = kC X 131 (i_ci (nI 1) 32 la st M) := evC ((pm131 X 31).trans rfl) la st M
theorem e131_32 (X : aX) (la : aLs) (st : List aV) (M : aM) : go X 131 32 la st M = kC X 131 (i_go 36 la st M) := evC ((pm131 X 32).trans rfl) la st M
theorem e131_35 (X : aX) (la : aLs) (st : List aV) (M : aM) : go X 131 35 la st M = kC X 131 (i_ci (nI 0) 36 la st M) := evC ((pm131 X 35).trans rfl) la st M
theorem e131_36 (X : aX) (la : aLs) (st : List aV) (M : aM) : go X 131 36 la st M = kC X 131 (i_sti 2 37 la st M) := evC ((pm131 X 36).trans rfl) la st M
theorem e131_37 (X : aX) (la : aLs) (st : List aV) (M : aM) : go X 131 37 la st M = kC X 131 (i_inc 3 (nI 1) 40 la st M) := evC ((pm131 X 37).trans rfl) la st M
theorem e131_40 (X : aX) (la : aLs) (st : List aV) (M : aM) : go X 131 40 la st M = kC X 131 (i_go 4 la st M) := evC ((pm131 X 40).trans rfl) la st M
theorem e131_43 (X : aX) (la : aLs) (st : List aV) (M : aM) : go X 131 43 la st M = kC X 131 (i_ldi 2 44 la st M) := evC ((pm131 X 43).trans rfl) la st M
theorem e131_44 (X : aX) (la : aLs) (st : List aV) (M : aM) : go X 131 44 la st M = i_zrt st M := evR ((pm131 X 44).trans rfl) la st M
theorem c131 (X : aX) (as : List aV) (M : aM) : cl X 131 as M = if cs as ≤ 4 then go X 131 0 (ent 4 as) [] M else none := rfl
theorem pm132 (X : aX) (pc : Nat) : pg X 132 pc = lk pc (tb132 X) := rfl
theorem e132_0 (X : aX) (la : aLs) (st : List aV) (M : aM) : go X 132 0 la st M = kC X 132 (i_lda 0 1 la st M) := evC ((pm132 X 0).trans rfl) la st M
theorem e132_1 (X : aX) (la : aLs) (st : List aV) (M : aM) : go X 132 1 la st M = kC X 132 (i_ldi 1 2 la st M) := evC ((pm132 X 1).trans rfl) la st M
theorem e132_2 (X : aX) (la : aLs) (st : List aV) (M : aM) : go X 132 2 la st M = kC X 132 (i_ci (nI 3) 3 la st M) := evC ((pm132 X 2).trans rfl) la st M
theorem e132_3 (X : aX) (la : aLs) (st : List aV) (M : aM) : go X 132 3 la st M = kK X 132 122 3 6 7 la st M := evK ((pm132 X 3).trans rfl) la st M
theorem e132_6 (X : aX) (la : aLs) (st : List aV) (M : aM) : go X 132 6 la st M = kC X 132 (i_ci (nI 10) 8 la st M) := evC ((pm132 X 6).trans rfl) la st M
theorem e132_8 (X : aX) (la : aLs) (st : List aV) (M : aM) : go X 132 8 la st M = kC X 132 (i_div (fun x y => x / y) 9 la st M) := evC ((pm132 X 8).trans rfl) la st M
theorem e132_9 (X : aX) (la : aLs) (st : List aV) (M : aM) : go X 132 9 la st M = kC X 132 (i_sti 2 10 la st M) := evC ((pm132 X 9).trans rfl) la st M
theorem e132_10 (X : aX) (la : aLs) (st : List aV) (M : aM) : go X 132 10 la st M = kC X 132 (i_lda 0 11 la st M) := evC ((pm132 X 10).trans rfl) la st M
theorem e132_11 (X : aX) (la : aLs) (st : List aV) (M : aM) : go X 132 11 la st M = kC X 132 (i_ldi 1 12 la st M) := evC ((pm132 X 11).trans rfl) la st M
theorem e132_12 (X : aX) (la : aLs) (st : List aV) (M : aM) : go X 132 12 la st M = kC X 132 (i_ci (nI 2) 13 la st M) := evC ((pm132 X 12).trans rfl) la st M
theorem e132_13 (X : aX) (la : aLs) (st : List aV) (M : aM) : go X 132 13 la st M = kK X 132 122 3 16 7 la st M := evK ((pm132 X 13).trans rfl) la st M
theorem e132_16 (X : aX) (la : aLs) (st : List aV) (M : aM) : go X 132 16 la st M = kC X 132 (i_sti 3 17 la st M) := evC ((pm132 X 16).trans rfl) la st M
theorem e132_17 (X : aX) (la : aLs) (st : List aV) (M : aM) : go X 132 17 la st M = kC X 132 (i_ldi 3 18 la st M) := evC ((pm132 X 17).trans rfl) la st M
theorem e132_18 (X : aX) (la : aLs) (st : List aV) (M : aM) : go X 132 18 la st M = kC X 132 (i_ifl 35 21 la st M) := evC ((pm132 X 18).trans rfl) la st M
theorem e132_21 (X : aX) (la : aLs) (st : List aV) (M : aM) : go X 132 21 la st M = kC X 132 (i_lda 0 22 la st M) := evC ((pm132 X 21).trans rfl) la st M
theorem e132_22 (X : aX) (la : aLs) (st : List aV) (M : aM) : go X 132 22 la st M = kC X 132 (i_ldi 3 23 la st M) := evC ((pm132 X 22).trans rfl) la st M
theorem e132_23 (X : aX) (la : aLs) (st : List aV) (M : aM) : go X 132 23 la st M = kK X 132 127 2 26 7 la st M := evK ((pm132 X 23).trans rfl) la st M
theorem e132_26 (X : aX) (la : aLs) (st : List aV) (M : aM) : go X 132 26 la st M = kC X 132 (i_ife 29 35 la st M) := evC ((pm132 X 26).trans rfl) la st M
theorem e132_29 (X : aX) (la : aLs) (st : List aV) (M : aM) : go X 132 29 la st M = kC X 132 (i_ldi 2 30 la st M) := evC ((pm132 X 29).trans rfl) la st M
theorem e132_30 (X : aX) (la : aLs) (st : List aV) (M : aM) : go X 132 30 la st M = kC X 132 (i_ci (nI 1) 31 la st M) := evC ((pm132 X 30).trans rfl) la st M
theorem e132_31 (X : aX) (la : aLs) (st : List aV) (M : aM) : go X 132 31 la st M = kC X 132 (i_bin (fun x y => x + y) 32 la st M) := evC ((pm132 X 31).trans rfl) la st M
theorem e132_32 (X : aX) (la : aLs) (st : List aV) (M : aM) : go X 132 32 la st M = kC X 132 (i_go 36 la st M) := evC ((pm132 X 32).trans rfl) la st M
theorem e132_35 (X : aX) (la : aLs) (st : List aV) (M : aM) : go X 132 35 la st M = kC X 132 (i_ldi 2 36 la st M) := evC ((pm132 X 35).trans rfl) la st M
theorem e132_36 (X : aX) (la : aLs) (st : List aV) (M : aM) : go X 132 36 la st M = kC X 132 (i_sti 4 38 la st M) := evC ((pm132 X 36).trans rfl) la st M
theorem e132_38 (X : aX) (la : aLs) (st : List aV) (M : aM) : go X 132 38 la st M = kC X 132 (i_lda 0 39 la st M) := evC ((pm132 X 38).trans rfl) la st M
theorem e132_39 (X : aX) (la : aLs) (st : List aV) (M : aM) : go X 132 39 la st M = kC X 132 (i_ldi 1 40 la st M) := evC ((pm132 X 39).trans rfl) la st M
theorem e132_40 (X : aX) (la : aLs) (st : List aV) (M : aM) : go X 132 40 la st M = kC X 132 (i_ci (nI 0) 41 la st M) := evC ((pm132 X 40).trans rfl) la st M
theorem e132_41 (X : aX) (la : aLs) (st : List aV) (M : aM) : go X 132 41 la st M = kK X 132 122 3 44 7 la st M := evK ((pm132 X 41).trans rfl) la st M
theorem e132_44 (X : aX) (la : aLs) (st : List aV) (M : aM) : go X 132 44 la st M = kC X 132 (i_sw [(nI 1, 84), (nI 2, 103), (nI 3, 84), (nI 4, 87), (nI 5, 107), (nI 6, 105)] 111 la st M) := evC ((pm132 X 44).trans rfl) la st M
theorem e132_84 (X : aX) (la : aLs) (st : List aV) (M : aM) : go X 132 84 la st M = kC X 132 (i_ldi 4 86 la st M) := evC ((pm132 X 84).trans rfl) la st M
theorem e132_86 (X : aX) (la : aLs) (st : List aV) (M : aM) : go X 132 86 la st M = i_irt st M := evR ((pm132 X 86).trans rfl) la st M
theorem e132_87 (X : aX) (la : aLs) (st : List aV) (M : aM) : go X 132 87 la st M = kC X 132 (i_lda 0 88 la st M) := evC ((pm132 X 87).trans rfl) la st M
theorem e132_88 (X : aX) (la : aLs) (st : List aV) (M : aM) : go X 132 88 la st M = kC X 132 (i_ldi 1 89 la st M) := evC ((pm132 X 88).trans rfl) la st M
theorem e132_89 (X : aX) (la : aLs) (st : List aV) (M : aM) : go X 132 89 la st M = kK X 132 131 2 92 7 la st M := evK ((pm132 X 89).trans rfl) la st M
theorem e132_92 (X : aX) (la : aLs) (st : List aV) (M : aM) : go X 132 92 la st M = kC X 132 (i_ife 100 95 la st M) := evC ((pm132 X 92).trans rfl) la st M
theorem e132_95 (X : aX) (la : aLs) (st : List aV) (M : aM) : go X 132 95 la st M = kC X 132 (i_ci (nI 16) 97 la st M) := evC ((pm132 X 95).trans rfl) la st M
theorem e132_97 (X : aX) (la : aLs) (st : List aV) (M : aM) : go X 132 97 la st M = kC X 132 (i_go 102 la st M) := evC ((pm132 X 97).trans rfl) la st M
theorem e132_100 (X : aX) (la : aLs) (st : List aV) (M : aM) : go X 132 100 la st M = kC X 132 (i_ldi 4 102 la st M) := evC ((pm132 X 100).trans rfl) la st M
theorem e132_102 (X : aX) (la : aLs) (st : List aV) (M : aM) : go X 132 102 la st M = i_irt st M := evR ((pm132 X 102).trans rfl) la st M
theorem e132_103 (X : aX) (la : aLs) (st : List aV) (M : aM) : go X 132 103 la st M = kC X 132 (i_ci (nI 1) 104 la st M) := evC ((pm132 X 103).trans rfl) la st M
theorem e132_104 (X : aX) (la : aLs) (st : List aV) (M : aM) : go X 132 104 la st M = i_irt st M := evR ((pm132 X 104).trans rfl) la st M
theorem e132_105 (X : aX) (la : aLs) (st : List aV) (M : aM) : go X 132 105 la st M = kC X 132 (i_ci (nI 3) 106 la st M) := evC ((pm132 X 105).trans rfl) la st M
theorem e132_106 (X : aX) (la : aLs) (st : List aV) (M : aM) : go X 132 106 la st M = i_irt st M := evR ((pm132 X 106).trans rfl) la st M
theorem e132_107 (X : aX) (la : aLs) (st : List aV) (M : aM) : go X 132 107 la st M = kC X 132 (i_ldi 2 108 la st M) := evC ((pm132 X 107).trans rfl) la st M
theorem e132_108 (X : aX) (la : aLs) (st : List aV) (M : aM) : go X 132 108 la st M = kC X 132 (i_ci (nI 3) 109 la st M) := evC ((pm132 X 108).trans rfl) la st M
theorem e132_109 (X : aX) (la : aLs) (st : List aV) (M : aM) : go X 132 109 la st M = kC X 132 (i_bin (fun x y => x + y) 110 la st M) := evC ((pm132 X 109).trans rfl) la st M
theorem e132_110 (X : aX) (la : aLs) (st : List aV) (M : aM) : go X 132 110 la st M = i_irt st M := evR ((pm132 X 110).trans rfl) la st M
theorem e132_111 (X : aX) (la : aLs) (st : List aV) (M : aM) : go X 132 111 la st M = kC X 132 (i_ldi 2 112 la st M) := evC ((pm132 X 111).trans rfl) la st M
theorem e132_112 (X : aX) (la : aLs) (st : List aV) (M : aM) : go X 132 112 la st M = i_irt st M := evR ((pm132 X 112).trans rfl) la st M
theorem c132 (X : aX) (as : List aV) (M : aM) : cl X 132 as M = if cs as ≤ 5 then go X 132 0 (ent 5 as) [] M else none := rfl
theorem pm133 (X : aX) (pc : Nat) : pg X 133 pc = lk pc (tb133 X) := rfl
theorem e133_0 (X : aX) (la : aLs) (st : List aV) (M : aM) : go X 133 0 la st M = kC X 133 (i_lda 0 1 la st M) := evC ((pm133 X 0).trans rfl) la st M
theorem e133_1 (X : aX) (la : aLs) (st : List aV) (M : aM) : go X 133 1 la st M = kC X 133 (i_ldi 1 2 la st M) := evC ((pm133 X 1).trans rfl) la st M
theorem e133_2 (X : aX) (la : aLs) (st : List aV) (M : aM) : go X 133 2 la st M = kC X 133 (i_ci (nI 0) 3 la st M) := evC ((pm133 X 2).trans rfl) la st M
theorem e133_3 (X : aX) (la : aLs) (st : List aV) (M : aM) : go X 133 3 la st M = kK X 133 122 3 6 7 la st M := evK ((pm133 X 3).trans rfl) la st M
theorem e133_6 (X : aX) (la : aLs) (st : List aV) (M : aM) : go X 133 6 la st M = kC X 133 (i_sw [(nI 2, 44), (nI 3, 40), (nI 4, 42), (nI 5, 48), (nI 6, 46)] 66 la st M) := evC ((pm133 X 6).trans rfl) la st M
theorem e133_40 (X : aX) (la : aLs) (st : List aV) (M : aM) : go X 133 40 la st M = kC X 133 (i_ci (nI 4) 41 la st M) := evC ((pm133 X 40).trans rfl) la st M
theorem e133_41 (X : aX) (la : aLs) (st : List aV) (M : aM) : go X 133 41 la st M = i_irt st M := evR ((pm133 X 41).trans rfl) la st M
theorem e133_42 (X : aX) (la : aLs) (st : List aV) (M : aM) : go X 133 42 la st M = kC X 133 (i_ci (nI 3) 43 la st M) := evC ((pm133 X 42).trans rfl) la st M
theorem e133_43 (X : aX) (la : aLs) (st : List aV) (M : aM) : go X 133 43 la st M = i_irt st M := evR ((pm133 X 43).trans rfl) la st M
theorem e133_44 (X : aX) (la : aLs) (st : List aV) (M : aM) : go X 133 44 la st M = kC X 133 (i_ci (nI 0) 45 la st M) := evC ((pm133 X 44).trans rfl) la st M
theorem e133_45 (X : aX) (la : aLs) (st : List aV) (M : aM) : go X 133 45 la st M = i_irt st M := evR ((pm133 X 45).trans rfl) la st M
theorem e133_46 (X : aX) (la : aLs) (st : List aV) (M : aM) : go X 133 46 la st M = kC X 133 (i_ci (nI 1) 47 la st M) := evC ((pm133 X 46).trans rfl) la st M
theorem e133_47 (X : aX) (la : aLs) (st : List aV) (M : aM) : go X 133 47 la st M = i_irt st M := evR ((pm133 X 47).trans rfl) la st M
theorem e133_48 (X : aX) (la : aLs) (st : List aV) (M : aM) : go X 133 48 la st M = kC X 133 (i_lda 0 49 la st M) := evC ((pm133 X 48).trans rfl) la st M
theorem e133_49 (X : aX) (la : aLs) (st : List aV) (M : aM) : go X 133 49 la st M = kC X 133 (i_ldi 1 50 la st M) := evC ((pm133 X 49).trans rfl) la st M
theorem e133_50 (X : aX) (la : aLs) (st : List aV) (M : aM) : go X 133 50 la st M = kC X 133 (i_ci (nI 4) 51 la st M) := evC ((pm133 X 50).trans rfl) la st M
theorem e133_51 (X : aX) (la : aLs) (st : List aV) (M : aM) : go X 133 51 la st M = kK X 133 122 3 54 7 la st M := evK ((pm133 X 51).trans rfl) la st M
theorem e133_54 (X : aX) (la : aLs) (st : List aV) (M : aM) : go X 133 54 la st M = kC X 133 (i_ci (nI 15) 56 la st M) := evC ((pm133 X 54).trans rfl) la st M
theorem e133_56 (X : aX) (la : aLs) (st : List aV) (M : aM) : go X 133 56 la st M = kC X 133 (i_cml 59 64 la st M) := evC ((pm133 X 56).trans rfl) la st M
theorem e133_59 (X : aX) (la : aLs) (st : List aV) (M : aM) : go X 133 59 la st M = kC X 133 (i_ci (-5) 61 la st M) := evC ((pm133 X 59).trans rfl) la st M
theorem e133_61 (X : aX) (la : aLs) (st : List aV) (M : aM) : go X 133 61 la st M = kC X 133 (i_go 65 la st M) := evC ((pm133 X 61).trans rfl) la st M
theorem e133_64 (X : aX) (la : aLs) (st : List aV) (M : aM) : go X 133 64 la st M = kC X 133 (i_ci (nI 0) 65 la st M) := evC ((pm133 X 64).trans rfl) la st M
theorem e133_65 (X : aX) (la : aLs) (st : List aV) (M : aM) : go X 133 65 la st M = i_irt st M := evR ((pm133 X 65).trans rfl) la st M
theorem e133_66 (X : aX) (la : aLs) (st : List aV) (M : aM) : go X 133 66 la st M = kC X 133 (i_ci (nI 2) 67 la st M) := evC ((pm133 X 66).trans rfl) la st M
theorem e133_67 (X : aX) (la : aLs) (st : List aV) (M : aM) : go X 133 67 la st M = i_irt st M := evR ((pm133 X 67).trans rfl) la st M
theorem c133 (X : aX) (as : List aV) (M : aM) : cl X 133 as M = if cs as ≤ 2 then go X 133 0 (ent 2 as) [] M else none := rfl
theorem pm134 (X : aX) (pc : Nat) : pg X 134 pc = lk pc (tb134 X) := rfl
theorem e134_0 (X : aX) (la : aLs) (st : List aV) (M : aM) : go X 134 0 la st M = kC X 134 (i_ldi 2 1 la st M) := evC ((pm134 X 0).trans rfl) la st M
theorem e134_1 (X : aX) (la : aLs) (st : List aV) (M : aM) : go X 134 1 la st M = kC X 134 (i_sw [(nI 10, 32), (nI 11, 38), (nI 12, 44), (nI 13, 50)] 56 la st M) := evC ((pm134 X 1).trans rfl) la st M
theorem e134_32 (X : aX) (la : aLs) (st : List aV) (M : aM) : go X 134 32 la st M = kC X 134 (i_lda 0 33 la st M) := evC ((pm134 X 32).trans rfl) la st M
theorem e134_33 (X : aX) (la : aLs) (st : List aV) (M : aM) : go X 134 33 la st M = kC X 134 (i_ldi 1 34 la st M) := evC ((pm134 X 33).trans rfl) la st M
theorem e134_34 (X : aX) (la : aLs) (st : List aV) (M : aM) : go X 134 34 la st M = kK X 134 129 2 37 7 la st M := evK ((pm134 X 34).trans rfl) la st M
theorem e134_37 (X : aX) (la : aLs) (st : List aV) (M : aM) : go X 134 37 la st M = i_irt st M := evR ((pm134 X 37).trans rfl) la st M
theorem e134_38 (X : aX) (la : aLs) (st : List aV) (M : aM) : go X 134 38 la st M = kC X 134 (i_lda 0 39 la st M) := evC ((pm134 X 38).trans rfl) la st M
theorem e134_39 (X : aX) (la : aLs) (st : List aV) (M : aM) : go X 134 39 la st M = kC X 134 (i_ldi 1 40 la st M) := evC ((pm134 X 39).trans rfl) la st M
theorem e134_40 (X : aX) (la : aLs) (st : List aV) (M : aM) : go X 134 40 la st M = kK X 134 130 2 43 7 la st M := evK ((pm134 X 40).trans rfl) la st M
theorem e134_43 (X : aX) (la : aLs) (st : List aV) (M : aM) : go X 134 43 la st M = i_irt st M := evR ((pm134 X 43).trans rfl) la st M
theorem e134_44 (X : aX) (la : aLs) (st : List aV) (M : aM) : go X 134 44 la st M = kC X 134 (i_lda 0 45 la st M) := evC ((pm134 X 44).trans rfl) la st M
theorem e134_45 (X : aX) (la : aLs) (st : List aV) (M : aM) : go X 134 45 la st M = kC X 134 (i_ldi 1 46 la st M) := evC ((pm134 X 45).trans rfl) la st M
theorem e134_46 (X : aX) (la : aLs) (st : List aV) (M : aM) : go X 134 46 la st M = kK X 134 132 2 49 7 la st M := evK ((pm134 X 46).trans rfl) la st M
theorem e134_49 (X : aX) (la : aLs) (st : List aV) (M : aM) : go X 134 49 la st M = i_irt st M := evR ((pm134 X 49).trans rfl) la st M
theorem e134_50 (X : aX) (la : aLs) (st : List aV) (M : aM) : go X 134 50 la st M = kC X 134 (i_lda 0 51 la st M) := evC ((pm134 X 50).trans rfl) la st M
theorem e134_51 (X : aX) (la : aLs) (st : List aV) (M : aM) : go X 134 51 la st M = kC X 134 (i_ldi 1 52 la st M) := evC ((pm134 X 51).trans rfl) la st M
theorem e134_52 (X : aX) (la : aLs) (st : List aV) (M : aM) : go X 134 52 la st M = kK X 134 133 2 55 7 la st M := evK ((pm134 X 52).trans rfl) la st M
theorem e134_55 (X : aX) (la : aLs) (st : List aV) (M : aM) : go X 134 55 la st M = i_irt st M := evR ((pm134 X 55).trans rfl) la st M
theorem e134_56 (X : aX) (la : aLs) (st : List aV) (M : aM) : go X 134 56 la st M = kC X 134 (i_lda 0 57 la st M) := evC ((pm134 X 56).trans rfl) la st M
theorem e134_57 (X : aX) (la : aLs) (st : List aV) (M : aM) : go X 134 57 la st M = kC X 134 (i_ldi 1 58 la st M) := evC ((pm134 X 57).trans rfl) la st M
theorem e134_58 (X : aX) (la : aLs) (st : List aV) (M : aM) : go X 134 58 la st M = kC X 134 (i_ldi 2 59 la st M) := evC ((pm134 X 58).trans rfl) la st M
theorem e134_59 (X : aX) (la : aLs) (st : List aV) (M : aM) : go X 134 59 la st M = kK X 134 122 3 62 7 la st M := evK ((pm134 X 59).trans rfl) la st M
theorem e134_62 (X : aX) (la : aLs) (st : List aV) (M : aM) : go X 134 62 la st M = i_irt st M := evR ((pm134 X 62).trans rfl) la st M
theorem c134 (X : aX) (as : List aV) (M : aM) : cl X 134 as M = if cs as ≤ 3 then go X 134 0 (ent 3 as) [] M else none := rfl
theorem pm135 (X : aX) (pc : Nat) : pg X 135 pc = lk pc (tb135 X) := rfl
theorem e135_0 (X : aX) (la : aLs) (st : List aV) (M : aM) : go X 135 0 la st M = kC X 135 (i_lda 0 1 la st M) := evC ((pm135 X 0).trans rfl) la st M
theorem e135_1 (X : aX) (la : aLs) (st : List aV) (M : aM) : go X 135 1 la st M = kC X 135 (i_ldi 1 2 la st M) := evC ((pm135 X 1).trans rfl) la st M
theorem e135_2 (X : aX) (la : aLs) (st : List aV) (M : aM) : go X 135 2 la st M = kK X 135 123 2 5 7 la st M := evK ((pm135 X 2).trans rfl) la st M
theorem e135_5 (X : aX) (la : aLs) (st : List aV) (M : aM) : go X 135 5 la st M = kC X 135 (i_ife 27 8 la st M) := evC ((pm135 X 5).trans rfl) la st M
theorem e135_8 (X : aX) (la : aLs) (st : List aV) (M : aM) : go X 135 8 la st M = kC X 135 (i_ldi 2 9 la st M) := evC ((pm135 X 8).trans rfl) la st M
theorem e135_9 (X : aX) (la : aLs) (st : List aV) (M : aM) : go X 135 9 la st M = kC X 135 (i_ci (nI 0) 10 la st M) := evC ((pm135 X 9).trans rfl) la st M
theorem e135_10 (X : aX) (la : aLs) (st : List aV) (M : aM) : go X 135 10 la st M = kC X 135 (i_ci (nI 13) 12 la st M) := evC ((pm135 X 10).trans rfl) la st M
theorem e135_12 (X : aX) (la : aLs) (st : List aV) (M : aM) : go X 135 12 la st M = kK X 135 114 3 15 0 la st M := evK ((pm135 X 12).trans rfl) la st M
theorem e135_15 (X : aX) (la : aLs) (st : List aV) (M : aM) : go X 135 15 la st M = kC X 135 (i_ife 27 18 la st M) := evC ((pm135 X 15).trans rfl) la st M
theorem e135_18 (X : aX) (la : aLs) (st : List aV) (M : aM) : go X 135 18 la st M = kC X 135 (i_lda 0 19 la st M) := evC ((pm135 X 18).trans rfl) la st M
theorem e135_19 (X : aX) (la : aLs) (st : List aV) (M : aM) : go X 135 19 la st M = kC X 135 (i_ldi 1 20 la st M) := evC ((pm135 X 19).trans rfl) la st M
theorem e135_20 (X : aX) (la : aLs) (st : List aV) (M : aM) : go X 135 20 la st M = kC X 135 (i_ldi 2 21 la st M) := evC ((pm135 X 20).trans rfl) la st M
theorem e135_21 (X : aX) (la : aLs) (st : List aV) (M : aM) : go X 135 21 la st M = kK X 135 134 3 24 7 la st M := evK ((pm135 X 21).trans rfl) la st M
theorem e135_24 (X : aX) (la : aLs) (st : List aV) (M : aM) : go X 135 24 la st M = kC X 135 (i_go 33 la st M) := evC ((pm135 X 24).trans rfl) la st M
theorem e135_27 (X : aX) (la : aLs) (st : List aV) (M : aM) : go X 135 27 la st M = kC X 135 (i_lda 0 28 la st M) := evC ((pm135 X 27).trans rfl) la st M
theorem e135_28 (X : aX) (la : aLs) (st : List aV) (M : aM) : go X 135 28 la st M = kC X 135 (i_ci (-1000001) 30 la st M) := evC ((pm135 X 28).trans rfl) la st M
theorem e135_30 (X : aX) (la : aLs) (st : List aV) (M : aM) : go X 135 30 la st M = kK X 135 113 2 33 7 la st M := evK ((pm135 X 30).trans rfl) la st M
theorem e135_33 (X : aX) (la : aLs) (st : List aV) (M : aM) : go X 135 33 la st M = i_irt st M := evR ((pm135 X 33).trans rfl) la st M
theorem c135 (X : aX) (as : List aV) (M : aM) : cl X 135 as M = if cs as ≤ 3 then go X 135 0 (ent 3 as) [] M else none := rfl
theorem pm136 (X : aX) (pc : Nat) : pg X 136 pc = lk pc (tb136 X) := rfl
theorem e136_0 (X : aX) (la : aLs) (st : List aV) (M : aM) : go X 136 0 la st M = kC X 136 (i_ldi 2 1 la st M) := evC ((pm136 X 0).trans rfl) la st M
theorem e136_1 (X : aX) (la : aLs) (st : List aV) (M : aM) : go X 136 1 la st M = kC X 136 (i_sw [(nI 0, 56), (nI 1, 61), (nI 2, 66), (nI 3, 90), (nI 4, 98), (nI 5, 106), (nI 6, 114), (nI 7, 90), (nI 8, 90), (nI 9, 121)] 130 la st M) := evC ((pm136 X 1).trans rfl) la st M
theorem e136_56 (X : aX) (la : aLs) (st : List aV) (M : aM) : go X 136 56 la st M = kC X 136 (i_ldi 3 57 la st M) := evC ((pm136 X 56).trans rfl) la st M
theorem e136_57 (X : aX) (la : aLs) (st : List aV) (M : aM) : go X 136 57 la st M = kK X 136 124 1 60 0 la st M := evK ((pm136 X 57).trans rfl) la st M
theorem e136_60 (X : aX) (la : aLs) (st : List aV) (M : aM) : go X 136 60 la st M = i_zrt st M := evR ((pm136 X 60).trans rfl) la st M
theorem e136_61 (X : aX) (la : aLs) (st : List aV) (M : aM) : go X 136 61 la st M = kC X 136 (i_ldi 3 62 la st M) := evC ((pm136 X 61).trans rfl) la st M
theorem e136_62 (X : aX) (la : aLs) (st : List aV) (M : aM) : go X 136 62 la st M = kK X 136 120 1 65 0 la st M := evK ((pm136 X 62).trans rfl) la st M
theorem e136_65 (X : aX) (la : aLs) (st : List aV) (M : aM) : go X 136 65 la st M = i_zrt st M := evR ((pm136 X 65).trans rfl) la st M
theorem e136_66 (X : aX) (la : aLs) (st : List aV) (M : aM) : go X 136 66 la st M = kC X 136 (i_ldi 3 67 la st M) := evC ((pm136 X 66).trans rfl) la st M
theorem e136_67 (X : aX) (la : aLs) (st : List aV) (M : aM) : go X 136 67 la st M = kC X 136 (i_ci (-1) 68 la st M) := evC ((pm136 X 67).trans rfl) la st M
theorem e136_68 (X : aX) (la : aLs) (st : List aV) (M : aM) : go X 136 68 la st M = kC X 136 (i_cme 84 71 la st M) := evC ((pm136 X 68).trans rfl) la st M
theorem e136_71 (X : aX) (la : aLs) (st : List aV) (M : aM) : go X 136 71 la st M = kC X 136 (i_lda 0 72 la st M) := evC ((pm136 X 71).trans rfl) la st M
theorem e136_72 (X : aX) (la : aLs) (st : List aV) (M : aM) : go X 136 72 la st M = kC X 136 (i_ldi 3 73 la st M) := evC ((pm136 X 72).trans rfl) la st M
theorem e136_73 (X : aX) (la : aLs) (st : List aV) (M : aM) : go X 136 73 la st M = kK X 136 123 2 76 7 la st M := evK ((pm136 X 73).trans rfl) la st M
theorem e136_76 (X : aX) (la : aLs) (st : List aV) (M : aM) : go X 136 76 la st M = kC X 136 (i_ife 88 79 la st M) := evC ((pm136 X 76).trans rfl) la st M
theorem e136_79 (X : aX) (la : aLs) (st : List aV) (M : aM) : go X 136 79 la st M = kC X 136 (i_ldi 3 80 la st M) := evC ((pm136 X 79).trans rfl) la st M
theorem e136_80 (X : aX) (la : aLs) (st : List aV) (M : aM) : go X 136 80 la st M = kC X 136 (i_ldi 1 81 la st M) := evC ((pm136 X 80).trans rfl) la st M
theorem e136_81 (X : aX) (la : aLs) (st : List aV) (M : aM) : go X 136 81 la st M = kC X 136 (i_cme 88 84 la st M) := evC ((pm136 X 81).trans rfl) la st M
theorem e136_84 (X : aX) (la : aLs) (st : List aV) (M : aM) : go X 136 84 la st M = kC X 136 (i_ci (nI 1) 85 la st M) := evC ((pm136 X 84).trans rfl) la st M
theorem e136_85 (X : aX) (la : aLs) (st : List aV) (M : aM) : go X 136 85 la st M = kC X 136 (i_go 89 la st M) := evC ((pm136 X 85).trans rfl) la st M
theorem e136_88 (X : aX) (la : aLs) (st : List aV) (M : aM) : go X 136 88 la st M = kC X 136 (i_ci (nI 0) 89 la st M) := evC ((pm136 X 88).trans rfl) la st M
theorem e136_89 (X : aX) (la : aLs) (st : List aV) (M : aM) : go X 136 89 la st M = i_zrt st M := evR ((pm136 X 89).trans rfl) la st M
theorem e136_90 (X : aX) (la : aLs) (st : List aV) (M : aM) : go X 136 90 la st M = kC X 136 (i_ldi 3 91 la st M) := evC ((pm136 X 90).trans rfl) la st M
theorem e136_91 (X : aX) (la : aLs) (st : List aV) (M : aM) : go X 136 91 la st M = kC X 136 (i_ci (nI 0) 92 la st M) := evC ((pm136 X 91).trans rfl) la st M
theorem e136_92 (X : aX) (la : aLs) (st : List aV) (M : aM) : go X 136 92 la st M = kC X 136 (i_ci (nI 99) 94 la st M) := evC ((pm136 X 92).trans rfl) la st M
theorem e136_94 (X : aX) (la : aLs) (st : List aV) (M : aM) : go X 136 94 la st M = kK X 136 114 3 97 0 la st M := evK ((pm136 X 94).trans rfl) la st M
theorem e136_97 (X : aX) (la : aLs) (st : List aV) (M : aM) : go X 136 97 la st M = i_zrt st M := evR ((pm136 X 97).trans rfl) la st M
theorem e136_98 (X : aX) (la : aLs) (st : List aV) (M : aM) : go X 136 98 la st M = kC X 136 (i_ldi 3 99 la st M) := evC ((pm136 X 98).trans rfl) la st M
theorem e136_99 (X : aX) (la : aLs) (st : List aV) (M : aM) : go X 136 99 la st M = kC X 136 (i_ci (nI 0) 100 la st M) := evC ((pm136 X 99).trans rfl) la st M
theorem e136_100 (X : aX) (la : aLs) (st : List aV) (M : aM) : go X 136 100 la st M = kC X 136 (i_ci (nI 120) 102 la st M) := evC ((pm136 X 100).trans rfl) la st M
theorem e136_102 (X : aX) (la : aLs) (st : List aV) (M : aM) : go X 136 102 la st M = kK X 136 114 3 105 0 la st M := evK ((pm136 X 102).trans rfl) la st M
theorem e136_105 (X : aX) (la : aLs) (st : List aV) (M : aM) : go X 136 105 la st M = i_zrt st M := evR ((pm136 X 105).trans rfl) la st M
theorem e136_106 (X : aX) (la : aLs) (st : List aV) (M : aM) : go X 136 106 la st M = kC X 136 (i_ldi 3 107 la st M) := evC ((pm136 X 106).trans rfl) la st M
theorem e136_107 (X : aX) (la : aLs) (st : List aV) (M : aM) : go X 136 107 la st M = kC X 136 (i_ci (nI 1) 108 la st M) := evC ((pm136 X 107).trans rfl) la st M
theorem e136_108 (X : aX) (la : aLs) (st : List aV) (M : aM) : go X 136 108 la st M = kC X 136 (i_ci (nI 9) 110 la st M) := evC ((pm136 X 108).trans rfl) la st M
theorem e136_110 (X : aX) (la : aLs) (st : List aV) (M : aM) : go X 136 110 la st M = kK X 136 114 3 113 0 la st M := evK ((pm136 X 110).trans rfl) la st M
theorem e136_113 (X : aX) (la : aLs) (st : List aV) (M : aM) : go X 136 113 la st M = i_zrt st M := evR ((pm136 X 113).trans rfl) la st M
theorem e136_114 (X : aX) (la : aLs) (st : List aV) (M : aM) : go X 136 114 la st M = kC X 136 (i_ldi 3 115 la st M) := evC ((pm136 X 114).trans rfl) la st M
theorem e136_115 (X : aX) (la : aLs) (st : List aV) (M : aM) : go X 136 115 la st M = kC X 136 (i_ci (nI 0) 116 la st M) := evC ((pm136 X 115).trans rfl) la st M
theorem e136_116 (X : aX) (la : aLs) (st : List aV) (M : aM) : go X 136 116 la st M = kC X 136 (i_ci (nI 1) 117 la st M) := evC ((pm136 X 116).trans rfl) la st M
theorem e136_117 (X : aX) (la : aLs) (st : List aV) (M : aM) : go X 136 117 la st M = kK X 136 114 3 120 0 la st M := evK ((pm136 X 117).trans rfl) la st M
theorem e136_120 (X : aX) (la : aLs) (st : List aV) (M : aM) : go X 136 120 la st M = i_zrt st M := evR ((pm136 X 120).trans rfl) la st M
theorem e136_121 (X : aX) (la : aLs) (st : List aV) (M : aM) : go X 136 121 la st M = kC X 136 (i_ldi 3 122 la st M) := evC ((pm136 X 121).trans rfl) la st M
theorem e136_122 (X : aX) (la : aLs) (st : List aV) (M : aM) : go X 136 122 la st M = kC X 136 (i_ci (nI 0) 123 la st M) := evC ((pm136 X 122).trans rfl) la st M
theorem e136_123 (X : aX) (la : aLs) (st : List aV) (M : aM) : go X 136 123 la st M = kC X 136 (i_ci (nI 9999) 126 la st M) := evC ((pm136 X 123).trans rfl) la st M
theorem e136_126 (X : aX) (la : aLs) (st : List aV) (M : aM) : go X 136 126 la st M = kK X 136 114 3 129 0 la st M := evK ((pm136 X 126).trans rfl) la st M
theorem e136_129 (X : aX) (la : aLs) (st : List aV) (M : aM) : go X 136 129 la st M = i_zrt st M := evR ((pm136 X 129).trans rfl) la st M
theorem e136_130 (X : aX) (la : aLs) (st : List aV) (M : aM) : go X 136 130 la st M = kC X 136 (i_ci (nI 0) 131 la st M) := evC ((pm136 X 130).trans rfl) la st M
theorem e136_131 (X : aX) (la : aLs) (st : List aV) (M : aM) : go X 136 131 la st M = i_zrt st M := evR ((pm136 X 131).trans rfl) la st M
theorem c136 (X : aX) (as : List aV) (M : aM) : cl X 136 as M = if cs as ≤ 4 then go X 136 0 (ent 4 as) [] M else none := rfl
theorem pm137 (X : aX) (pc : Nat) : pg X 137 pc = lk pc (tb137 X) := rfl
theorem e137_0 (X : aX) (la : aLs) (st : List aV) (M : aM) : go X 137 0 la st M = kC X 137 (i_lda 0 1 la st M) := evC ((pm137 X 0).trans rfl) la st M
theorem e137_1 (X : aX) (la : aLs) (st : List aV) (M : aM) : go X 137 1 la st M = kC X 137 (i_ldi 1 2 la st M) := evC ((pm137 X 1).trans rfl) la st M
theorem e137_2 (X : aX) (la : aLs) (st : List aV) (M : aM) : go X 137 2 la st M = kK X 137 123 2 5 7 la st M := evK ((pm137 X 2).trans rfl) la st M
theorem e137_5 (X : aX) (la : aLs) (st : List aV) (M : aM) : go X 137 5 la st M = kC X 137 (i_ife 31 8 la st M) := evC ((pm137 X 5).trans rfl) la st M
theorem e137_8 (X : aX) (la : aLs) (st : List aV) (M : aM) : go X 137 8 la st M = kC X 137 (i_lda 0 9 la st M) := evC ((pm137 X 8).trans rfl) la st M
theorem e137_9 (X : aX) (la : aLs) (st : List aV) (M : aM) : go X 137 9 la st M = kC X 137 (i_ldi 1 10 la st M) := evC ((pm137 X 9).trans rfl) la st M
theorem e137_10 (X : aX) (la : aLs) (st : List aV) (M : aM) : go X 137 10 la st M = kC X 137 (i_ldi 2 11 la st M) := evC ((pm137 X 10).trans rfl) la st M
theorem e137_11 (X : aX) (la : aLs) (st : List aV) (M : aM) : go X 137 11 la st M = kC X 137 (i_ldi 3 12 la st M) := evC ((pm137 X 11).trans rfl) la st M
theorem e137_12 (X : aX) (la : aLs) (st : List aV) (M : aM) : go X 137 12 la st M = kK X 137 136 4 15 7 la st M := evK ((pm137 X 12).trans rfl) la st M
theorem e137_15 (X : aX) (la : aLs) (st : List aV) (M : aM) : go X 137 15 la st M = kC X 137 (i_ife 31 18 la st M) := evC ((pm137 X 15).trans rfl) la st M
theorem e137_18 (X : aX) (la : aLs) (st : List aV) (M : aM) : go X 137 18 la st M = kC X 137 (i_lda 0 19 la st M) := evC ((pm137 X 18).trans rfl) la st M
theorem e137_19 (X : aX) (la : aLs) (st : List aV) (M : aM) : go X 137 19 la st M = kC X 137 (i_ldi 1 20 la st M) := evC ((pm137 X 19).trans rfl) la st M
theorem e137_20 (X : aX) (la : aLs) (st : List aV) (M : aM) : go X 137 20 la st M = kC X 137 (i_ldi 2 21 la st M) := evC ((pm137 X 20).trans rfl) la st M
theorem e137_21 (X : aX) (la : aLs) (st : List aV) (M : aM) : go X 137 21 la st M = kK X 137 121 2 24 0 la st M := evK ((pm137 X 21).trans rfl) la st M
theorem e137_24 (X : aX) (la : aLs) (st : List aV) (M : aM) : go X 137 24 la st M = kC X 137 (i_ldi 3 25 la st M) := evC ((pm137 X 24).trans rfl) la st M
theorem e137_25 (X : aX) (la : aLs) (st : List aV) (M : aM) : go X 137 25 la st M = kK X 137 115 3 28 7 la st M := evK ((pm137 X 25).trans rfl) la st M
theorem e137_28 (X : aX) (la : aLs) (st : List aV) (M : aM) : go X 137 28 la st M = kC X 137 (i_go 37 la st M) := evC ((pm137 X 28).trans rfl) la st M
theorem e137_31 (X : aX) (la : aLs) (st : List aV) (M : aM) : go X 137 31 la st M = kC X 137 (i_lda 0 32 la st M) := evC ((pm137 X 31).trans rfl) la st M
theorem e137_32 (X : aX) (la : aLs) (st : List aV) (M : aM) : go X 137 32 la st M = kC X 137 (i_ci (-1000001) 34 la st M) := evC ((pm137 X 32).trans rfl) la st M
theorem e137_34 (X : aX) (la : aLs) (st : List aV) (M : aM) : go X 137 34 la st M = kK X 137 113 2 37 7 la st M := evK ((pm137 X 34).trans rfl) la st M
theorem e137_37 (X : aX) (la : aLs) (st : List aV) (M : aM) : go X 137 37 la st M = i_irt st M := evR ((pm137 X 37).trans rfl) la st M
theorem c137 (X : aX) (as : List aV) (M : aM) : cl X 137 as M = if cs as ≤ 4 then go X 137 0 (ent 4 as) [] M else none := rfl
theorem pm138 (X : aX) (pc : Nat) : pg X 138 pc = lk pc (tb138 X) := rfl
theorem e138_0 (X : aX) (la : aLs) (st : List aV) (M : aM) : go X 138 0 la st M = kC X 138 (i_lda 0 1 la st M) := evC ((pm138 X 0).trans rfl) la st M
theorem e138_1 (X : aX) (la : aLs) (st : List aV) (M : aM) : go X 138 1 la st M = kC X 138 (i_ldi 1 2 la st M) := evC ((pm138 X 1).trans rfl) la st M
theorem e138_2 (X : aX) (la : aLs) (st : List aV) (M : aM) : go X 138 2 la st M = kK X 138 123 2 5 7 la st M := evK ((pm138 X 2).trans rfl) la st M
theorem e138_5 (X : aX) (la : aLs) (st : List aV) (M : aM) : go X 138 5 la st M = kC X 138 (i_ife 8 15 la st M) := evC ((pm138 X 5).trans rfl) la st M
theorem e138_8 (X : aX) (la : aLs) (st : List aV) (M : aM) : go X 138 8 la st M = kC X 138 (i_lda 0 9 la st M) := evC ((pm138 X 8).trans rfl) la st M
theorem e138_9 (X : aX) (la : aLs) (st : List aV) (M : aM) : go X 138 9 la st M = kC X 138 (i_ci (-1000001) 11 la st M) := evC ((pm138 X 9).trans rfl) la st M
theorem e138_11 (X : aX) (la : aLs) (st : List aV) (M : aM) : go X 138 11 la st M = kK X 138 113 2 14 7 la st M := evK ((pm138 X 11).trans rfl) la st M
theorem e138_14 (X : aX) (la : aLs) (st : List aV) (M : aM) : go X 138 14 la st M = i_irt st M := evR ((pm138 X 14).trans rfl) la st M
theorem e138_15 (X : aX) (la : aLs) (st : List aV) (M : aM) : go X 138 15 la st M = kC X 138 (i_ci (nI 0) 16 la st M) := evC ((pm138 X 15).trans rfl) la st M
theorem e138_16 (X : aX) (la : aLs) (st : List aV) (M : aM) : go X 138 16 la st M = kC X 138 (i_sti 2 17 la st M) := evC ((pm138 X 16).trans rfl) la st M
theorem e138_17 (X : aX) (la : aLs) (st : List aV) (M : aM) : go X 138 17 la st M = kC X 138 (i_ci (nI 0) 18 la st M) := evC ((pm138 X 17).trans rfl) la st M
theorem e138_18 (X : aX) (la : aLs) (st : List aV) (M : aM) : go X 138 18 la st M = kC X 138 (i_sti 3 19 la st M) := evC ((pm138 X 18).trans rfl) la st M
theorem e138_19 (X : aX) (la : aLs) (st : List aV) (M : aM) : go X 138 19 la st M = kC X 138 (i_ldi 3 20 la st M) := evC ((pm138 X 19).trans rfl) la st M
theorem e138_20 (X : aX) (la : aLs) (st : List aV) (M : aM) : go X 138 20 la st M = kC X 138 (i_lda 0 21 la st M) := evC ((pm138 X 20).trans rfl) la st M
theorem e138_21 (X : aX) (la : aLs) (st : List aV) (M : aM) : go X 138 21 la st M = kC X 138 (i_get 6 0 24 la st M) := evC ((pm138 X 21).trans rfl) la st M
theorem e138_24 (X : aX) (la : aLs) (st : List aV) (M : aM) : go X 138 24 la st M = kC X 138 (i_ci (nI 1) 25 la st M) := evC ((pm138 X 24).trans rfl) la st M
theorem e138_25 (X : aX) (la : aLs) (st : List aV) (M : aM) : go X 138 25 la st M = kC X 138 (i_ial X 26 la st M) := evC ((pm138 X 25).trans rfl) la st M
theorem e138_26 (X : aX) (la : aLs) (st : List aV) (M : aM) : go X 138 26 la st M = kC X 138 (i_cml 29 55 la st M) := evC ((pm138 X 26).trans rfl) la st M
theorem e138_29 (X : aX) (la : aLs) (st : List aV) (M : aM) : go X 138 29 la st M = kC X 138 (i_ldi 2 30 la st M) := evC ((pm138 X 29).trans rfl) la st M
theorem e138_30 (X : aX) (la : aLs) (st : List aV) (M : aM) : go X 138 30 la st M = kC X 138 (i_lda 0 31 la st M) := evC ((pm138 X 30).trans rfl) la st M
theorem e138_31 (X : aX) (la : aLs) (st : List aV) (M : aM) : go X 138 31 la st M = kC X 138 (i_ldi 3 32 la st M) := evC ((pm138 X 31).trans rfl) la st M
theorem e138_32 (X : aX) (la : aLs) (st : List aV) (M : aM) : go X 138 32 la st M = kC X 138 (i_ci (nI 2) 33 la st M) := evC ((pm138 X 32).trans rfl) la st M
theorem e138_33 (X : aX) (la : aLs) (st : List aV) (M : aM) : go X 138 33 la st M = kK X 138 122 3 36 7 la st M := evK ((pm138 X 33).trans rfl) la st M
theorem e138_36 (X : aX) (la : aLs) (st : List aV) (M : aM) : go X 138 36 la st M = kC X 138 (i_ldi 1 37 la st M) := evC ((pm138 X 36).trans rfl) la st M
theorem e138_37 (X : aX) (la : aLs) (st : List aV) (M : aM) : go X 138 37 la st M = kC X 138 (i_cme 40 46 la st M) := evC ((pm138 X 37).trans rfl) la st M
theorem e138_40 (X : aX) (la : aLs) (st : List aV) (M : aM) : go X 138 40 la st M = kC X 138 (i_ci (nI 1) 41 la st M) := evC ((pm138 X 40).trans rfl) la st M
theorem e138_41 (X : aX) (la : aLs) (st : List aV) (M : aM) : go X 138 41 la st M = kC X 138 (i_ldi 3 42 la st M) := evC ((pm138 X 41).trans rfl) la st M
theorem e138_42 (X : aX) (la : aLs) (st : List aV) (M : aM) : go X 138 42 la st M = kC X 138 (i_bin (fun x y => x <<< (y &&& 31)) 43 la st M) := evC ((pm138 X 42).trans rfl) la st M
theorem e138_43 (X : aX) (la : aLs) (st : List aV) (M : aM) : go X 138 43 la st M = kC X 138 (i_go 47 la st M) := evC ((pm138 X 43).trans rfl) la st M
theorem e138_46 (X : aX) (la : aLs) (st : List aV) (M : aM) : go X 138 46 la st M = kC X 138 (i_ci (nI 0) 47 la st M) := evC ((pm138 X 46).trans rfl) la st M
theorem e138_47 (X : aX) (la : aLs) (st : List aV) (M : aM) : go X 138 47 la st M = kC X 138 (i_bin (fun x y => x ||| y) 48 la st M) := evC ((pm138 X 47).trans rfl) la st M
theorem e138_48 (X : aX) (la : aLs) (st : List aV) (M : aM) : go X 138 48 la st M = kC X 138 (i_sti 2 49 la st M) := evC ((pm138 X 48).trans rfl) la st M
theorem e138_49 (X : aX) (la : aLs) (st : List aV) (M : aM) : go X 138 49 la st M = kC X 138 (i_inc 3 (nI 1) 52 la st M) := evC ((pm138 X 49).trans rfl) la st M
theorem e138_52 (X : aX) (la : aLs) (st : List aV) (M : aM) : go X 138 52 la st M = kC X 138 (i_go 19 la st M) := evC ((pm138 X 52).trans rfl) la st M
theorem e138_55 (X : aX) (la : aLs) (st : List aV) (M : aM) : go X 138 55 la st M = kC X 138 (i_ldi 2 56 la st M) := evC ((pm138 X 55).trans rfl) la st M
theorem e138_56 (X : aX) (la : aLs) (st : List aV) (M : aM) : go X 138 56 la st M = i_irt st M := evR ((pm138 X 56).trans rfl) la st M
theorem c138 (X : aX) (as : List aV) (M : aM) : cl X 138 as M = if cs as ≤ 4 then go X 138 0 (ent 4 as) [] M else none := rfl
theorem pm139 (X : aX) (pc : Nat) : pg X 139 pc = lk pc (tb139 X) := rfl
theorem e139_0 (X : aX) (la : aLs) (st : List aV) (M : aM) : go X 139 0 la st M = kC X 139 (i_lda 0 1 la st M) := evC ((pm139 X 0).trans rfl) la st M
theorem e139_1 (X : aX) (la : aLs) (st : List aV) (M : aM) : go X 139 1 la st M = kC X 139 (i_get 6 0 4 la st M) := evC ((pm139 X 1).trans rfl) la st M
theorem e139_4 (X : aX) (la : aLs) (st : List aV) (M : aM) : go X 139 4 la st M = kC X 139 (i_ldi 1 5 la st M) := evC ((pm139 X 4).trans rfl) la st M
theorem e139_5 (X : aX) (la : aLs) (st : List aV) (M : aM) : go X 139 5 la st M = kC X 139 (i_ci (nI 7) 7 la st M) := evC ((pm139 X 5).trans rfl) la st M
theorem e139_7 (X : aX) (la : aLs) (st : List aV) (M : aM) : go X 139 7 la st M = kK X 139 121 2 10 0 la st M := evK ((pm139 X 7).trans rfl) la st M
theorem e139_10 (X : aX) (la : aLs) (st : List aV) (M : aM) : go X 139 10 la st M = kC X 139 (i_ci (nI 99) 12 la st M) := evC ((pm139 X 10).trans rfl) la st M
theorem e139_12 (X : aX) (la : aLs) (st : List aV) (M : aM) : go X 139 12 la st M = kC X 139 (i_lda 0 13 la st M) := evC ((pm139 X 12).trans rfl) la st M
theorem e139_13 (X : aX) (la : aLs) (st : List aV) (M : aM) : go X 139 13 la st M = kC X 139 (i_ldi 1 14 la st M) := evC ((pm139 X 13).trans rfl) la st M
theorem e139_14 (X : aX) (la : aLs) (st : List aV) (M : aM) : go X 139 14 la st M = kK X 139 130 2 17 7 la st M := evK ((pm139 X 14).trans rfl) la st M
theorem e139_17 (X : aX) (la : aLs) (st : List aV) (M : aM) : go X 139 17 la st M = kC X 139 (i_min 20 la st M) := evC ((pm139 X 17).trans rfl) la st M
theorem e139_20 (X : aX) (la : aLs) (st : List aV) (M : aM) : go X 139 20 la st M = kC X 139 (i_ias 21 la st M) := evC ((pm139 X 20).trans rfl) la st M
theorem e139_21 (X : aX) (la : aLs) (st : List aV) (M : aM) : go X 139 21 la st M = kC X 139 (i_lda 0 22 la st M) := evC ((pm139 X 21).trans rfl) la st M
theorem e139_22 (X : aX) (la : aLs) (st : List aV) (M : aM) : go X 139 22 la st M = kC X 139 (i_get 6 0 25 la st M) := evC ((pm139 X 22).trans rfl) la st M
theorem e139_25 (X : aX) (la : aLs) (st : List aV) (M : aM) : go X 139 25 la st M = kC X 139 (i_ldi 1 26 la st M) := evC ((pm139 X 25).trans rfl) la st M
theorem e139_26 (X : aX) (la : aLs) (st : List aV) (M : aM) : go X 139 26 la st M = kC X 139 (i_ci (nI 8) 28 la st M) := evC ((pm139 X 26).trans rfl) la st M
theorem e139_28 (X : aX) (la : aLs) (st : List aV) (M : aM) : go X 139 28 la st M = kK X 139 121 2 31 0 la st M := evK ((pm139 X 28).trans rfl) la st M
theorem e139_31 (X : aX) (la : aLs) (st : List aV) (M : aM) : go X 139 31 la st M = kC X 139 (i_ci (nI 0) 32 la st M) := evC ((pm139 X 31).trans rfl) la st M
theorem e139_32 (X : aX) (la : aLs) (st : List aV) (M : aM) : go X 139 32 la st M = kC X 139 (i_ias 33 la st M) := evC ((pm139 X 32).trans rfl) la st M
theorem e139_33 (X : aX) (la : aLs) (st : List aV) (M : aM) : go X 139 33 la st M = kC X 139 (i_lda 0 34 la st M) := evC ((pm139 X 33).trans rfl) la st M
theorem e139_34 (X : aX) (la : aLs) (st : List aV) (M : aM) : go X 139 34 la st M = kC X 139 (i_ldi 1 35 la st M) := evC ((pm139 X 34).trans rfl) la st M
theorem e139_35 (X : aX) (la : aLs) (st : List aV) (M : aM) : go X 139 35 la st M = kC X 139 (i_ci (nI 7) 37 la st M) := evC ((pm139 X 35).trans rfl) la st M
theorem e139_37 (X : aX) (la : aLs) (st : List aV) (M : aM) : go X 139 37 la st M = kK X 139 122 3 40 7 la st M := evK ((pm139 X 37).trans rfl) la st M
theorem e139_40 (X : aX) (la : aLs) (st : List aV) (M : aM) : go X 139 40 la st M = i_irt st M := evR ((pm139 X 40).trans rfl) la st M
theorem c139 (X : aX) (as : List aV) (M : aM) : cl X 139 as M = if cs as ≤ 2 then go X 139 0 (ent 2 as) [] M else none := rfl
theorem pm140 (X : aX) (pc : Nat) : pg X 140 pc = lk pc (tb140 X) := rfl
theorem e140_0 (X : aX) (la : aLs) (st : List aV) (M : aM) : go X 140 0 la st M = kC X 140 (i_lda 0 1 la st M) := evC ((pm140 X 0).trans rfl) la st M
theorem e140_1 (X : aX) (la : aLs) (st : List aV) (M : aM) : go X 140 1 la st M = kC X 140 (i_ldi 1 2 la st M) := evC ((pm140 X 1).trans rfl) la st M
theorem e140_2 (X : aX) (la : aLs) (st : List aV) (M : aM) : go X 140 2 la st M = kK X 140 123 2 5 7 la st M := evK ((pm140 X 2).trans rfl) la st M
theorem e140_5 (X : aX) (la : aLs) (st : List aV) (M : aM) : go X 140 5 la st M = kC X 140 (i_ife 8 15 la st M) := evC ((pm140 X 5).trans rfl) la st M
theorem e140_8 (X : aX) (la : aLs) (st : List aV) (M : aM) : go X 140 8 la st M = kC X 140 (i_lda 0 9 la st M) := evC ((pm140 X 8).trans rfl) la st M
theorem e140_9 (X : aX) (la : aLs) (st : List aV) (M : aM) : go X 140 9 la st M = kC X 140 (i_ci (-1000001) 11 la st M) := evC ((pm140 X 9).trans rfl) la st M
theorem e140_11 (X : aX) (la : aLs) (st : List aV) (M : aM) : go X 140 11 la st M = kK X 140 113 2 14 7 la st M := evK ((pm140 X 11).trans rfl) la st M
theorem e140_14 (X : aX) (la : aLs) (st : List aV) (M : aM) : go X 140 14 la st M = i_irt st M := evR ((pm140 X 14).trans rfl) la st M
theorem e140_15 (X : aX) (la : aLs) (st : List aV) (M : aM) : go X 140 15 la st M = kC X 140 (i_lda 0 16 la st M) := evC ((pm140 X 15).trans rfl) la st M
theorem e140_16 (X : aX) (la : aLs) (st : List aV) (M : aM) : go X 140 16 la st M = kC X 140 (i_ldi 1 17 la st M) := evC ((pm140 X 16).trans rfl) la st M
theorem e140_17 (X : aX) (la : aLs) (st : List aV) (M : aM) : go X 140 17 la st M = kK X 140 127 2 20 7 la st M := evK ((pm140 X 17).trans rfl) la st M
theorem e140_20 (X : aX) (la : aLs) (st : List aV) (M : aM) : go X 140 20 la st M = kC X 140 (i_ife 32 23 la st M) := evC ((pm140 X 20).trans rfl) la st M
theorem e140_23 (X : aX) (la : aLs) (st : List aV) (M : aM) : go X 140 23 la st M = kC X 140 (i_lda 0 24 la st M) := evC ((pm140 X 23).trans rfl) la st M
theorem e140_24 (X : aX) (la : aLs) (st : List aV) (M : aM) : go X 140 24 la st M = kC X 140 (i_ci (-1000005) 26 la st M) := evC ((pm140 X 24).trans rfl) la st M
theorem e140_26 (X : aX) (la : aLs) (st : List aV) (M : aM) : go X 140 26 la st M = kK X 140 113 2 29 7 la st M := evK ((pm140 X 26).trans rfl) la st M
theorem e140_29 (X : aX) (la : aLs) (st : List aV) (M : aM) : go X 140 29 la st M = kC X 140 (i_go 37 la st M) := evC ((pm140 X 29).trans rfl) la st M
theorem e140_32 (X : aX) (la : aLs) (st : List aV) (M : aM) : go X 140 32 la st M = kC X 140 (i_lda 0 33 la st M) := evC ((pm140 X 32).trans rfl) la st M
theorem e140_33 (X : aX) (la : aLs) (st : List aV) (M : aM) : go X 140 33 la st M = kC X 140 (i_ldi 1 34 la st M) := evC ((pm140 X 33).trans rfl) la st M
theorem e140_34 (X : aX) (la : aLs) (st : List aV) (M : aM) : go X 140 34 la st M = kK X 140 139 2 37 7 la st M := evK ((pm140 X 34).trans rfl) la st M
theorem e140_37 (X : aX) (la : aLs) (st : List aV) (M : aM) : go X 140 37 la st M = i_irt st M := evR ((pm140 X 37).trans rfl) la st M
theorem c140 (X : aX) (as : List aV) (M : aM) : cl X 140 as M = if cs as ≤ 2 then go X 140 0 (ent 2 as) [] M else none := rfl
theorem pm141 (X : aX) (pc : Nat) : pg X 141 pc = lk pc (tb141 X) := rfl
theorem e141_0 (X : aX) (la : aLs) (st : List aV) (M : aM) : go X 141 0 la st M = kC X 141 (i_lda 0 1 la st M) := evC ((pm141 X 0).trans rfl) la st M
theorem e141_1 (X : aX) (la : aLs) (st : List aV) (M : aM) : go X 141 1 la st M = kC X 141 (i_get 6 0 4 la st M) := evC ((pm141 X 1).trans rfl) la st M
theorem e141_4 (X : aX) (la : aLs) (st : List aV) (M : aM) : go X 141 4 la st M = kC X 141 (i_ldi 1 5 la st M) := evC ((pm141 X 4).trans rfl) la st M
theorem e141_5 (X : aX) (la : aLs) (st : List aV) (M : aM) : go X 141 5 la st M = kC X 141 (i_ldi 3 6 la st M) := evC ((pm141 X 5).trans rfl) la st M
theorem e141_6 (X : aX) (la : aLs) (st : List aV) (M : aM) : go X 141 6 la st M = kC X 141 (i_lda 0 7 la st M) := evC ((pm141 X 6).trans rfl) la st M
theorem e141_7 (X : aX) (la : aLs) (st : List aV) (M : aM) : go X 141 7 la st M = kC X 141 (i_get 6 0 10 la st M) := evC ((pm141 X 7).trans rfl) la st M
theorem e141_10 (X : aX) (la : aLs) (st : List aV) (M : aM) : go X 141 10 la st M = kC X 141 (i_ldi 1 11 la st M) := evC ((pm141 X 10).trans rfl) la st M
theorem e141_11 (X : aX) (la : aLs) (st : List aV) (M : aM) : go X 141 11 la st M = kC X 141 (i_ial X 12 la st M) := evC ((pm141 X 11).trans rfl) la st M
theorem e141_12 (X : aX) (la : aLs) (st : List aV) (M : aM) : go X 141 12 la st M = kC X 141 (i_ldi 2 13 la st M) := evC ((pm141 X 12).trans rfl) la st M
theorem e141_13 (X : aX) (la : aLs) (st : List aV) (M : aM) : go X 141 13 la st M = kC X 141 (i_bin (fun x y => x + y) 14 la st M) := evC ((pm141 X 13).trans rfl) la st M
theorem e141_14 (X : aX) (la : aLs) (st : List aV) (M : aM) : go X 141 14 la st M = kC X 141 (i_min 17 la st M) := evC ((pm141 X 14).trans rfl) la st M
theorem e141_17 (X : aX) (la : aLs) (st : List aV) (M : aM) : go X 141 17 la st M = kC X 141 (i_ias 18 la st M) := evC ((pm141 X 17).trans rfl) la st M
theorem e141_18 (X : aX) (la : aLs) (st : List aV) (M : aM) : go X 141 18 la st M = i_vrt st M := evR ((pm141 X 18).trans rfl) la st M
theorem c141 (X : aX) (as : List aV) (M : aM) : cl X 141 as M = if cs as ≤ 4 then go X 141 0 (ent 4 as) [] M else none := rfl
theorem pm142 (X : aX) (pc : Nat) : pg X 142 pc = lk pc (tb142 X) := rfl
theorem e142_0 (X : aX) (la : aLs) (st : List aV) (M : aM) : go X 142 0 la st M = kC X 142 (i_ci (nI 0) 1 la st M) := evC ((pm142 X 0).trans rfl) la st M
theorem e142_1 (X : aX) (la : aLs) (st : List aV) (M : aM) : go X 142 1 la st M = kC X 142 (i_sti 1 2 la st M) := evC ((pm142 X 1).trans rfl) la st M
theorem e142_2 (X : aX) (la : aLs) (st : List aV) (M : aM) : go X 142 2 la st M = kC X 142 (i_ci (nI 0) 3 la st M) := evC ((pm142 X 2).trans rfl) la st M
theorem e142_3 (X : aX) (la : aLs) (st : List aV) (M : aM) : go X 142 3 la st M = kC X 142 (i_sti 2 4 la st M) := evC ((pm142 X 3).trans rfl) la st M
theorem e142_4 (X : aX) (la : aLs) (st : List aV) (M : aM) : go X 142 4 la st M = kC X 142 (i_ldi 2 5 la st M) := evC ((pm142 X 4).trans rfl) la st M
theorem e142_5 (X : aX) (la : aLs) (st : List aV) (M : aM) : go X 142 5 la st M = kC X 142 (i_lda 0 6 la st M) := evC ((pm142 X 5).trans rfl) la st M
theorem e142_6 (X : aX) (la : aLs) (st : List aV) (M : aM) : go X 142 6 la st M = kC X 142 (i_get 6 0 9 la st M) := evC ((pm142 X 6).trans rfl) la st M
theorem e142_9 (X : aX) (la : aLs) (st : List aV) (M : aM) : go X 142 9 la st M = kC X 142 (i_ci (nI 1) 10 la st M) := evC ((pm142 X 9).trans rfl) la st M
theorem e142_10 (X : aX) (la : aLs) (st : List aV) (M : aM) : go X 142 10 la st M = kC X 142 (i_ial X 11 la st M) := evC ((pm142 X 10).trans rfl) la st M
theorem e142_11 (X : aX) (la : aLs) (st : List aV) (M : aM) : go X 142 11 la st M = kC X 142 (i_cml 14 63 la st M) := evC ((pm142 X 11).trans rfl) la st M
theorem e142_14 (X : aX) (la : aLs) (st : List aV) (M : aM) : go X 142 14 la st M = kC X 142 (i_lda 0 15 la st M) := evC ((pm142 X 14).trans rfl) la st M
theorem e142_15 (X : aX) (la : aLs) (st : List aV) (M : aM) : go X 142 15 la st M = kC X 142 (i_ldi 2 16 la st M) := evC ((pm142 X 15).trans rfl) la st M
theorem e142_16 (X : aX) (la : aLs) (st : List aV) (M : aM) : go X 142 16 la st M = kK X 142 128 2 19 7 la st M := evK ((pm142 X 16).trans rfl) la st M
theorem e142_19 (X : aX) (la : aLs) (st : List aV) (M : aM) : go X 142 19 la st M = kC X 142 (i_ife 57 22 la st M) := evC ((pm142 X 19).trans rfl) la st M
theorem e142_22 (X : aX) (la : aLs) (st : List aV) (M : aM) : go X 142 22 la st M = kC X 142 (i_lda 0 23 la st M) := evC ((pm142 X 22).trans rfl) la st M
theorem e142_23 (X : aX) (la : aLs) (st : List aV) (M : aM) : go X 142 23 la st M = kC X 142 (i_get 6 0 26 la st M) := evC ((pm142 X 23).trans rfl) la st M
theorem e142_26 (X : aX) (la : aLs) (st : List aV) (M : aM) : go X 142 26 la st M = kC X 142 (i_ldi 2 27 la st M) := evC ((pm142 X 26).trans rfl) la st M
theorem e142_27 (X : aX) (la : aLs) (st : List aV) (M : aM) : go X 142 27 la st M = kC X 142 (i_ci (nI 7) 29 la st M) := evC ((pm142 X 27).trans rfl) la st M
theorem e142_29 (X : aX) (la : aLs) (st : List aV) (M : aM) : go X 142 29 la st M = kK X 142 121 2 32 0 la st M := evK ((pm142 X 29).trans rfl) la st M
theorem e142_32 (X : aX) (la : aLs) (st : List aV) (M : aM) : go X 142 32 la st M = kC X 142 (i_dp2 33 la st M) := evC ((pm142 X 32).trans rfl) la st M
theorem e142_33 (X : aX) (la : aLs) (st : List aV) (M : aM) : go X 142 33 la st M = kC X 142 (i_ial X 34 la st M) := evC ((pm142 X 33).trans rfl) la st M
theorem e142_34 (X : aX) (la : aLs) (st : List aV) (M : aM) : go X 142 34 la st M = kC X 142 (i_ci (nI 1) 35 la st M) := evC ((pm142 X 34).trans rfl) la st M
theorem e142_35 (X : aX) (la : aLs) (st : List aV) (M : aM) : go X 142 35 la st M = kC X 142 (i_bin (fun x y => x - y) 36 la st M) := evC ((pm142 X 35).trans rfl) la st M
theorem e142_36 (X : aX) (la : aLs) (st : List aV) (M : aM) : go X 142 36 la st M = kC X 142 (i_ias 37 la st M) := evC ((pm142 X 36).trans rfl) la st M
theorem e142_37 (X : aX) (la : aLs) (st : List aV) (M : aM) : go X 142 37 la st M = kC X 142 (i_ldi 1 38 la st M) := evC ((pm142 X 37).trans rfl) la st M
theorem e142_38 (X : aX) (la : aLs) (st : List aV) (M : aM) : go X 142 38 la st M = kC X 142 (i_lda 0 39 la st M) := evC ((pm142 X 38).trans rfl) la st M
theorem e142_39 (X : aX) (la : aLs) (st : List aV) (M : aM) : go X 142 39 la st M = kC X 142 (i_ldi 2 40 la st M) := evC ((pm142 X 39).trans rfl) la st M
theorem e142_40 (X : aX) (la : aLs) (st : List aV) (M : aM) : go X 142 40 la st M = kC X 142 (i_ci (nI 7) 42 la st M) := evC ((pm142 X 40).trans rfl) la st M
theorem e142_42 (X : aX) (la : aLs) (st : List aV) (M : aM) : go X 142 42 la st M = kK X 142 122 3 45 7 la st M := evK ((pm142 X 42).trans rfl) la st M
theorem e142_45 (X : aX) (la : aLs) (st : List aV) (M : aM) : go X 142 45 la st M = kC X 142 (i_ife 48 54 la st M) := evC ((pm142 X 45).trans rfl) la st M
theorem e142_48 (X : aX) (la : aLs) (st : List aV) (M : aM) : go X 142 48 la st M = kC X 142 (i_ci (nI 1) 49 la st M) := evC ((pm142 X 48).trans rfl) la st M
theorem e142_49 (X : aX) (la : aLs) (st : List aV) (M : aM) : go X 142 49 la st M = kC X 142 (i_ldi 2 50 la st M) := evC ((pm142 X 49).trans rfl) la st M
theorem e142_50 (X : aX) (la : aLs) (st : List aV) (M : aM) : go X 142 50 la st M = kC X 142 (i_bin (fun x y => x <<< (y &&& 31)) 51 la st M) := evC ((pm142 X 50).trans rfl) la st M
theorem e142_51 (X : aX) (la : aLs) (st : List aV) (M : aM) : go X 142 51 la st M = kC X 142 (i_go 55 la st M) := evC ((pm142 X 51).trans rfl) la st M
theorem e142_54 (X : aX) (la : aLs) (st : List aV) (M : aM) : go X 142 54 la st M = kC X 142 (i_ci (nI 0) 55 la st M) := evC ((pm142 X 54).trans rfl) la st M
theorem e142_55 (X : aX) (la : aLs) (st : List aV) (M : aM) : go X 142 55 la st M = kC X 142 (i_bin (fun x y => x ||| y) 56 la st M) := evC ((pm142 X 55).trans rfl) la st M
theorem e142_56 (X : aX) (la : aLs) (st : List aV) (M : aM) : go X 142 56 la st M = kC X 142 (i_sti 1 57 la st M) := evC ((pm142 X 56).trans rfl) la st M
theorem e142_57 (X : aX) (la : aLs) (st : List aV) (M : aM) : go X 142 57 la st M = kC X 142 (i_inc 2 (nI 1) 60 la st M) := evC ((pm142 X 57).trans rfl) la st M
theorem e142_60 (X : aX) (la : aLs) (st : List aV) (M : aM) : go X 142 60 la st M = kC X 142 (i_go 4 la st M) := evC ((pm142 X 60).trans rfl) la st M
theorem e142_63 (X : aX) (la : aLs) (st : List aV) (M : aM) : go X 142 63 la st M = kC X 142 (i_ldi 1 64 la st M) := evC ((pm142 X 63).trans rfl) la st M
theorem e142_64 (X : aX) (la : aLs) (st : List aV) (M : aM) : go X 142 64 la st M = i_irt st M := evR ((pm142 X 64).trans rfl) la st M
theorem c142 (X : aX) (as : List aV) (M : aM) : cl X 142 as M = if cs as ≤ 3 then go X 142 0 (ent 3 as) [] M else none := rfl
theorem pm143 (X : aX) (pc : Nat) : pg X 143 pc = lk pc (tb143 X) := rfl
theorem e143_0 (X : aX) (la : aLs) (st : List aV) (M : aM) : go X 143 0 la st M = kC X 143 (i_lda 0 1 la st M) := evC ((pm143 X 0).trans rfl) la st M
theorem e143_1 (X : aX) (la : aLs) (st : List aV) (M : aM) : go X 143 1 la st M = kC X 143 (i_ldi 1 2 la st M) := evC ((pm143 X 1).trans rfl) la st M
theorem e143_2 (X : aX) (la : aLs) (st : List aV) (M : aM) : go X 143 2 la st M = kC X 143 (i_ci (nI 2) 3 la st M) := evC ((pm143 X 2).trans rfl) la st M
theorem e143_3 (X : aX) (la : aLs) (st : List aV) (M : aM) : go X 143 3 la st M = kK X 143 122 3 6 7 la st M := evK ((pm143 X 3).trans rfl) la st M
theorem e143_6 (X : aX) (la : aLs) (st : List aV) (M : aM) : go X 143 6 la st M = kC X 143 (i_sti 3 7 la st M) := evC ((pm143 X 6).trans rfl) la st M
theorem e143_7 (X : aX) (la : aLs) (st : List aV) (M : aM) : go X 143 7 la st M = kC X 143 (i_lda 0 8 la st M) := evC ((pm143 X 7).trans rfl) la st M
theorem e143_8 (X : aX) (la : aLs) (st : List aV) (M : aM) : go X 143 8 la st M = kC X 143 (i_ldi 1 9 la st M) := evC ((pm143 X 8).trans rfl) la st M
theorem e143_9 (X : aX) (la : aLs) (st : List aV) (M : aM) : go X 143 9 la st M = kC X 143 (i_ci (nI 8) 11 la st M) := evC ((pm143 X 9).trans rfl) la st M
theorem e143_11 (X : aX) (la : aLs) (st : List aV) (M : aM) : go X 143 11 la st M = kK X 143 122 3 14 7 la st M := evK ((pm143 X 11).trans rfl) la st M
theorem e143_14 (X : aX) (la : aLs) (st : List aV) (M : aM) : go X 143 14 la st M = kC X 143 (i_ifg 17 51 la st M) := evC ((pm143 X 14).trans rfl) la st M
theorem e143_17 (X : aX) (la : aLs) (st : List aV) (M : aM) : go X 143 17 la st M = kC X 143 (i_lda 0 18 la st M) := evC ((pm143 X 17).trans rfl) la st M
theorem e143_18 (X : aX) (la : aLs) (st : List aV) (M : aM) : go X 143 18 la st M = kC X 143 (i_get 6 0 21 la st M) := evC ((pm143 X 18).trans rfl) la st M
theorem e143_21 (X : aX) (la : aLs) (st : List aV) (M : aM) : go X 143 21 la st M = kC X 143 (i_ldi 1 22 la st M) := evC ((pm143 X 21).trans rfl) la st M
theorem e143_22 (X : aX) (la : aLs) (st : List aV) (M : aM) : go X 143 22 la st M = kC X 143 (i_ci (nI 8) 24 la st M) := evC ((pm143 X 22).trans rfl) la st M
theorem e143_24 (X : aX) (la : aLs) (st : List aV) (M : aM) : go X 143 24 la st M = kK X 143 121 2 27 0 la st M := evK ((pm143 X 24).trans rfl) la st M
theorem e143_27 (X : aX) (la : aLs) (st : List aV) (M : aM) : go X 143 27 la st M = kC X 143 (i_dp2 28 la st M) := evC ((pm143 X 27).trans rfl) la st M
theorem e143_28 (X : aX) (la : aLs) (st : List aV) (M : aM) : go X 143 28 la st M = kC X 143 (i_ial X 29 la st M) := evC ((pm143 X 28).trans rfl) la st M
theorem e143_29 (X : aX) (la : aLs) (st : List aV) (M : aM) : go X 143 29 la st M = kC X 143 (i_ci (nI 1) 30 la st M) := evC ((pm143 X 29).trans rfl) la st M
theorem e143_30 (X : aX) (la : aLs) (st : List aV) (M : aM) : go X 143 30 la st M = kC X 143 (i_bin (fun x y => x - y) 31 la st M) := evC ((pm143 X 30).trans rfl) la st M
theorem e143_31 (X : aX) (la : aLs) (st : List aV) (M : aM) : go X 143 31 la st M = kC X 143 (i_ias 32 la st M) := evC ((pm143 X 31).trans rfl) la st M
theorem e143_32 (X : aX) (la : aLs) (st : List aV) (M : aM) : go X 143 32 la st M = kC X 143 (i_lda 0 33 la st M) := evC ((pm143 X 32).trans rfl) la st M
theorem e143_33 (X : aX) (la : aLs) (st : List aV) (M : aM) : go X 143 33 la st M = kC X 143 (i_ldi 1 34 la st M) := evC ((pm143 X 33).trans rfl) la st M
theorem e143_34 (X : aX) (la : aLs) (st : List aV) (M : aM) : go X 143 34 la st M = kC X 143 (i_ci (nI 8) 36 la st M) := evC ((pm143 X 34).trans rfl) la st M
theorem e143_36 (X : aX) (la : aLs) (st : List aV) (M : aM) : go X 143 36 la st M = kK X 143 122 3 39 7 la st M := evK ((pm143 X 36).trans rfl) la st M
theorem e143_39 (X : aX) (la : aLs) (st : List aV) (M : aM) : go X 143 39 la st M = kC X 143 (i_ife 42 116 la st M) := evC ((pm143 X 39).trans rfl) la st M
theorem e143_42 (X : aX) (la : aLs) (st : List aV) (M : aM) : go X 143 42 la st M = kC X 143 (i_lda 0 43 la st M) := evC ((pm143 X 42).trans rfl) la st M
theorem e143_43 (X : aX) (la : aLs) (st : List aV) (M : aM) : go X 143 43 la st M = kC X 143 (i_ldi 1 44 la st M) := evC ((pm143 X 43).trans rfl) la st M
theorem e143_44 (X : aX) (la : aLs) (st : List aV) (M : aM) : go X 143 44 la st M = kK X 143 139 2 47 7 la st M := evK ((pm143 X 44).trans rfl) la st M
theorem e143_47 (X : aX) (la : aLs) (st : List aV) (M : aM) : go X 143 47 la st M = kC X 143 (i_pop 48 la st M) := evC ((pm143 X 47).trans rfl) la st M
theorem e143_48 (X : aX) (la : aLs) (st : List aV) (M : aM) : go X 143 48 la st M = kC X 143 (i_go 116 la st M) := evC ((pm143 X 48).trans rfl) la st M
theorem e143_51 (X : aX) (la : aLs) (st : List aV) (M : aM) : go X 143 51 la st M = kC X 143 (i_ldi 3 52 la st M) := evC ((pm143 X 51).trans rfl) la st M
theorem e143_52 (X : aX) (la : aLs) (st : List aV) (M : aM) : go X 143 52 la st M = kC X 143 (i_ifl 88 55 la st M) := evC ((pm143 X 52).trans rfl) la st M
theorem e143_55 (X : aX) (la : aLs) (st : List aV) (M : aM) : go X 143 55 la st M = kC X 143 (i_ldi 2 56 la st M) := evC ((pm143 X 55).trans rfl) la st M
theorem e143_56 (X : aX) (la : aLs) (st : List aV) (M : aM) : go X 143 56 la st M = kC X 143 (i_ldi 3 57 la st M) := evC ((pm143 X 56).trans rfl) la st M
theorem e143_57 (X : aX) (la : aLs) (st : List aV) (M : aM) : go X 143 57 la st M = kC X 143 (i_bin (fun x y => x >>> (y &&& 31)) 58 la st M) := evC ((pm143 X 57).trans rfl) la st M
theorem e143_58 (X : aX) (la : aLs) (st : List aV) (M : aM) : go X 143 58 la st M = kC X 143 (i_ci (nI 1) 59 la st M) := evC ((pm143 X 58).trans rfl) la st M
theorem e143_59 (X : aX) (la : aLs) (st : List aV) (M : aM) : go X 143 59 la st M = kC X 143 (i_bin (fun x y => x &&& y) 60 la st M) := evC ((pm143 X 59).trans rfl) la st M
theorem e143_60 (X : aX) (la : aLs) (st : List aV) (M : aM) : go X 143 60 la st M = kC X 143 (i_ci (nI 1) 61 la st M) := evC ((pm143 X 60).trans rfl) la st M
theorem e143_61 (X : aX) (la : aLs) (st : List aV) (M : aM) : go X 143 61 la st M = kC X 143 (i_cme 64 88 la st M) := evC ((pm143 X 61).trans rfl) la st M
theorem e143_64 (X : aX) (la : aLs) (st : List aV) (M : aM) : go X 143 64 la st M = kC X 143 (i_lda 0 65 la st M) := evC ((pm143 X 64).trans rfl) la st M
theorem e143_65 (X : aX) (la : aLs) (st : List aV) (M : aM) : go X 143 65 la st M = kC X 143 (i_get 6 0 68 la st M) := evC ((pm143 X 65).trans rfl) la st M
theorem e143_68 (X : aX) (la : aLs) (st : List aV) (M : aM) : go X 143 68 la st M = kC X 143 (i_ldi 1 69 la st M) := evC ((pm143 X 68).trans rfl) la st M
theorem e143_69 (X : aX) (la : aLs) (st : List aV) (M : aM) : go X 143 69 la st M = kC X 143 (i_ci (nI 8) 71 la st M) := evC ((pm143 X 69).trans rfl) la st M
theorem e143_71 (X : aX) (la : aLs) (st : List aV) (M : aM) : go X 143 71 la st M = kK X 143 121 2 74 0 la st M := evK ((pm143 X 71).trans rfl) la st M
theorem e143_74 (X : aX) (la : aLs) (st : List aV) (M : aM) : go X 143 74 la st M = kC X 143 (i_ci (nI 99) 76 la st M) := evC ((pm143 X 74).trans rfl) la st M
theorem e143_76 (X : aX) (la : aLs) (st : List aV) (M : aM) : go X 143 76 la st M = kC X 143 (i_lda 0 77 la st M) := evC ((pm143 X 76).trans rfl) la st M
theorem e143_77 (X : aX) (la : aLs) (st : List aV) (M : aM) : go X 143 77 la st M = kC X 143 (i_ldi 1 78 la st M) := evC ((pm143 X 77).trans rfl) la st M
theorem e143_78 (X : aX) (la : aLs) (st : List aV) (M : aM) : go X 143 78 la st M = kK X 143 129 2 81 7 la st M := evK ((pm143 X 78).trans rfl) la st M
theorem e143_81 (X : aX) (la : aLs) (st : List aV) (M : aM) : go X 143 81 la st M = kC X 143 (i_min 84 la st M) := evC ((pm143 X 81).trans rfl) la st M
theorem e143_84 (X : aX) (la : aLs) (st : List aV) (M : aM) : go X 143 84 la st M = kC X 143 (i_ias 85 la st M) := evC ((pm143 X 84).trans rfl) la st M
theorem e143_85 (X : aX) (la : aLs) (st : List aV) (M : aM) : go X 143 85 la st M = kC X 143 (i_go 116 la st M) := evC ((pm143 X 85).trans rfl) la st M
theorem e143_88 (X : aX) (la : aLs) (st : List aV) (M : aM) : go X 143 88 la st M = kC X 143 (i_ldi 3 89 la st M) := evC ((pm143 X 88).trans rfl) la st M
theorem e143_89 (X : aX) (la : aLs) (st : List aV) (M : aM) : go X 143 89 la st M = kC X 143 (i_ifl 92 116 la st M) := evC ((pm143 X 89).trans rfl) la st M
theorem e143_92 (X : aX) (la : aLs) (st : List aV) (M : aM) : go X 143 92 la st M = kC X 143 (i_lda 0 93 la st M) := evC ((pm143 X 92).trans rfl) la st M
theorem e143_93 (X : aX) (la : aLs) (st : List aV) (M : aM) : go X 143 93 la st M = kC X 143 (i_get 6 0 96 la st M) := evC ((pm143 X 93).trans rfl) la st M
theorem e143_96 (X : aX) (la : aLs) (st : List aV) (M : aM) : go X 143 96 la st M = kC X 143 (i_ci (nI 0) 97 la st M) := evC ((pm143 X 96).trans rfl) la st M
theorem e143_97 (X : aX) (la : aLs) (st : List aV) (M : aM) : go X 143 97 la st M = kC X 143 (i_ial X 98 la st M) := evC ((pm143 X 97).trans rfl) la st M
theorem e143_98 (X : aX) (la : aLs) (st : List aV) (M : aM) : go X 143 98 la st M = kC X 143 (i_ci (nI 60) 100 la st M) := evC ((pm143 X 98).trans rfl) la st M
theorem e143_100 (X : aX) (la : aLs) (st : List aV) (M : aM) : go X 143 100 la st M = kC X 143 (i_div (fun x y => x - x / y * y) 101 la st M) := evC ((pm143 X 100).trans rfl) la st M
theorem e143_101 (X : aX) (la : aLs) (st : List aV) (M : aM) : go X 143 101 la st M = kC X 143 (i_lda 0 102 la st M) := evC ((pm143 X 101).trans rfl) la st M
theorem e143_102 (X : aX) (la : aLs) (st : List aV) (M : aM) : go X 143 102 la st M = kC X 143 (i_ldi 1 103 la st M) := evC ((pm143 X 102).trans rfl) la st M
theorem e143_103 (X : aX) (la : aLs) (st : List aV) (M : aM) : go X 143 103 la st M = kC X 143 (i_ci (nI 1) 104 la st M) := evC ((pm143 X 103).trans rfl) la st M
theorem e143_104 (X : aX) (la : aLs) (st : List aV) (M : aM) : go X 143 104 la st M = kK X 143 122 3 107 7 la st M := evK ((pm143 X 104).trans rfl) la st M
theorem e143_107 (X : aX) (la : aLs) (st : List aV) (M : aM) : go X 143 107 la st M = kC X 143 (i_cme 110 116 la st M) := evC ((pm143 X 107).trans rfl) la st M
theorem e143_110 (X : aX) (la : aLs) (st : List aV) (M : aM) : go X 143 110 la st M = kC X 143 (i_lda 0 111 la st M) := evC ((pm143 X 110).trans rfl) la st M
theorem e143_111 (X : aX) (la : aLs) (st : List aV) (M : aM) : go X 143 111 la st M = kC X 143 (i_ldi 1 112 la st M) := evC ((pm143 X 111).trans rfl) la st M
theorem e143_112 (X : aX) (la : aLs) (st : List aV) (M : aM) : go X 143 112 la st M = kK X 143 139 2 115 7 la st M := evK ((pm143 X 112).trans rfl) la st M
theorem e143_115 (X : aX) (la : aLs) (st : List aV) (M : aM) : go X 143 115 la st M = kC X 143 (i_pop 116 la st M) := evC ((pm143 X 115).trans rfl) la st M
theorem e143_116 (X : aX) (la : aLs) (st : List aV) (M : aM) : go X 143 116 la st M = i_vrt st M := evR ((pm143 X 116).trans rfl) la st M
theorem c143 (X : aX) (as : List aV) (M : aM) : cl X 143 as M = if cs as ≤ 4 then go X 143 0 (ent 4 as) [] M else none := rfl
theorem pm144 (X : aX) (pc : Nat) : pg X 144 pc = lk pc (tb144 X) := rfl
theorem e144_0 (X : aX) (la : aLs) (st : List aV) (M : aM) : go X 144 0 la st M = kC X 144 (i_ci (nI 0) 1 la st M) := evC ((pm144 X 0).trans rfl) la st M
theorem e144_1 (X : aX) (la : aLs) (st : List aV) (M : aM) : go X 144 1 la st M = kC X 144 (i_sti 1 2 la st M) := evC ((pm144 X 1).trans rfl) la st M
theorem e144_2 (X : aX) (la : aLs) (st : List aV) (M : aM) : go X 144 2 la st M = kC X 144 (i_ci (nI 0) 3 la st M) := evC ((pm144 X 2).trans rfl) la st M
theorem e144_3 (X : aX) (la : aLs) (st : List aV) (M : aM) : go X 144 3 la st M = kC X 144 (i_sti 2 4 la st M) := evC ((pm144 X 3).trans rfl) la st M
theorem e144_4 (X : aX) (la : aLs) (st : List aV) (M : aM) : go X 144 4 la st M = kC X 144 (i_ldi 2 5 la st M) := evC ((pm144 X 4).trans rfl) la st M
theorem e144_5 (X : aX) (la : aLs) (st : List aV) (M : aM) : go X 144 5 la st M = kC X 144 (i_lda 0 6 la st M) := evC ((pm144 X 5).trans rfl) la st M
theorem e144_6 (X : aX) (la : aLs) (st : List aV) (M : aM) : go X 144 6 la st M = kC X 144 (i_get 6 0 9 la st M) := evC ((pm144 X 6).trans rfl) la st M
theorem e144_9 (X : aX) (la : aLs) (st : List aV) (M : aM) : go X 144 9 la st M = kC X 144 (i_ci (nI 1) 10 la st M) := evC ((pm144 X 9).trans rfl) la st M
theorem e144_10 (X : aX) (la : aLs) (st : List aV) (M : aM) : go X 144 10 la st M = kC X 144 (i_ial X 11 la st M) := evC ((pm144 X 10).trans rfl) la st M
theorem e144_11 (X : aX) (la : aLs) (st : List aV) (M : aM) : go X 144 11 la st M = kC X 144 (i_cml 14 61 la st M) := evC ((pm144 X 11).trans rfl) la st M
theorem e144_14 (X : aX) (la : aLs) (st : List aV) (M : aM) : go X 144 14 la st M = kC X 144 (i_lda 0 15 la st M) := evC ((pm144 X 14).trans rfl) la st M
theorem e144_15 (X : aX) (la : aLs) (st : List aV) (M : aM) : go X 144 15 la st M = kC X 144 (i_get 6 5 18 la st M) := evC ((pm144 X 15).trans rfl) la st M
theorem e144_18 (X : aX) (la : aLs) (st : List aV) (M : aM) : go X 144 18 la st M = kC X 144 (i_ldi 2 19 la st M) := evC ((pm144 X 18).trans rfl) la st M
theorem e144_19 (X : aX) (la : aLs) (st : List aV) (M : aM) : go X 144 19 la st M = kC X 144 (i_lda 0 20 la st M) := evC ((pm144 X 19).trans rfl) la st M
theorem e144_20 (X : aX) (la : aLs) (st : List aV) (M : aM) : go X 144 20 la st M = kC X 144 (i_ldi 2 21 la st M) := evC ((pm144 X 20).trans rfl) la st M
theorem e144_21 (X : aX) (la : aLs) (st : List aV) (M : aM) : go X 144 21 la st M = kK X 144 128 2 24 7 la st M := evK ((pm144 X 21).trans rfl) la st M
theorem e144_24 (X : aX) (la : aLs) (st : List aV) (M : aM) : go X 144 24 la st M = kC X 144 (i_ife 35 27 la st M) := evC ((pm144 X 24).trans rfl) la st M
theorem e144_27 (X : aX) (la : aLs) (st : List aV) (M : aM) : go X 144 27 la st M = kC X 144 (i_lda 0 28 la st M) := evC ((pm144 X 27).trans rfl) la st M
theorem e144_28 (X : aX) (la : aLs) (st : List aV) (M : aM) : go X 144 28 la st M = kC X 144 (i_ldi 2 29 la st M) := evC ((pm144 X 28).trans rfl) la st M
theorem e144_29 (X : aX) (la : aLs) (st : List aV) (M : aM) : go X 144 29 la st M = kK X 144 132 2 32 7 la st M := evK ((pm144 X 29).trans rfl) la st M
theorem e144_32 (X : aX) (la : aLs) (st : List aV) (M : aM) : go X 144 32 la st M = kC X 144 (i_go 36 la st M) := evC ((pm144 X 32).trans rfl) la st M
theorem e144_35 (X : aX) (la : aLs) (st : List aV) (M : aM) : go X 144 35 la st M = kC X 144 (i_ci (nI 0) 36 la st M) := evC ((pm144 X 35).trans rfl) la st M
theorem e144_36 (X : aX) (la : aLs) (st : List aV) (M : aM) : go X 144 36 la st M = kC X 144 (i_ias 37 la st M) := evC ((pm144 X 36).trans rfl) la st M
theorem e144_37 (X : aX) (la : aLs) (st : List aV) (M : aM) : go X 144 37 la st M = kC X 144 (i_ldi 1 38 la st M) := evC ((pm144 X 37).trans rfl) la st M
theorem e144_38 (X : aX) (la : aLs) (st : List aV) (M : aM) : go X 144 38 la st M = kC X 144 (i_ife 41 49 la st M) := evC ((pm144 X 38).trans rfl) la st M
theorem e144_41 (X : aX) (la : aLs) (st : List aV) (M : aM) : go X 144 41 la st M = kC X 144 (i_lda 0 42 la st M) := evC ((pm144 X 41).trans rfl) la st M
theorem e144_42 (X : aX) (la : aLs) (st : List aV) (M : aM) : go X 144 42 la st M = kC X 144 (i_ldi 2 43 la st M) := evC ((pm144 X 42).trans rfl) la st M
theorem e144_43 (X : aX) (la : aLs) (st : List aV) (M : aM) : go X 144 43 la st M = kK X 144 128 2 46 7 la st M := evK ((pm144 X 43).trans rfl) la st M
theorem e144_46 (X : aX) (la : aLs) (st : List aV) (M : aM) : go X 144 46 la st M = kC X 144 (i_ife 53 49 la st M) := evC ((pm144 X 46).trans rfl) la st M
theorem e144_49 (X : aX) (la : aLs) (st : List aV) (M : aM) : go X 144 49 la st M = kC X 144 (i_ci (nI 1) 50 la st M) := evC ((pm144 X 49).trans rfl) la st M
theorem e144_50 (X : aX) (la : aLs) (st : List aV) (M : aM) : go X 144 50 la st M = kC X 144 (i_go 54 la st M) := evC ((pm144 X 50).trans rfl) la st M
theorem e144_53 (X : aX) (la : aLs) (st : List aV) (M : aM) : go X 144 53 la st M = kC X 144 (i_ci (nI 0) 54 la st M) := evC ((pm144 X 53).trans rfl) la st M
theorem e144_54 (X : aX) (la : aLs) (st : List aV) (M : aM) : go X 144 54 la st M = kC X 144 (i_sti 1 55 la st M) := evC ((pm144 X 54).trans rfl) la st M
theorem e144_55 (X : aX) (la : aLs) (st : List aV) (M : aM) : go X 144 55 la st M = kC X 144 (i_inc 2 (nI 1) 58 la st M) := evC ((pm144 X 55).trans rfl) la st M
theorem e144_58 (X : aX) (la : aLs) (st : List aV) (M : aM) : go X 144 58 la st M = kC X 144 (i_go 4 la st M) := evC ((pm144 X 58).trans rfl) la st M
theorem e144_61 (X : aX) (la : aLs) (st : List aV) (M : aM) : go X 144 61 la st M = kC X 144 (i_ci (nI 0) 62 la st M) := evC ((pm144 X 61).trans rfl) la st M
theorem e144_62 (X : aX) (la : aLs) (st : List aV) (M : aM) : go X 144 62 la st M = kC X 144 (i_sti 2 63 la st M) := evC ((pm144 X 62).trans rfl) la st M
theorem e144_63 (X : aX) (la : aLs) (st : List aV) (M : aM) : go X 144 63 la st M = kC X 144 (i_ldi 2 64 la st M) := evC ((pm144 X 63).trans rfl) la st M
theorem e144_64 (X : aX) (la : aLs) (st : List aV) (M : aM) : go X 144 64 la st M = kC X 144 (i_lda 0 65 la st M) := evC ((pm144 X 64).trans rfl) la st M
theorem e144_65 (X : aX) (la : aLs) (st : List aV) (M : aM) : go X 144 65 la st M = kC X 144 (i_get 6 0 68 la st M) := evC ((pm144 X 65).trans rfl) la st M
theorem e144_68 (X : aX) (la : aLs) (st : List aV) (M : aM) : go X 144 68 la st M = kC X 144 (i_ci (nI 1) 69 la st M) := evC ((pm144 X 68).trans rfl) la st M
theorem e144_69 (X : aX) (la : aLs) (st : List aV) (M : aM) : go X 144 69 la st M = kC X 144 (i_ial X 70 la st M) := evC ((pm144 X 69).trans rfl) la st M
theorem e144_70 (X : aX) (la : aLs) (st : List aV) (M : aM) : go X 144 70 la st M = kC X 144 (i_cml 73 98 la st M) := evC ((pm144 X 70).trans rfl) la st M
theorem e144_73 (X : aX) (la : aLs) (st : List aV) (M : aM) : go X 144 73 la st M = kC X 144 (i_lda 0 74 la st M) := evC ((pm144 X 73).trans rfl) la st M
theorem e144_74 (X : aX) (la : aLs) (st : List aV) (M : aM) : go X 144 74 la st M = kC X 144 (i_ldi 2 75 la st M) := evC ((pm144 X 74).trans rfl) la st M
theorem e144_75 (X : aX) (la : aLs) (st : List aV) (M : aM) : go X 144 75 la st M = kC X 144 (i_ci (nI 9) 77 la st M) := evC ((pm144 X 75).trans rfl) la st M
theorem e144_77 (X : aX) (la : aLs) (st : List aV) (M : aM) : go X 144 77 la st M = kK X 144 121 2 80 0 la st M := evK ((pm144 X 77).trans rfl) la st M
theorem e144_80 (X : aX) (la : aLs) (st : List aV) (M : aM) : go X 144 80 la st M = kC X 144 (i_lda 0 81 la st M) := evC ((pm144 X 80).trans rfl) la st M
theorem e144_81 (X : aX) (la : aLs) (st : List aV) (M : aM) : go X 144 81 la st M = kC X 144 (i_get 6 5 84 la st M) := evC ((pm144 X 81).trans rfl) la st M
theorem e144_84 (X : aX) (la : aLs) (st : List aV) (M : aM) : go X 144 84 la st M = kC X 144 (i_ldi 2 85 la st M) := evC ((pm144 X 84).trans rfl) la st M
theorem e144_85 (X : aX) (la : aLs) (st : List aV) (M : aM) : go X 144 85 la st M = kC X 144 (i_ial X 86 la st M) := evC ((pm144 X 85).trans rfl) la st M
theorem e144_86 (X : aX) (la : aLs) (st : List aV) (M : aM) : go X 144 86 la st M = kC X 144 (i_ci (nI 9999) 89 la st M) := evC ((pm144 X 86).trans rfl) la st M
theorem e144_89 (X : aX) (la : aLs) (st : List aV) (M : aM) : go X 144 89 la st M = kK X 144 141 4 92 7 la st M := evK ((pm144 X 89).trans rfl) la st M
theorem e144_92 (X : aX) (la : aLs) (st : List aV) (M : aM) : go X 144 92 la st M = kC X 144 (i_inc 2 (nI 1) 95 la st M) := evC ((pm144 X 92).trans rfl) la st M
theorem e144_95 (X : aX) (la : aLs) (st : List aV) (M : aM) : go X 144 95 la st M = kC X 144 (i_go 63 la st M) := evC ((pm144 X 95).trans rfl) la st M
theorem e144_98 (X : aX) (la : aLs) (st : List aV) (M : aM) : go X 144 98 la st M = kC X 144 (i_lda 0 99 la st M) := evC ((pm144 X 98).trans rfl) la st M
theorem e144_99 (X : aX) (la : aLs) (st : List aV) (M : aM) : go X 144 99 la st M = kC X 144 (i_get 6 0 102 la st M) := evC ((pm144 X 99).trans rfl) la st M
theorem e144_102 (X : aX) (la : aLs) (st : List aV) (M : aM) : go X 144 102 la st M = kC X 144 (i_ci (nI 3) 103 la st M) := evC ((pm144 X 102).trans rfl) la st M
theorem e144_103 (X : aX) (la : aLs) (st : List aV) (M : aM) : go X 144 103 la st M = kC X 144 (i_ldi 1 104 la st M) := evC ((pm144 X 103).trans rfl) la st M
theorem e144_104 (X : aX) (la : aLs) (st : List aV) (M : aM) : go X 144 104 la st M = kC X 144 (i_ife 111 107 la st M) := evC ((pm144 X 104).trans rfl) la st M
theorem e144_107 (X : aX) (la : aLs) (st : List aV) (M : aM) : go X 144 107 la st M = kC X 144 (i_ci (nI 0) 108 la st M) := evC ((pm144 X 107).trans rfl) la st M
theorem e144_108 (X : aX) (la : aLs) (st : List aV) (M : aM) : go X 144 108 la st M = kC X 144 (i_go 124 la st M) := evC ((pm144 X 108).trans rfl) la st M
theorem e144_111 (X : aX) (la : aLs) (st : List aV) (M : aM) : go X 144 111 la st M = kC X 144 (i_ci (nI 99999) 113 la st M) := evC ((pm144 X 111).trans rfl) la st M
theorem e144_113 (X : aX) (la : aLs) (st : List aV) (M : aM) : go X 144 113 la st M = kC X 144 (i_lda 0 114 la st M) := evC ((pm144 X 113).trans rfl) la st M
theorem e144_114 (X : aX) (la : aLs) (st : List aV) (M : aM) : go X 144 114 la st M = kC X 144 (i_get 6 0 117 la st M) := evC ((pm144 X 114).trans rfl) la st M
theorem e144_117 (X : aX) (la : aLs) (st : List aV) (M : aM) : go X 144 117 la st M = kC X 144 (i_ci (nI 3) 118 la st M) := evC ((pm144 X 117).trans rfl) la st M
theorem e144_118 (X : aX) (la : aLs) (st : List aV) (M : aM) : go X 144 118 la st M = kC X 144 (i_ial X 119 la st M) := evC ((pm144 X 118).trans rfl) la st M
theorem e144_119 (X : aX) (la : aLs) (st : List aV) (M : aM) : go X 144 119 la st M = kC X 144 (i_ci (nI 1) 120 la st M) := evC ((pm144 X 119).trans rfl) la st M
theorem e144_120 (X : aX) (la : aLs) (st : List aV) (M : aM) : go X 144 120 la st M = kC X 144 (i_bin (fun x y => x + y) 121 la st M) := evC ((pm144 X 120).trans rfl) la st M
theorem e144_121 (X : aX) (la : aLs) (st : List aV) (M : aM) : go X 144 121 la st M = kC X 144 (i_min 124 la st M) := evC ((pm144 X 121).trans rfl) la st M
theorem e144_124 (X : aX) (la : aLs) (st : List aV) (M : aM) : go X 144 124 la st M = kC X 144 (i_ias 125 la st M) := evC ((pm144 X 124).trans rfl) la st M
theorem e144_125 (X : aX) (la : aLs) (st : List aV) (M : aM) : go X 144 125 la st M = i_vrt st M := evR ((pm144 X 125).trans rfl) la st M
theorem c144 (X : aX) (as : List aV) (M : aM) : cl X 144 as M = if cs as ≤ 3 then go X 144 0 (ent 3 as) [] M else none := rfl
theorem pm145 (X : aX) (pc : Nat) : pg X 145 pc = lk pc (tb145 X) := rfl
theorem e145_0 (X : aX) (la : aLs) (st : List aV) (M : aM) : go X 145 0 la st M = kC X 145 (i_lda 0 1 la st M) := evC ((pm145 X 0).trans rfl) la st M
theorem e145_1 (X : aX) (la : aLs) (st : List aV) (M : aM) : go X 145 1 la st M = kC X 145 (i_ldi 1 2 la st M) := evC ((pm145 X 1).trans rfl) la st M
theorem e145_2 (X : aX) (la : aLs) (st : List aV) (M : aM) : go X 145 2 la st M = kK X 145 133 2 5 7 la st M := evK ((pm145 X 2).trans rfl) la st M
theorem e145_5 (X : aX) (la : aLs) (st : List aV) (M : aM) : go X 145 5 la st M = kC X 145 (i_sti 2 6 la st M) := evC ((pm145 X 5).trans rfl) la st M
theorem e145_6 (X : aX) (la : aLs) (st : List aV) (M : aM) : go X 145 6 la st M = kC X 145 (i_lda 0 7 la st M) := evC ((pm145 X 6).trans rfl) la st M
theorem e145_7 (X : aX) (la : aLs) (st : List aV) (M : aM) : go X 145 7 la st M = kC X 145 (i_get 6 0 10 la st M) := evC ((pm145 X 7).trans rfl) la st M
theorem e145_10 (X : aX) (la : aLs) (st : List aV) (M : aM) : go X 145 10 la st M = kC X 145 (i_ldi 1 11 la st M) := evC ((pm145 X 10).trans rfl) la st M
theorem e145_11 (X : aX) (la : aLs) (st : List aV) (M : aM) : go X 145 11 la st M = kC X 145 (i_ci (nI 3) 12 la st M) := evC ((pm145 X 11).trans rfl) la st M
theorem e145_12 (X : aX) (la : aLs) (st : List aV) (M : aM) : go X 145 12 la st M = kK X 145 121 2 15 0 la st M := evK ((pm145 X 12).trans rfl) la st M
theorem e145_15 (X : aX) (la : aLs) (st : List aV) (M : aM) : go X 145 15 la st M = kC X 145 (i_ci (nI 0) 16 la st M) := evC ((pm145 X 15).trans rfl) la st M
theorem e145_16 (X : aX) (la : aLs) (st : List aV) (M : aM) : go X 145 16 la st M = kC X 145 (i_ci (nI 99) 18 la st M) := evC ((pm145 X 16).trans rfl) la st M
theorem e145_18 (X : aX) (la : aLs) (st : List aV) (M : aM) : go X 145 18 la st M = kC X 145 (i_lda 0 19 la st M) := evC ((pm145 X 18).trans rfl) la st M
theorem e145_19 (X : aX) (la : aLs) (st : List aV) (M : aM) : go X 145 19 la st M = kC X 145 (i_ldi 1 20 la st M) := evC ((pm145 X 19).trans rfl) la st M
theorem e145_20 (X : aX) (la : aLs) (st : List aV) (M : aM) : go X 145 20 la st M = kC X 145 (i_ci (nI 3) 21 la st M) := evC ((pm145 X 20).trans rfl) la st M
theorem e145_21 (X : aX) (la : aLs) (st : List aV) (M : aM) : go X 145 21 la st M = kK X 145 122 3 24 7 la st M := evK ((pm145 X 21).trans rfl) la st M
theorem e145_24 (X : aX) (la : aLs) (st : List aV) (M : aM) : go X 145 24 la st M = kC X 145 (i_ldi 2 25 la st M) := evC ((pm145 X 24).trans rfl) la st M
theorem e145_25 (X : aX) (la : aLs) (st : List aV) (M : aM) : go X 145 25 la st M = kC X 145 (i_bin (fun x y => x - y) 26 la st M) := evC ((pm145 X 25).trans rfl) la st M
theorem e145_26 (X : aX) (la : aLs) (st : List aV) (M : aM) : go X 145 26 la st M = kC X 145 (i_min 29 la st M) := evC ((pm145 X 26).trans rfl) la st M
theorem e145_29 (X : aX) (la : aLs) (st : List aV) (M : aM) : go X 145 29 la st M = kC X 145 (i_max 32 la st M) := evC ((pm145 X 29).trans rfl) la st M
theorem e145_32 (X : aX) (la : aLs) (st : List aV) (M : aM) : go X 145 32 la st M = kC X 145 (i_ias 33 la st M) := evC ((pm145 X 32).trans rfl) la st M
theorem e145_33 (X : aX) (la : aLs) (st : List aV) (M : aM) : go X 145 33 la st M = kC X 145 (i_lda 0 34 la st M) := evC ((pm145 X 33).trans rfl) la st M
theorem e145_34 (X : aX) (la : aLs) (st : List aV) (M : aM) : go X 145 34 la st M = kC X 145 (i_ldi 1 35 la st M) := evC ((pm145 X 34).trans rfl) la st M
theorem e145_35 (X : aX) (la : aLs) (st : List aV) (M : aM) : go X 145 35 la st M = kC X 145 (i_ci (nI 4) 36 la st M) := evC ((pm145 X 35).trans rfl) la st M
theorem e145_36 (X : aX) (la : aLs) (st : List aV) (M : aM) : go X 145 36 la st M = kK X 145 121 2 39 0 la st M := evK ((pm145 X 36).trans rfl) la st M
theorem e145_39 (X : aX) (la : aLs) (st : List aV) (M : aM) : go X 145 39 la st M = kC X 145 (i_ci (nI 1) 40 la st M) := evC ((pm145 X 39).trans rfl) la st M
theorem e145_40 (X : aX) (la : aLs) (st : List aV) (M : aM) : go X 145 40 la st M = kC X 145 (i_ci (nI 120) 42 la st M) := evC ((pm145 X 40).trans rfl) la st M
theorem e145_42 (X : aX) (la : aLs) (st : List aV) (M : aM) : go X 145 42 la st M = kK X 145 141 4 45 7 la st M := evK ((pm145 X 42).trans rfl) la st M
theorem e145_45 (X : aX) (la : aLs) (st : List aV) (M : aM) : go X 145 45 la st M = i_vrt st M := evR ((pm145 X 45).trans rfl) la st M
theorem c145 (X : aX) (as : List aV) (M : aM) : cl X 145 as M = if cs as ≤ 3 then go X 145 0 (ent 3 as) [] M else none := rfl
theorem pm146 (X : aX) (pc : Nat) : pg X 146 pc = lk pc (tb146 X) := rfl
theorem e146_0 (X : aX) (la : aLs) (st : List aV) (M : aM) : go X 146 0 la st M = kC X 146 (i_lda 0 1 la st M) := evC ((pm146 X 0).trans rfl) la st M
theorem e146_1 (X : aX) (la : aLs) (st : List aV) (M : aM) : go X 146 1 la st M = kK X 146 142 1 4 7 la st M := evK ((pm146 X 1).trans rfl) la st M
theorem e146_4 (X : aX) (la : aLs) (st : List aV) (M : aM) : go X 146 4 la st M = kC X 146 (i_sti 1 5 la st M) := evC ((pm146 X 4).trans rfl) la st M
theorem e146_5 (X : aX) (la : aLs) (st : List aV) (M : aM) : go X 146 5 la st M = kC X 146 (i_ci (nI 0) 6 la st M) := evC ((pm146 X 5).trans rfl) la st M
theorem e146_6 (X : aX) (la : aLs) (st : List aV) (M : aM) : go X 146 6 la st M = kC X 146 (i_sti 2 7 la st M) := evC ((pm146 X 6).trans rfl) la st M
theorem e146_7 (X : aX) (la : aLs) (st : List aV) (M : aM) : go X 146 7 la st M = kC X 146 (i_ldi 2 8 la st M) := evC ((pm146 X 7).trans rfl) la st M
theorem e146_8 (X : aX) (la : aLs) (st : List aV) (M : aM) : go X 146 8 la st M = kC X 146 (i_lda 0 9 la st M) := evC ((pm146 X 8).trans rfl) la st M
theorem e146_9 (X : aX) (la : aLs) (st : List aV) (M : aM) : go X 146 9 la st M = kC X 146 (i_get 6 0 12 la st M) := evC ((pm146 X 9).trans rfl) la st M
theorem e146_12 (X : aX) (la : aLs) (st : List aV) (M : aM) : go X 146 12 la st M = kC X 146 (i_ci (nI 1) 13 la st M) := evC ((pm146 X 12).trans rfl) la st M
theorem e146_13 (X : aX) (la : aLs) (st : List aV) (M : aM) : go X 146 13 la st M = kC X 146 (i_ial X 14 la st M) := evC ((pm146 X 13).trans rfl) la st M
theorem e146_14 (X : aX) (la : aLs) (st : List aV) (M : aM) : go X 146 14 la st M = kC X 146 (i_cml 17 55 la st M) := evC ((pm146 X 14).trans rfl) la st M
theorem e146_17 (X : aX) (la : aLs) (st : List aV) (M : aM) : go X 146 17 la st M = kC X 146 (i_lda 0 18 la st M) := evC ((pm146 X 17).trans rfl) la st M
theorem e146_18 (X : aX) (la : aLs) (st : List aV) (M : aM) : go X 146 18 la st M = kC X 146 (i_ldi 2 19 la st M) := evC ((pm146 X 18).trans rfl) la st M
theorem e146_19 (X : aX) (la : aLs) (st : List aV) (M : aM) : go X 146 19 la st M = kK X 146 127 2 22 7 la st M := evK ((pm146 X 19).trans rfl) la st M
theorem e146_22 (X : aX) (la : aLs) (st : List aV) (M : aM) : go X 146 22 la st M = kC X 146 (i_ife 25 49 la st M) := evC ((pm146 X 22).trans rfl) la st M
theorem e146_25 (X : aX) (la : aLs) (st : List aV) (M : aM) : go X 146 25 la st M = kC X 146 (i_lda 0 26 la st M) := evC ((pm146 X 25).trans rfl) la st M
theorem e146_26 (X : aX) (la : aLs) (st : List aV) (M : aM) : go X 146 26 la st M = kC X 146 (i_ldi 2 27 la st M) := evC ((pm146 X 26).trans rfl) la st M
theorem e146_27 (X : aX) (la : aLs) (st : List aV) (M : aM) : go X 146 27 la st M = kC X 146 (i_ci (nI 7) 29 la st M) := evC ((pm146 X 27).trans rfl) la st M
theorem e146_29 (X : aX) (la : aLs) (st : List aV) (M : aM) : go X 146 29 la st M = kK X 146 122 3 32 7 la st M := evK ((pm146 X 29).trans rfl) la st M
theorem e146_32 (X : aX) (la : aLs) (st : List aV) (M : aM) : go X 146 32 la st M = kC X 146 (i_ife 35 49 la st M) := evC ((pm146 X 32).trans rfl) la st M
theorem e146_35 (X : aX) (la : aLs) (st : List aV) (M : aM) : go X 146 35 la st M = kC X 146 (i_ldi 1 36 la st M) := evC ((pm146 X 35).trans rfl) la st M
theorem e146_36 (X : aX) (la : aLs) (st : List aV) (M : aM) : go X 146 36 la st M = kC X 146 (i_ldi 2 37 la st M) := evC ((pm146 X 36).trans rfl) la st M
theorem e146_37 (X : aX) (la : aLs) (st : List aV) (M : aM) : go X 146 37 la st M = kC X 146 (i_bin (fun x y => x >>> (y &&& 31)) 38 la st M) := evC ((pm146 X 37).trans rfl) la st M
theorem e146_38 (X : aX) (la : aLs) (st : List aV) (M : aM) : go X 146 38 la st M = kC X 146 (i_ci (nI 1) 39 la st M) := evC ((pm146 X 38).trans rfl) la st M
theorem e146_39 (X : aX) (la : aLs) (st : List aV) (M : aM) : go X 146 39 la st M = kC X 146 (i_bin (fun x y => x &&& y) 40 la st M) := evC ((pm146 X 39).trans rfl) la st M
theorem e146_40 (X : aX) (la : aLs) (st : List aV) (M : aM) : go X 146 40 la st M = kC X 146 (i_ife 43 49 la st M) := evC ((pm146 X 40).trans rfl) la st M
theorem e146_43 (X : aX) (la : aLs) (st : List aV) (M : aM) : go X 146 43 la st M = kC X 146 (i_lda 0 44 la st M) := evC ((pm146 X 43).trans rfl) la st M
theorem e146_44 (X : aX) (la : aLs) (st : List aV) (M : aM) : go X 146 44 la st M = kC X 146 (i_ldi 2 45 la st M) := evC ((pm146 X 44).trans rfl) la st M
theorem e146_45 (X : aX) (la : aLs) (st : List aV) (M : aM) : go X 146 45 la st M = kC X 146 (i_ldi 1 46 la st M) := evC ((pm146 X 45).trans rfl) la st M
theorem e146_46 (X : aX) (la : aLs) (st : List aV) (M : aM) : go X 146 46 la st M = kK X 146 143 3 49 7 la st M := evK ((pm146 X 46).trans rfl) la st M
theorem e146_49 (X : aX) (la : aLs) (st : List aV) (M : aM) : go X 146 49 la st M = kC X 146 (i_inc 2 (nI 1) 52 la st M) := evC ((pm146 X 49).trans rfl) la st M
theorem e146_52 (X : aX) (la : aLs) (st : List aV) (M : aM) : go X 146 52 la st M = kC X 146 (i_go 7 la st M) := evC ((pm146 X 52).trans rfl) la st M
theorem e146_55 (X : aX) (la : aLs) (st : List aV) (M : aM) : go X 146 55 la st M = kC X 146 (i_lda 0 56 la st M) := evC ((pm146 X 55).trans rfl) la st M
theorem e146_56 (X : aX) (la : aLs) (st : List aV) (M : aM) : go X 146 56 la st M = kK X 146 144 1 59 7 la st M := evK ((pm146 X 56).trans rfl) la st M
theorem e146_59 (X : aX) (la : aLs) (st : List aV) (M : aM) : go X 146 59 la st M = kC X 146 (i_ci (nI 0) 60 la st M) := evC ((pm146 X 59).trans rfl) la st M
theorem e146_60 (X : aX) (la : aLs) (st : List aV) (M : aM) : go X 146 60 la st M = kC X 146 (i_sti 2 61 la st M) := evC ((pm146 X 60).trans rfl) la st M
theorem e146_61 (X : aX) (la : aLs) (st : List aV) (M : aM) : go X 146 61 la st M = kC X 146 (i_ldi 2 62 la st M) := evC ((pm146 X 61).trans rfl) la st M
theorem e146_62 (X : aX) (la : aLs) (st : List aV) (M : aM) : go X 146 62 la st M = kC X 146 (i_lda 0 63 la st M) := evC ((pm146 X 62).trans rfl) la st M
theorem e146_63 (X : aX) (la : aLs) (st : List aV) (M : aM) : go X 146 63 la st M = kC X 146 (i_get 6 0 66 la st M) := evC ((pm146 X 63).trans rfl) la st M
theorem e146_66 (X : aX) (la : aLs) (st : List aV) (M : aM) : go X 146 66 la st M = kC X 146 (i_ci (nI 1) 67 la st M) := evC ((pm146 X 66).trans rfl) la st M
theorem e146_67 (X : aX) (la : aLs) (st : List aV) (M : aM) : go X 146 67 la st M = kC X 146 (i_ial X 68 la st M) := evC ((pm146 X 67).trans rfl) la st M
theorem e146_68 (X : aX) (la : aLs) (st : List aV) (M : aM) : go X 146 68 la st M = kC X 146 (i_cml 71 104 la st M) := evC ((pm146 X 68).trans rfl) la st M
theorem e146_71 (X : aX) (la : aLs) (st : List aV) (M : aM) : go X 146 71 la st M = kC X 146 (i_lda 0 72 la st M) := evC ((pm146 X 71).trans rfl) la st M
theorem e146_72 (X : aX) (la : aLs) (st : List aV) (M : aM) : go X 146 72 la st M = kC X 146 (i_get 6 0 75 la st M) := evC ((pm146 X 72).trans rfl) la st M
theorem e146_75 (X : aX) (la : aLs) (st : List aV) (M : aM) : go X 146 75 la st M = kC X 146 (i_ci (nI 0) 76 la st M) := evC ((pm146 X 75).trans rfl) la st M
theorem e146_76 (X : aX) (la : aLs) (st : List aV) (M : aM) : go X 146 76 la st M = kC X 146 (i_ial X 77 la st M) := evC ((pm146 X 76).trans rfl) la st M
theorem e146_77 (X : aX) (la : aLs) (st : List aV) (M : aM) : go X 146 77 la st M = kC X 146 (i_ci (nI 60) 79 la st M) := evC ((pm146 X 77).trans rfl) la st M
theorem e146_79 (X : aX) (la : aLs) (st : List aV) (M : aM) : go X 146 79 la st M = kC X 146 (i_div (fun x y => x - x / y * y) 80 la st M) := evC ((pm146 X 79).trans rfl) la st M
theorem e146_80 (X : aX) (la : aLs) (st : List aV) (M : aM) : go X 146 80 la st M = kC X 146 (i_ci (nI 59) 82 la st M) := evC ((pm146 X 80).trans rfl) la st M
theorem e146_82 (X : aX) (la : aLs) (st : List aV) (M : aM) : go X 146 82 la st M = kC X 146 (i_cme 85 104 la st M) := evC ((pm146 X 82).trans rfl) la st M
theorem e146_85 (X : aX) (la : aLs) (st : List aV) (M : aM) : go X 146 85 la st M = kC X 146 (i_lda 0 86 la st M) := evC ((pm146 X 85).trans rfl) la st M
theorem e146_86 (X : aX) (la : aLs) (st : List aV) (M : aM) : go X 146 86 la st M = kC X 146 (i_ldi 2 87 la st M) := evC ((pm146 X 86).trans rfl) la st M
theorem e146_87 (X : aX) (la : aLs) (st : List aV) (M : aM) : go X 146 87 la st M = kK X 146 127 2 90 7 la st M := evK ((pm146 X 87).trans rfl) la st M
theorem e146_90 (X : aX) (la : aLs) (st : List aV) (M : aM) : go X 146 90 la st M = kC X 146 (i_ife 93 98 la st M) := evC ((pm146 X 90).trans rfl) la st M
theorem e146_93 (X : aX) (la : aLs) (st : List aV) (M : aM) : go X 146 93 la st M = kC X 146 (i_lda 0 94 la st M) := evC ((pm146 X 93).trans rfl) la st M
theorem e146_94 (X : aX) (la : aLs) (st : List aV) (M : aM) : go X 146 94 la st M = kC X 146 (i_ldi 2 95 la st M) := evC ((pm146 X 94).trans rfl) la st M
theorem e146_95 (X : aX) (la : aLs) (st : List aV) (M : aM) : go X 146 95 la st M = kK X 146 145 2 98 7 la st M := evK ((pm146 X 95).trans rfl) la st M
theorem e146_98 (X : aX) (la : aLs) (st : List aV) (M : aM) : go X 146 98 la st M = kC X 146 (i_inc 2 (nI 1) 101 la st M) := evC ((pm146 X 98).trans rfl) la st M
theorem e146_101 (X : aX) (la : aLs) (st : List aV) (M : aM) : go X 146 101 la st M = kC X 146 (i_go 61 la st M) := evC ((pm146 X 101).trans rfl) la st M
theorem e146_104 (X : aX) (la : aLs) (st : List aV) (M : aM) : go X 146 104 la st M = kC X 146 (i_lda 0 105 la st M) := evC ((pm146 X 104).trans rfl) la st M
theorem e146_105 (X : aX) (la : aLs) (st : List aV) (M : aM) : go X 146 105 la st M = kC X 146 (i_ci (nI 0) 106 la st M) := evC ((pm146 X 105).trans rfl) la st M
theorem e146_106 (X : aX) (la : aLs) (st : List aV) (M : aM) : go X 146 106 la st M = kC X 146 (i_ci (nI 1) 107 la st M) := evC ((pm146 X 106).trans rfl) la st M
theorem e146_107 (X : aX) (la : aLs) (st : List aV) (M : aM) : go X 146 107 la st M = kC X 146 (i_ci (nI 99999) 109 la st M) := evC ((pm146 X 107).trans rfl) la st M
theorem e146_109 (X : aX) (la : aLs) (st : List aV) (M : aM) : go X 146 109 la st M = kK X 146 141 4 112 7 la st M := evK ((pm146 X 109).trans rfl) la st M
theorem e146_112 (X : aX) (la : aLs) (st : List aV) (M : aM) : go X 146 112 la st M = i_vrt st M := evR ((pm146 X 112).trans rfl) la st M
theorem c146 (X : aX) (as : List aV) (M : aM) : cl X 146 as M = if cs as ≤ 3 then go X 146 0 (ent 3 as) [] M else none := rfl
theorem pm147 (X : aX) (pc : Nat) : pg X 147 pc = lk pc (tb147 X) := rfl
theorem e147_0 (X : aX) (la : aLs) (st : List aV) (M : aM) : go X 147 0 la st M = kC X 147 (i_ci (nI 0) 1 la st M) := evC ((pm147 X 0).trans rfl) la st M
theorem e147_1 (X : aX) (la : aLs) (st : List aV) (M : aM) : go X 147 1 la st M = kC X 147 (i_sti 2 2 la st M) := evC ((pm147 X 1).trans rfl) la st M
theorem e147_2 (X : aX) (la : aLs) (st : List aV) (M : aM) : go X 147 2 la st M = kC X 147 (i_ldi 2 3 la st M) := evC ((pm147 X 2).trans rfl) la st M
theorem e147_3 (X : aX) (la : aLs) (st : List aV) (M : aM) : go X 147 3 la st M = kC X 147 (i_ldi 1 4 la st M) := evC ((pm147 X 3).trans rfl) la st M
theorem e147_4 (X : aX) (la : aLs) (st : List aV) (M : aM) : go X 147 4 la st M = kC X 147 (i_cml 7 17 la st M) := evC ((pm147 X 4).trans rfl) la st M
theorem e147_7 (X : aX) (la : aLs) (st : List aV) (M : aM) : go X 147 7 la st M = kC X 147 (i_lda 0 8 la st M) := evC ((pm147 X 7).trans rfl) la st M
theorem e147_8 (X : aX) (la : aLs) (st : List aV) (M : aM) : go X 147 8 la st M = kK X 147 146 1 11 7 la st M := evK ((pm147 X 8).trans rfl) la st M
theorem e147_11 (X : aX) (la : aLs) (st : List aV) (M : aM) : go X 147 11 la st M = kC X 147 (i_inc 2 (nI 1) 14 la st M) := evC ((pm147 X 11).trans rfl) la st M
theorem e147_14 (X : aX) (la : aLs) (st : List aV) (M : aM) : go X 147 14 la st M = kC X 147 (i_go 2 la st M) := evC ((pm147 X 14).trans rfl) la st M
theorem e147_17 (X : aX) (la : aLs) (st : List aV) (M : aM) : go X 147 17 la st M = i_vrt st M := evR ((pm147 X 17).trans rfl) la st M
theorem c147 (X : aX) (as : List aV) (M : aM) : cl X 147 as M = if cs as ≤ 3 then go X 147 0 (ent 3 as) [] M else none := rfl
theorem pm148 (X : aX) (pc : Nat) : pg X 148 pc = lk pc (tb148 X) := rfl
theorem e148_0 (X : aX) (la : aLs) (st : List aV) (M : aM) : go X 148 0 la st M = kC X 148 (i_ci (nI 0) 1 la st M) := evC ((pm148 X 0).trans rfl) la st M
theorem e148_1 (X : aX) (la : aLs) (st : List aV) (M : aM) : go X 148 1 la st M = kC X 148 (i_sti 1 2 la st M) := evC ((pm148 X 1).trans rfl) la st M
theorem e148_2 (X : aX) (la : aLs) (st : List aV) (M : aM) : go X 148 2 la st M = kC X 148 (i_ci (nI 0) 3 la st M) := evC ((pm148 X 2).trans rfl) la st M
theorem e148_3 (X : aX) (la : aLs) (st : List aV) (M : aM) : go X 148 3 la st M = kC X 148 (i_sti 2 4 la st M) := evC ((pm148 X 3).trans rfl) la st M
theorem e148_4 (X : aX) (la : aLs) (st : List aV) (M : aM) : go X 148 4 la st M = kC X 148 (i_ldi 2 5 la st M) := evC ((pm148 X 4).trans rfl) la st M
theorem e148_5 (X : aX) (la : aLs) (st : List aV) (M : aM) : go X 148 5 la st M = kC X 148 (i_lda 0 6 la st M) := evC ((pm148 X 5).trans rfl) la st M
theorem e148_6 (X : aX) (la : aLs) (st : List aV) (M : aM) : go X 148 6 la st M = kC X 148 (i_get 6 0 9 la st M) := evC ((pm148 X 6).trans rfl) la st M
theorem e148_9 (X : aX) (la : aLs) (st : List aV) (M : aM) : go X 148 9 la st M = kC X 148 (i_ci (nI 1) 10 la st M) := evC ((pm148 X 9).trans rfl) la st M
theorem e148_10 (X : aX) (la : aLs) (st : List aV) (M : aM) : go X 148 10 la st M = kC X 148 (i_ial X 11 la st M) := evC ((pm148 X 10).trans rfl) la st M
theorem e148_11 (X : aX) (la : aLs) (st : List aV) (M : aM) : go X 148 11 la st M = kC X 148 (i_cml 14 38 la st M) := evC ((pm148 X 11).trans rfl) la st M
theorem e148_14 (X : aX) (la : aLs) (st : List aV) (M : aM) : go X 148 14 la st M = kC X 148 (i_ldi 1 15 la st M) := evC ((pm148 X 14).trans rfl) la st M
theorem e148_15 (X : aX) (la : aLs) (st : List aV) (M : aM) : go X 148 15 la st M = kC X 148 (i_lda 0 16 la st M) := evC ((pm148 X 15).trans rfl) la st M
theorem e148_16 (X : aX) (la : aLs) (st : List aV) (M : aM) : go X 148 16 la st M = kC X 148 (i_ldi 2 17 la st M) := evC ((pm148 X 16).trans rfl) la st M
theorem e148_17 (X : aX) (la : aLs) (st : List aV) (M : aM) : go X 148 17 la st M = kK X 148 128 2 20 7 la st M := evK ((pm148 X 17).trans rfl) la st M
theorem e148_20 (X : aX) (la : aLs) (st : List aV) (M : aM) : go X 148 20 la st M = kC X 148 (i_ife 29 23 la st M) := evC ((pm148 X 20).trans rfl) la st M
theorem e148_23 (X : aX) (la : aLs) (st : List aV) (M : aM) : go X 148 23 la st M = kC X 148 (i_ci (nI 1) 24 la st M) := evC ((pm148 X 23).trans rfl) la st M
theorem e148_24 (X : aX) (la : aLs) (st : List aV) (M : aM) : go X 148 24 la st M = kC X 148 (i_ldi 2 25 la st M) := evC ((pm148 X 24).trans rfl) la st M
theorem e148_25 (X : aX) (la : aLs) (st : List aV) (M : aM) : go X 148 25 la st M = kC X 148 (i_bin (fun x y => x <<< (y &&& 31)) 26 la st M) := evC ((pm148 X 25).trans rfl) la st M
theorem e148_26 (X : aX) (la : aLs) (st : List aV) (M : aM) : go X 148 26 la st M = kC X 148 (i_go 30 la st M) := evC ((pm148 X 26).trans rfl) la st M
theorem e148_29 (X : aX) (la : aLs) (st : List aV) (M : aM) : go X 148 29 la st M = kC X 148 (i_ci (nI 0) 30 la st M) := evC ((pm148 X 29).trans rfl) la st M
theorem e148_30 (X : aX) (la : aLs) (st : List aV) (M : aM) : go X 148 30 la st M = kC X 148 (i_bin (fun x y => x ||| y) 31 la st M) := evC ((pm148 X 30).trans rfl) la st M
theorem e148_31 (X : aX) (la : aLs) (st : List aV) (M : aM) : go X 148 31 la st M = kC X 148 (i_sti 1 32 la st M) := evC ((pm148 X 31).trans rfl) la st M
theorem e148_32 (X : aX) (la : aLs) (st : List aV) (M : aM) : go X 148 32 la st M = kC X 148 (i_inc 2 (nI 1) 35 la st M) := evC ((pm148 X 32).trans rfl) la st M
theorem e148_35 (X : aX) (la : aLs) (st : List aV) (M : aM) : go X 148 35 la st M = kC X 148 (i_go 4 la st M) := evC ((pm148 X 35).trans rfl) la st M
theorem e148_38 (X : aX) (la : aLs) (st : List aV) (M : aM) : go X 148 38 la st M = kC X 148 (i_ldi 1 39 la st M) := evC ((pm148 X 38).trans rfl) la st M
theorem e148_39 (X : aX) (la : aLs) (st : List aV) (M : aM) : go X 148 39 la st M = i_irt st M := evR ((pm148 X 39).trans rfl) la st M
theorem c148 (X : aX) (as : List aV) (M : aM) : cl X 148 as M = if cs as ≤ 3 then go X 148 0 (ent 3 as) [] M else none := rfl
theorem pm149 (X : aX) (pc : Nat) : pg X 149 pc = lk pc (tb149 X) := rfl
theorem e149_0 (X : aX) (la : aLs) (st : List aV) (M : aM) : go X 149 0 la st M = kC X 149 (i_ldi 1 1 la st M) := evC ((pm149 X 0).trans rfl) la st M
theorem e149_1 (X : aX) (la : aLs) (st : List aV) (M : aM) : go X 149 1 la st M = kC X 149 (i_ci (nI 1) 2 la st M) := evC ((pm149 X 1).trans rfl) la st M
theorem e149_2 (X : aX) (la : aLs) (st : List aV) (M : aM) : go X 149 2 la st M = kC X 149 (i_ci (nI 60) 4 la st M) := evC ((pm149 X 2).trans rfl) la st M
theorem e149_4 (X : aX) (la : aLs) (st : List aV) (M : aM) : go X 149 4 la st M = kK X 149 114 3 7 0 la st M := evK ((pm149 X 4).trans rfl) la st M
theorem e149_7 (X : aX) (la : aLs) (st : List aV) (M : aM) : go X 149 7 la st M = kC X 149 (i_ife 10 17 la st M) := evC ((pm149 X 7).trans rfl) la st M
theorem e149_10 (X : aX) (la : aLs) (st : List aV) (M : aM) : go X 149 10 la st M = kC X 149 (i_lda 0 11 la st M) := evC ((pm149 X 10).trans rfl) la st M
theorem e149_11 (X : aX) (la : aLs) (st : List aV) (M : aM) : go X 149 11 la st M = kC X 149 (i_ci (-1000001) 13 la st M) := evC ((pm149 X 11).trans rfl) la st M
theorem e149_13 (X : aX) (la : aLs) (st : List aV) (M : aM) : go X 149 13 la st M = kK X 149 113 2 16 7 la st M := evK ((pm149 X 13).trans rfl) la st M
theorem e149_16 (X : aX) (la : aLs) (st : List aV) (M : aM) : go X 149 16 la st M = i_irt st M := evR ((pm149 X 16).trans rfl) la st M
theorem e149_17 (X : aX) (la : aLs) (st : List aV) (M : aM) : go X 149 17 la st M = kC X 149 (i_lda 0 18 la st M) := evC ((pm149 X 17).trans rfl) la st M
theorem e149_18 (X : aX) (la : aLs) (st : List aV) (M : aM) : go X 149 18 la st M = kC X 149 (i_get 6 0 21 la st M) := evC ((pm149 X 18).trans rfl) la st M
theorem e149_21 (X : aX) (la : aLs) (st : List aV) (M : aM) : go X 149 21 la st M = kC X 149 (i_ci (nI 0) 22 la st M) := evC ((pm149 X 21).trans rfl) la st M
theorem e149_22 (X : aX) (la : aLs) (st : List aV) (M : aM) : go X 149 22 la st M = kC X 149 (i_ial X 23 la st M) := evC ((pm149 X 22).trans rfl) la st M
theorem e149_23 (X : aX) (la : aLs) (st : List aV) (M : aM) : go X 149 23 la st M = kC X 149 (i_ldi 1 24 la st M) := evC ((pm149 X 23).trans rfl) la st M
theorem e149_24 (X : aX) (la : aLs) (st : List aV) (M : aM) : go X 149 24 la st M = kC X 149 (i_bin (fun x y => x + y) 25 la st M) := evC ((pm149 X 24).trans rfl) la st M
theorem e149_25 (X : aX) (la : aLs) (st : List aV) (M : aM) : go X 149 25 la st M = kC X 149 (i_ci (nI 99999) 27 la st M) := evC ((pm149 X 25).trans rfl) la st M
theorem e149_27 (X : aX) (la : aLs) (st : List aV) (M : aM) : go X 149 27 la st M = kC X 149 (i_cmg 30 37 la st M) := evC ((pm149 X 27).trans rfl) la st M
theorem e149_30 (X : aX) (la : aLs) (st : List aV) (M : aM) : go X 149 30 la st M = kC X 149 (i_lda 0 31 la st M) := evC ((pm149 X 30).trans rfl) la st M
theorem e149_31 (X : aX) (la : aLs) (st : List aV) (M : aM) : go X 149 31 la st M = kC X 149 (i_ci (-1000005) 33 la st M) := evC ((pm149 X 31).trans rfl) la st M
theorem e149_33 (X : aX) (la : aLs) (st : List aV) (M : aM) : go X 149 33 la st M = kK X 149 113 2 36 7 la st M := evK ((pm149 X 33).trans rfl) la st M
theorem e149_36 (X : aX) (la : aLs) (st : List aV) (M : aM) : go X 149 36 la st M = i_irt st M := evR ((pm149 X 36).trans rfl) la st M
theorem e149_37 (X : aX) (la : aLs) (st : List aV) (M : aM) : go X 149 37 la st M = kC X 149 (i_lda 0 38 la st M) := evC ((pm149 X 37).trans rfl) la st M
theorem e149_38 (X : aX) (la : aLs) (st : List aV) (M : aM) : go X 149 38 la st M = kC X 149 (i_ldi 1 39 la st M) := evC ((pm149 X 38).trans rfl) la st M
theorem e149_39 (X : aX) (la : aLs) (st : List aV) (M : aM) : go X 149 39 la st M = kK X 149 147 2 42 7 la st M := evK ((pm149 X 39).trans rfl) la st M
theorem e149_42 (X : aX) (la : aLs) (st : List aV) (M : aM) : go X 149 42 la st M = kC X 149 (i_lda 0 43 la st M) := evC ((pm149 X 42).trans rfl) la st M
theorem e149_43 (X : aX) (la : aLs) (st : List aV) (M : aM) : go X 149 43 la st M = kK X 149 148 1 46 7 la st M := evK ((pm149 X 43).trans rfl) la st M
theorem e149_46 (X : aX) (la : aLs) (st : List aV) (M : aM) : go X 149 46 la st M = i_irt st M := evR ((pm149 X 46).trans rfl) la st M
theorem c149 (X : aX) (as : List aV) (M : aM) : cl X 149 as M = if cs as ≤ 2 then go X 149 0 (ent 2 as) [] M else none := rfl
theorem pm150 (X : aX) (pc : Nat) : pg X 150 pc = lk pc (tb150 X) := rfl
theorem e150_0 (X : aX) (la : aLs) (st : List aV) (M : aM) : go X 150 0 la st M = kC X 150 (i_ci (nI 0) 1 la st M) := evC ((pm150 X 0).trans rfl) la st M
theorem e150_1 (X : aX) (la : aLs) (st : List aV) (M : aM) : go X 150 1 la st M = kC X 150 (i_sti 1 2 la st M) := evC ((pm150 X 1).trans rfl) la st M
theorem e150_2 (X : aX) (la : aLs) (st : List aV) (M : aM) : go X 150 2 la st M = kC X 150 (i_ci (nI 0) 3 la st M) := evC ((pm150 X 2).trans rfl) la st M
theorem e150_3 (X : aX) (la : aLs) (st : List aV) (M : aM) : go X 150 3 la st M = kC X 150 (i_sti 2 4 la st M) := evC ((pm150 X 3).trans rfl) la st M
theorem e150_4 (X : aX) (la : aLs) (st : List aV) (M : aM) : go X 150 4 la st M = kC X 150 (i_ldi 2 5 la st M) := evC ((pm150 X 4).trans rfl) la st M
theorem e150_5 (X : aX) (la : aLs) (st : List aV) (M : aM) : go X 150 5 la st M = kC X 150 (i_lda 0 6 la st M) := evC ((pm150 X 5).trans rfl) la st M
theorem e150_6 (X : aX) (la : aLs) (st : List aV) (M : aM) : go X 150 6 la st M = kC X 150 (i_get 6 0 9 la st M) := evC ((pm150 X 6).trans rfl) la st M
theorem e150_9 (X : aX) (la : aLs) (st : List aV) (M : aM) : go X 150 9 la st M = kC X 150 (i_ci (nI 1) 10 la st M) := evC ((pm150 X 9).trans rfl) la st M
theorem e150_10 (X : aX) (la : aLs) (st : List aV) (M : aM) : go X 150 10 la st M = kC X 150 (i_ial X 11 la st M) := evC ((pm150 X 10).trans rfl) la st M
theorem e150_11 (X : aX) (la : aLs) (st : List aV) (M : aM) : go X 150 11 la st M = kC X 150 (i_cml 14 48 la st M) := evC ((pm150 X 11).trans rfl) la st M
theorem e150_14 (X : aX) (la : aLs) (st : List aV) (M : aM) : go X 150 14 la st M = kC X 150 (i_ldi 1 15 la st M) := evC ((pm150 X 14).trans rfl) la st M
theorem e150_15 (X : aX) (la : aLs) (st : List aV) (M : aM) : go X 150 15 la st M = kC X 150 (i_lda 0 16 la st M) := evC ((pm150 X 15).trans rfl) la st M
theorem e150_16 (X : aX) (la : aLs) (st : List aV) (M : aM) : go X 150 16 la st M = kC X 150 (i_ldi 2 17 la st M) := evC ((pm150 X 16).trans rfl) la st M
theorem e150_17 (X : aX) (la : aLs) (st : List aV) (M : aM) : go X 150 17 la st M = kK X 150 127 2 20 7 la st M := evK ((pm150 X 17).trans rfl) la st M
theorem e150_20 (X : aX) (la : aLs) (st : List aV) (M : aM) : go X 150 20 la st M = kC X 150 (i_ife 23 39 la st M) := evC ((pm150 X 20).trans rfl) la st M
theorem e150_23 (X : aX) (la : aLs) (st : List aV) (M : aM) : go X 150 23 la st M = kC X 150 (i_lda 0 24 la st M) := evC ((pm150 X 23).trans rfl) la st M
theorem e150_24 (X : aX) (la : aLs) (st : List aV) (M : aM) : go X 150 24 la st M = kC X 150 (i_ldi 2 25 la st M) := evC ((pm150 X 24).trans rfl) la st M
theorem e150_25 (X : aX) (la : aLs) (st : List aV) (M : aM) : go X 150 25 la st M = kC X 150 (i_ci (nI 8) 27 la st M) := evC ((pm150 X 25).trans rfl) la st M
theorem e150_27 (X : aX) (la : aLs) (st : List aV) (M : aM) : go X 150 27 la st M = kK X 150 122 3 30 7 la st M := evK ((pm150 X 27).trans rfl) la st M
theorem e150_30 (X : aX) (la : aLs) (st : List aV) (M : aM) : go X 150 30 la st M = kC X 150 (i_ifg 33 39 la st M) := evC ((pm150 X 30).trans rfl) la st M
theorem e150_33 (X : aX) (la : aLs) (st : List aV) (M : aM) : go X 150 33 la st M = kC X 150 (i_ci (nI 1) 34 la st M) := evC ((pm150 X 33).trans rfl) la st M
theorem e150_34 (X : aX) (la : aLs) (st : List aV) (M : aM) : go X 150 34 la st M = kC X 150 (i_ldi 2 35 la st M) := evC ((pm150 X 34).trans rfl) la st M
theorem e150_35 (X : aX) (la : aLs) (st : List aV) (M : aM) : go X 150 35 la st M = kC X 150 (i_bin (fun x y => x <<< (y &&& 31)) 36 la st M) := evC ((pm150 X 35).trans rfl) la st M
theorem e150_36 (X : aX) (la : aLs) (st : List aV) (M : aM) : go X 150 36 la st M = kC X 150 (i_go 40 la st M) := evC ((pm150 X 36).trans rfl) la st M
theorem e150_39 (X : aX) (la : aLs) (st : List aV) (M : aM) : go X 150 39 la st M = kC X 150 (i_ci (nI 0) 40 la st M) := evC ((pm150 X 39).trans rfl) la st M
theorem e150_40 (X : aX) (la : aLs) (st : List aV) (M : aM) : go X 150 40 la st M = kC X 150 (i_bin (fun x y => x ||| y) 41 la st M) := evC ((pm150 X 40).trans rfl) la st M
theorem e150_41 (X : aX) (la : aLs) (st : List aV) (M : aM) : go X 150 41 la st M = kC X 150 (i_sti 1 42 la st M) := evC ((pm150 X 41).trans rfl) la st M
theorem e150_42 (X : aX) (la : aLs) (st : List aV) (M : aM) : go X 150 42 la st M = kC X 150 (i_inc 2 (nI 1) 45 la st M) := evC ((pm150 X 42).trans rfl) la st M
theorem e150_45 (X : aX) (la : aLs) (st : List aV) (M : aM) : go X 150 45 la st M = kC X 150 (i_go 4 la st M) := evC ((pm150 X 45).trans rfl) la st M
theorem e150_48 (X : aX) (la : aLs) (st : List aV) (M : aM) : go X 150 48 la st M = kC X 150 (i_ldi 1 49 la st M) := evC ((pm150 X 48).trans rfl) la st M
theorem e150_49 (X : aX) (la : aLs) (st : List aV) (M : aM) : go X 150 49 la st M = i_irt st M := evR ((pm150 X 49).trans rfl) la st M
theorem c150 (X : aX) (as : List aV) (M : aM) : cl X 150 as M = if cs as ≤ 3 then go X 150 0 (ent 3 as) [] M else none := rfl
theorem pm151 (X : aX) (pc : Nat) : pg X 151 pc = lk pc (tb151 X) := rfl
theorem e151_0 (X : aX) (la : aLs) (st : List aV) (M : aM) : go X 151 0 la st M = kC X 151 (i_ci (nI 0) 1 la st M) := evC ((pm151 X 0).trans rfl) la st M
theorem e151_1 (X : aX) (la : aLs) (st : List aV) (M : aM) : go X 151 1 la st M = kC X 151 (i_sti 1 2 la st M) := evC ((pm151 X 1).trans rfl) la st M
theorem e151_2 (X : aX) (la : aLs) (st : List aV) (M : aM) : go X 151 2 la st M = kC X 151 (i_ci (nI 0) 3 la st M) := evC ((pm151 X 2).trans rfl) la st M
theorem e151_3 (X : aX) (la : aLs) (st : List aV) (M : aM) : go X 151 3 la st M = kC X 151 (i_sti 2 4 la st M) := evC ((pm151 X 3).trans rfl) la st M
theorem e151_4 (X : aX) (la : aLs) (st : List aV) (M : aM) : go X 151 4 la st M = kC X 151 (i_ldi 2 5 la st M) := evC ((pm151 X 4).trans rfl) la st M
theorem e151_5 (X : aX) (la : aLs) (st : List aV) (M : aM) : go X 151 5 la st M = kC X 151 (i_lda 0 6 la st M) := evC ((pm151 X 5).trans rfl) la st M
theorem e151_6 (X : aX) (la : aLs) (st : List aV) (M : aM) : go X 151 6 la st M = kC X 151 (i_get 6 0 9 la st M) := evC ((pm151 X 6).trans rfl) la st M
theorem e151_9 (X : aX) (la : aLs) (st : List aV) (M : aM) : go X 151 9 la st M = kC X 151 (i_ci (nI 1) 10 la st M) := evC ((pm151 X 9).trans rfl) la st M
theorem e151_10 (X : aX) (la : aLs) (st : List aV) (M : aM) : go X 151 10 la st M = kC X 151 (i_ial X 11 la st M) := evC ((pm151 X 10).trans rfl) la st M
theorem e151_11 (X : aX) (la : aLs) (st : List aV) (M : aM) : go X 151 11 la st M = kC X 151 (i_cml 14 32 la st M) := evC ((pm151 X 11).trans rfl) la st M
theorem e151_14 (X : aX) (la : aLs) (st : List aV) (M : aM) : go X 151 14 la st M = kC X 151 (i_ldi 1 15 la st M) := evC ((pm151 X 14).trans rfl) la st M
theorem e151_15 (X : aX) (la : aLs) (st : List aV) (M : aM) : go X 151 15 la st M = kC X 151 (i_lda 0 16 la st M) := evC ((pm151 X 15).trans rfl) la st M
theorem e151_16 (X : aX) (la : aLs) (st : List aV) (M : aM) : go X 151 16 la st M = kC X 151 (i_ldi 2 17 la st M) := evC ((pm151 X 16).trans rfl) la st M
theorem e151_17 (X : aX) (la : aLs) (st : List aV) (M : aM) : go X 151 17 la st M = kC X 151 (i_ci (nI 6) 19 la st M) := evC ((pm151 X 17).trans rfl) la st M
theorem e151_19 (X : aX) (la : aLs) (st : List aV) (M : aM) : go X 151 19 la st M = kK X 151 122 3 22 7 la st M := evK ((pm151 X 19).trans rfl) la st M
theorem e151_22 (X : aX) (la : aLs) (st : List aV) (M : aM) : go X 151 22 la st M = kC X 151 (i_ldi 2 23 la st M) := evC ((pm151 X 22).trans rfl) la st M
theorem e151_23 (X : aX) (la : aLs) (st : List aV) (M : aM) : go X 151 23 la st M = kC X 151 (i_bin (fun x y => x <<< (y &&& 31)) 24 la st M) := evC ((pm151 X 23).trans rfl) la st M
theorem e151_24 (X : aX) (la : aLs) (st : List aV) (M : aM) : go X 151 24 la st M = kC X 151 (i_bin (fun x y => x ||| y) 25 la st M) := evC ((pm151 X 24).trans rfl) la st M
theorem e151_25 (X : aX) (la : aLs) (st : List aV) (M : aM) : go X 151 25 la st M = kC X 151 (i_sti 1 26 la st M) := evC ((pm151 X 25).trans rfl) la st M
theorem e151_26 (X : aX) (la : aLs) (st : List aV) (M : aM) : go X 151 26 la st M = kC X 151 (i_inc 2 (nI 1) 29 la st M) := evC ((pm151 X 26).trans rfl) la st M
theorem e151_29 (X : aX) (la : aLs) (st : List aV) (M : aM) : go X 151 29 la st M = kC X 151 (i_go 4 la st M) := evC ((pm151 X 29).trans rfl) la st M
theorem e151_32 (X : aX) (la : aLs) (st : List aV) (M : aM) : go X 151 32 la st M = kC X 151 (i_ldi 1 33 la st M) := evC ((pm151 X 32).trans rfl) la st M
theorem e151_33 (X : aX) (la : aLs) (st : List aV) (M : aM) : go X 151 33 la st M = i_irt st M := evR ((pm151 X 33).trans rfl) la st M
theorem c151 (X : aX) (as : List aV) (M : aM) : cl X 151 as M = if cs as ≤ 3 then go X 151 0 (ent 3 as) [] M else none := rfl
theorem pm152 (X : aX) (pc : Nat) : pg X 152 pc = lk pc (tb152 X) := rfl
theorem e152_0 (X : aX) (la : aLs) (st : List aV) (M : aM) : go X 152 0 la st M = kC X 152 (i_ci (nI 0) 1 la st M) := evC ((pm152 X 0).trans rfl) la st M
theorem e152_1 (X : aX) (la : aLs) (st : List aV) (M : aM) : go X 152 1 la st M = kC X 152 (i_sti 2 2 la st M) := evC ((pm152 X 1).trans rfl) la st M
theorem e152_2 (X : aX) (la : aLs) (st : List aV) (M : aM) : go X 152 2 la st M = kC X 152 (i_ci (nI 0) 3 la st M) := evC ((pm152 X 2).trans rfl) la st M
theorem e152_3 (X : aX) (la : aLs) (st : List aV) (M : aM) : go X 152 3 la st M = kC X 152 (i_sti 3 4 la st M) := evC ((pm152 X 3).trans rfl) la st M
theorem e152_4 (X : aX) (la : aLs) (st : List aV) (M : aM) : go X 152 4 la st M = kC X 152 (i_ldi 3 5 la st M) := evC ((pm152 X 4).trans rfl) la st M
theorem e152_5 (X : aX) (la : aLs) (st : List aV) (M : aM) : go X 152 5 la st M = kC X 152 (i_lda 0 6 la st M) := evC ((pm152 X 5).trans rfl) la st M
theorem e152_6 (X : aX) (la : aLs) (st : List aV) (M : aM) : go X 152 6 la st M = kC X 152 (i_get 6 0 9 la st M) := evC ((pm152 X 6).trans rfl) la st M
theorem e152_9 (X : aX) (la : aLs) (st : List aV) (M : aM) : go X 152 9 la st M = kC X 152 (i_ci (nI 1) 10 la st M) := evC ((pm152 X 9).trans rfl) la st M
theorem e152_10 (X : aX) (la : aLs) (st : List aV) (M : aM) : go X 152 10 la st M = kC X 152 (i_ial X 11 la st M) := evC ((pm152 X 10).trans rfl) la st M
theorem e152_11 (X : aX) (la : aLs) (st : List aV) (M : aM) : go X 152 11 la st M = kC X 152 (i_cml 14 29 la st M) := evC ((pm152 X 11).trans rfl) la st M
theorem e152_14 (X : aX) (la : aLs) (st : List aV) (M : aM) : go X 152 14 la st M = kC X 152 (i_ldi 2 15 la st M) := evC ((pm152 X 14).trans rfl) la st M
theorem e152_15 (X : aX) (la : aLs) (st : List aV) (M : aM) : go X 152 15 la st M = kC X 152 (i_lda 0 16 la st M) := evC ((pm152 X 15).trans rfl) la st M
theorem e152_16 (X : aX) (la : aLs) (st : List aV) (M : aM) : go X 152 16 la st M = kC X 152 (i_ldi 3 17 la st M) := evC ((pm152 X 16).trans rfl) la st M
theorem e152_17 (X : aX) (la : aLs) (st : List aV) (M : aM) : go X 152 17 la st M = kC X 152 (i_ldi 1 18 la st M) := evC ((pm152 X 17).trans rfl) la st M
theorem e152_18 (X : aX) (la : aLs) (st : List aV) (M : aM) : go X 152 18 la st M = kK X 152 122 3 21 7 la st M := evK ((pm152 X 18).trans rfl) la st M
theorem e152_21 (X : aX) (la : aLs) (st : List aV) (M : aM) : go X 152 21 la st M = kC X 152 (i_bin (fun x y => x + y) 22 la st M) := evC ((pm152 X 21).trans rfl) la st M
theorem e152_22 (X : aX) (la : aLs) (st : List aV) (M : aM) : go X 152 22 la st M = kC X 152 (i_sti 2 23 la st M) := evC ((pm152 X 22).trans rfl) la st M
theorem e152_23 (X : aX) (la : aLs) (st : List aV) (M : aM) : go X 152 23 la st M = kC X 152 (i_inc 3 (nI 1) 26 la st M) := evC ((pm152 X 23).trans rfl) la st M
theorem e152_26 (X : aX) (la : aLs) (st : List aV) (M : aM) : go X 152 26 la st M = kC X 152 (i_go 4 la st M) := evC ((pm152 X 26).trans rfl) la st M
theorem e152_29 (X : aX) (la : aLs) (st : List aV) (M : aM) : go X 152 29 la st M = kC X 152 (i_ldi 2 30 la st M) := evC ((pm152 X 29).trans rfl) la st M
theorem e152_30 (X : aX) (la : aLs) (st : List aV) (M : aM) : go X 152 30 la st M = i_irt st M := evR ((pm152 X 30).trans rfl) la st M
theorem c152 (X : aX) (as : List aV) (M : aM) : cl X 152 as M = if cs as ≤ 4 then go X 152 0 (ent 4 as) [] M else none := rfl
theorem pm153 (X : aX) (pc : Nat) : pg X 153 pc = lk pc (tb153 X) := rfl
theorem e153_0 (X : aX) (la : aLs) (st : List aV) (M : aM) : go X 153 0 la st M = kC X 153 (i_ldi 1 1 la st M) := evC ((pm153 X 0).trans rfl) la st M
theorem e153_1 (X : aX) (la : aLs) (st : List aV) (M : aM) : go X 153 1 la st M = kC X 153 (i_sw [(nI 0, 48), (nI 1, 55), (nI 2, 60), (nI 3, 65), (nI 4, 72), (nI 5, 79), (nI 6, 84), (nI 7, 90)] 100 la st M) := evC ((pm153 X 1).trans rfl) la st M
theorem e153_48 (X : aX) (la : aLs) (st : List aV) (M : aM) : go X 153 48 la st M = kC X 153 (i_lda 0 49 la st M) := evC ((pm153 X 48).trans rfl) la st M
theorem e153_49 (X : aX) (la : aLs) (st : List aV) (M : aM) : go X 153 49 la st M = kC X 153 (i_get 6 0 52 la st M) := evC ((pm153 X 49).trans rfl) la st M
theorem e153_52 (X : aX) (la : aLs) (st : List aV) (M : aM) : go X 153 52 la st M = kC X 153 (i_ci (nI 0) 53 la st M) := evC ((pm153 X 52).trans rfl) la st M
theorem e153_53 (X : aX) (la : aLs) (st : List aV) (M : aM) : go X 153 53 la st M = kC X 153 (i_ial X 54 la st M) := evC ((pm153 X 53).trans rfl) la st M
theorem e153_54 (X : aX) (la : aLs) (st : List aV) (M : aM) : go X 153 54 la st M = i_irt st M := evR ((pm153 X 54).trans rfl) la st M
theorem e153_55 (X : aX) (la : aLs) (st : List aV) (M : aM) : go X 153 55 la st M = kC X 153 (i_lda 0 56 la st M) := evC ((pm153 X 55).trans rfl) la st M
theorem e153_56 (X : aX) (la : aLs) (st : List aV) (M : aM) : go X 153 56 la st M = kK X 153 148 1 59 7 la st M := evK ((pm153 X 56).trans rfl) la st M
theorem e153_59 (X : aX) (la : aLs) (st : List aV) (M : aM) : go X 153 59 la st M = i_irt st M := evR ((pm153 X 59).trans rfl) la st M
theorem e153_60 (X : aX) (la : aLs) (st : List aV) (M : aM) : go X 153 60 la st M = kC X 153 (i_lda 0 61 la st M) := evC ((pm153 X 60).trans rfl) la st M
theorem e153_61 (X : aX) (la : aLs) (st : List aV) (M : aM) : go X 153 61 la st M = kK X 153 150 1 64 7 la st M := evK ((pm153 X 61).trans rfl) la st M
theorem e153_64 (X : aX) (la : aLs) (st : List aV) (M : aM) : go X 153 64 la st M = i_irt st M := evR ((pm153 X 64).trans rfl) la st M
theorem e153_65 (X : aX) (la : aLs) (st : List aV) (M : aM) : go X 153 65 la st M = kC X 153 (i_lda 0 66 la st M) := evC ((pm153 X 65).trans rfl) la st M
theorem e153_66 (X : aX) (la : aLs) (st : List aV) (M : aM) : go X 153 66 la st M = kC X 153 (i_get 6 0 69 la st M) := evC ((pm153 X 66).trans rfl) la st M
theorem e153_69 (X : aX) (la : aLs) (st : List aV) (M : aM) : go X 153 69 la st M = kC X 153 (i_ci (nI 3) 70 la st M) := evC ((pm153 X 69).trans rfl) la st M
theorem e153_70 (X : aX) (la : aLs) (st : List aV) (M : aM) : go X 153 70 la st M = kC X 153 (i_ial X 71 la st M) := evC ((pm153 X 70).trans rfl) la st M
theorem e153_71 (X : aX) (la : aLs) (st : List aV) (M : aM) : go X 153 71 la st M = i_irt st M := evR ((pm153 X 71).trans rfl) la st M
theorem e153_72 (X : aX) (la : aLs) (st : List aV) (M : aM) : go X 153 72 la st M = kC X 153 (i_lda 0 73 la st M) := evC ((pm153 X 72).trans rfl) la st M
theorem e153_73 (X : aX) (la : aLs) (st : List aV) (M : aM) : go X 153 73 la st M = kC X 153 (i_ci (nI 9) 75 la st M) := evC ((pm153 X 73).trans rfl) la st M
theorem e153_75 (X : aX) (la : aLs) (st : List aV) (M : aM) : go X 153 75 la st M = kK X 153 152 2 78 7 la st M := evK ((pm153 X 75).trans rfl) la st M
theorem e153_78 (X : aX) (la : aLs) (st : List aV) (M : aM) : go X 153 78 la st M = i_irt st M := evR ((pm153 X 78).trans rfl) la st M
theorem e153_79 (X : aX) (la : aLs) (st : List aV) (M : aM) : go X 153 79 la st M = kC X 153 (i_lda 0 80 la st M) := evC ((pm153 X 79).trans rfl) la st M
theorem e153_80 (X : aX) (la : aLs) (st : List aV) (M : aM) : go X 153 80 la st M = kK X 153 151 1 83 7 la st M := evK ((pm153 X 80).trans rfl) la st M
theorem e153_83 (X : aX) (la : aLs) (st : List aV) (M : aM) : go X 153 83 la st M = i_irt st M := evR ((pm153 X 83).trans rfl) la st M
theorem e153_84 (X : aX) (la : aLs) (st : List aV) (M : aM) : go X 153 84 la st M = kC X 153 (i_lda 0 85 la st M) := evC ((pm153 X 84).trans rfl) la st M
theorem e153_85 (X : aX) (la : aLs) (st : List aV) (M : aM) : go X 153 85 la st M = kC X 153 (i_ci (nI 3) 86 la st M) := evC ((pm153 X 85).trans rfl) la st M
theorem e153_86 (X : aX) (la : aLs) (st : List aV) (M : aM) : go X 153 86 la st M = kK X 153 152 2 89 7 la st M := evK ((pm153 X 86).trans rfl) la st M
theorem e153_89 (X : aX) (la : aLs) (st : List aV) (M : aM) : go X 153 89 la st M = i_irt st M := evR ((pm153 X 89).trans rfl) la st M
theorem e153_90 (X : aX) (la : aLs) (st : List aV) (M : aM) : go X 153 90 la st M = kC X 153 (i_lda 0 91 la st M) := evC ((pm153 X 90).trans rfl) la st M
theorem e153_91 (X : aX) (la : aLs) (st : List aV) (M : aM) : go X 153 91 la st M = kC X 153 (i_get 6 0 94 la st M) := evC ((pm153 X 91).trans rfl) la st M
theorem e153_94 (X : aX) (la : aLs) (st : List aV) (M : aM) : go X 153 94 la st M = kC X 153 (i_ci (nI 0) 95 la st M) := evC ((pm153 X 94).trans rfl) la st M
theorem e153_95 (X : aX) (la : aLs) (st : List aV) (M : aM) : go X 153 95 la st M = kC X 153 (i_ial X 96 la st M) := evC ((pm153 X 95).trans rfl) la st M
theorem e153_96 (X : aX) (la : aLs) (st : List aV) (M : aM) : go X 153 96 la st M = kC X 153 (i_ci (nI 60) 98 la st M) := evC ((pm153 X 96).trans rfl) la st M
theorem e153_98 (X : aX) (la : aLs) (st : List aV) (M : aM) : go X 153 98 la st M = kC X 153 (i_div (fun x y => x - x / y * y) 99 la st M) := evC ((pm153 X 98).trans rfl) la st M
theorem e153_99 (X : aX) (la : aLs) (st : List aV) (M : aM) : go X 153 99 la st M = i_irt st M := evR ((pm153 X 99).trans rfl) la st M
theorem e153_100 (X : aX) (la : aLs) (st : List aV) (M : aM) : go X 153 100 la st M = kC X 153 (i_lda 0 101 la st M) := evC ((pm153 X 100).trans rfl) la st M
theorem e153_101 (X : aX) (la : aLs) (st : List aV) (M : aM) : go X 153 101 la st M = kC X 153 (i_ci (-1000001) 103 la st M) := evC ((pm153 X 101).trans rfl) la st M
theorem e153_103 (X : aX) (la : aLs) (st : List aV) (M : aM) : go X 153 103 la st M = kK X 153 113 2 106 7 la st M := evK ((pm153 X 103).trans rfl) la st M
theorem e153_106 (X : aX) (la : aLs) (st : List aV) (M : aM) : go X 153 106 la st M = i_irt st M := evR ((pm153 X 106).trans rfl) la st M
theorem c153 (X : aX) (as : List aV) (M : aM) : cl X 153 as M = if cs as ≤ 2 then go X 153 0 (ent 2 as) [] M else none := rfl
theorem pm154 (X : aX) (pc : Nat) : pg X 154 pc = lk pc (tb154 X) := rfl
theorem e154_0 (X : aX) (la : aLs) (st : List aV) (M : aM) : go X 154 0 la st M = kC X 154 (i_lda 0 1 la st M) := evC ((pm154 X 0).trans rfl) la st M
theorem e154_1 (X : aX) (la : aLs) (st : List aV) (M : aM) : go X 154 1 la st M = kC X 154 (i_get 6 0 4 la st M) := evC ((pm154 X 1).trans rfl) la st M
theorem e154_4 (X : aX) (la : aLs) (st : List aV) (M : aM) : go X 154 4 la st M = kC X 154 (i_lda 0 5 la st M) := evC ((pm154 X 4).trans rfl) la st M
theorem e154_5 (X : aX) (la : aLs) (st : List aV) (M : aM) : go X 154 5 la st M = kC X 154 (i_get 6 2 8 la st M) := evC ((pm154 X 5).trans rfl) la st M
theorem e154_8 (X : aX) (la : aLs) (st : List aV) (M : aM) : go X 154 8 la st M = kK X 154 116 2 11 0 la st M := evK ((pm154 X 8).trans rfl) la st M
theorem e154_11 (X : aX) (la : aLs) (st : List aV) (M : aM) : go X 154 11 la st M = kC X 154 (i_lda 0 12 la st M) := evC ((pm154 X 11).trans rfl) la st M
theorem e154_12 (X : aX) (la : aLs) (st : List aV) (M : aM) : go X 154 12 la st M = kC X 154 (i_ldi 2 13 la st M) := evC ((pm154 X 12).trans rfl) la st M
theorem e154_13 (X : aX) (la : aLs) (st : List aV) (M : aM) : go X 154 13 la st M = kK X 154 147 2 16 7 la st M := evK ((pm154 X 13).trans rfl) la st M
theorem e154_16 (X : aX) (la : aLs) (st : List aV) (M : aM) : go X 154 16 la st M = kC X 154 (i_lda 0 17 la st M) := evC ((pm154 X 16).trans rfl) la st M
theorem e154_17 (X : aX) (la : aLs) (st : List aV) (M : aM) : go X 154 17 la st M = kC X 154 (i_lda 0 18 la st M) := evC ((pm154 X 17).trans rfl) la st M
theorem e154_18 (X : aX) (la : aLs) (st : List aV) (M : aM) : go X 154 18 la st M = kC X 154 (i_get 6 0 21 la st M) := evC ((pm154 X 18).trans rfl) la st M
theorem e154_21 (X : aX) (la : aLs) (st : List aV) (M : aM) : go X 154 21 la st M = kC X 154 (i_ldi 1 22 la st M) := evC ((pm154 X 21).trans rfl) la st M
theorem e154_22 (X : aX) (la : aLs) (st : List aV) (M : aM) : go X 154 22 la st M = kC X 154 (i_ial X 23 la st M) := evC ((pm154 X 22).trans rfl) la st M
theorem e154_23 (X : aX) (la : aLs) (st : List aV) (M : aM) : go X 154 23 la st M = kK X 154 117 2 26 7 la st M := evK ((pm154 X 23).trans rfl) la st M
theorem e154_26 (X : aX) (la : aLs) (st : List aV) (M : aM) : go X 154 26 la st M = i_irt st M := evR ((pm154 X 26).trans rfl) la st M
theorem c154 (X : aX) (as : List aV) (M : aM) : cl X 154 as M = if cs as ≤ 3 then go X 154 0 (ent 3 as) [] M else none := rfl
theorem pm155 (X : aX) (pc : Nat) : pg X 155 pc = lk pc (tb155 X) := rfl
theorem e155_0 (X : aX) (la : aLs) (st : List aV) (M : aM) : go X 155 0 la st M = kC X 155 (i_lda 0 1 la st M) := evC ((pm155 X 0).trans rfl) la st M
theorem e155_1 (X : aX) (la : aLs) (st : List aV) (M : aM) : go X 155 1 la st M = kC X 155 (i_get 6 0 4 la st M) := evC ((pm155 X 1).trans rfl) la st M
theorem e155_4 (X : aX) (la : aLs) (st : List aV) (M : aM) : go X 155 4 la st M = kC X 155 (i_lda 0 5 la st M) := evC ((pm155 X 4).trans rfl) la st M
theorem e155_5 (X : aX) (la : aLs) (st : List aV) (M : aM) : go X 155 5 la st M = kC X 155 (i_get 6 2 8 la st M) := evC ((pm155 X 5).trans rfl) la st M
theorem e155_8 (X : aX) (la : aLs) (st : List aV) (M : aM) : go X 155 8 la st M = kK X 155 116 2 11 0 la st M := evK ((pm155 X 8).trans rfl) la st M
theorem e155_11 (X : aX) (la : aLs) (st : List aV) (M : aM) : go X 155 11 la st M = kC X 155 (i_lda 0 12 la st M) := evC ((pm155 X 11).trans rfl) la st M
theorem e155_12 (X : aX) (la : aLs) (st : List aV) (M : aM) : go X 155 12 la st M = kC X 155 (i_ldi 1 13 la st M) := evC ((pm155 X 12).trans rfl) la st M
theorem e155_13 (X : aX) (la : aLs) (st : List aV) (M : aM) : go X 155 13 la st M = kK X 155 147 2 16 7 la st M := evK ((pm155 X 13).trans rfl) la st M
theorem e155_16 (X : aX) (la : aLs) (st : List aV) (M : aM) : go X 155 16 la st M = kC X 155 (i_lda 0 17 la st M) := evC ((pm155 X 16).trans rfl) la st M
theorem e155_17 (X : aX) (la : aLs) (st : List aV) (M : aM) : go X 155 17 la st M = kC X 155 (i_lda 0 18 la st M) := evC ((pm155 X 17).trans rfl) la st M
theorem e155_18 (X : aX) (la : aLs) (st : List aV) (M : aM) : go X 155 18 la st M = kC X 155 (i_ci (nI 9) 20 la st M) := evC ((pm155 X 18).trans rfl) la st M
theorem e155_20 (X : aX) (la : aLs) (st : List aV) (M : aM) : go X 155 20 la st M = kK X 155 152 2 23 7 la st M := evK ((pm155 X 20).trans rfl) la st M
theorem e155_23 (X : aX) (la : aLs) (st : List aV) (M : aM) : go X 155 23 la st M = kK X 155 117 2 26 7 la st M := evK ((pm155 X 23).trans rfl) la st M
theorem e155_26 (X : aX) (la : aLs) (st : List aV) (M : aM) : go X 155 26 la st M = i_irt st M := evR ((pm155 X 26).trans rfl) la st M
theorem c155 (X : aX) (as : List aV) (M : aM) : cl X 155 as M = if cs as ≤ 2 then go X 155 0 (ent 2 as) [] M else none := rfl
theorem pm156 (X : aX) (pc : Nat) : pg X 156 pc = lk pc (tb156 X) := rfl
theorem e156_0 (X : aX) (la : aLs) (st : List aV) (M : aM) : go X 156 0 la st M = kC X 156 (i_ldi 2 1 la st M) := evC ((pm156 X 0).trans rfl) la st M
theorem e156_1 (X : aX) (la : aLs) (st : List aV) (M : aM) : go X 156 1 la st M = kC X 156 (i_ci (nI 3) 2 la st M) := evC ((pm156 X 1).trans rfl) la st M
theorem e156_2 (X : aX) (la : aLs) (st : List aV) (M : aM) : go X 156 2 la st M = kC X 156 (i_ci (nI 4) 3 la st M) := evC ((pm156 X 2).trans rfl) la st M
theorem e156_3 (X : aX) (la : aLs) (st : List aV) (M : aM) : go X 156 3 la st M = kK X 156 114 3 6 0 la st M := evK ((pm156 X 3).trans rfl) la st M
theorem e156_6 (X : aX) (la : aLs) (st : List aV) (M : aM) : go X 156 6 la st M = kC X 156 (i_ife 9 20 la st M) := evC ((pm156 X 6).trans rfl) la st M
theorem e156_9 (X : aX) (la : aLs) (st : List aV) (M : aM) : go X 156 9 la st M = kC X 156 (i_ldi 2 10 la st M) := evC ((pm156 X 9).trans rfl) la st M
theorem e156_10 (X : aX) (la : aLs) (st : List aV) (M : aM) : go X 156 10 la st M = kC X 156 (i_ci (nI 7) 12 la st M) := evC ((pm156 X 10).trans rfl) la st M
theorem e156_12 (X : aX) (la : aLs) (st : List aV) (M : aM) : go X 156 12 la st M = kC X 156 (i_ci (nI 10) 14 la st M) := evC ((pm156 X 12).trans rfl) la st M
theorem e156_14 (X : aX) (la : aLs) (st : List aV) (M : aM) : go X 156 14 la st M = kK X 156 114 3 17 0 la st M := evK ((pm156 X 14).trans rfl) la st M
theorem e156_17 (X : aX) (la : aLs) (st : List aV) (M : aM) : go X 156 17 la st M = kC X 156 (i_ife 24 20 la st M) := evC ((pm156 X 17).trans rfl) la st M
theorem e156_20 (X : aX) (la : aLs) (st : List aV) (M : aM) : go X 156 20 la st M = kC X 156 (i_ci (nI 1) 21 la st M) := evC ((pm156 X 20).trans rfl) la st M
theorem e156_21 (X : aX) (la : aLs) (st : List aV) (M : aM) : go X 156 21 la st M = kC X 156 (i_go 25 la st M) := evC ((pm156 X 21).trans rfl) la st M
theorem e156_24 (X : aX) (la : aLs) (st : List aV) (M : aM) : go X 156 24 la st M = kC X 156 (i_ci (nI 0) 25 la st M) := evC ((pm156 X 24).trans rfl) la st M
theorem e156_25 (X : aX) (la : aLs) (st : List aV) (M : aM) : go X 156 25 la st M = kC X 156 (i_sti 4 27 la st M) := evC ((pm156 X 25).trans rfl) la st M
theorem e156_27 (X : aX) (la : aLs) (st : List aV) (M : aM) : go X 156 27 la st M = kC X 156 (i_lda 0 28 la st M) := evC ((pm156 X 27).trans rfl) la st M
theorem e156_28 (X : aX) (la : aLs) (st : List aV) (M : aM) : go X 156 28 la st M = kC X 156 (i_ldi 1 29 la st M) := evC ((pm156 X 28).trans rfl) la st M
theorem e156_29 (X : aX) (la : aLs) (st : List aV) (M : aM) : go X 156 29 la st M = kK X 156 123 2 32 7 la st M := evK ((pm156 X 29).trans rfl) la st M
theorem e156_32 (X : aX) (la : aLs) (st : List aV) (M : aM) : go X 156 32 la st M = kC X 156 (i_ife 51 35 la st M) := evC ((pm156 X 32).trans rfl) la st M
theorem e156_35 (X : aX) (la : aLs) (st : List aV) (M : aM) : go X 156 35 la st M = kC X 156 (i_ldi 4 37 la st M) := evC ((pm156 X 35).trans rfl) la st M
theorem e156_37 (X : aX) (la : aLs) (st : List aV) (M : aM) : go X 156 37 la st M = kC X 156 (i_ife 51 40 la st M) := evC ((pm156 X 37).trans rfl) la st M
theorem e156_40 (X : aX) (la : aLs) (st : List aV) (M : aM) : go X 156 40 la st M = kC X 156 (i_ldi 3 41 la st M) := evC ((pm156 X 40).trans rfl) la st M
theorem e156_41 (X : aX) (la : aLs) (st : List aV) (M : aM) : go X 156 41 la st M = kC X 156 (i_ci (nI 0) 42 la st M) := evC ((pm156 X 41).trans rfl) la st M
theorem e156_42 (X : aX) (la : aLs) (st : List aV) (M : aM) : go X 156 42 la st M = kC X 156 (i_ci (nI 200) 45 la st M) := evC ((pm156 X 42).trans rfl) la st M
theorem e156_45 (X : aX) (la : aLs) (st : List aV) (M : aM) : go X 156 45 la st M = kK X 156 114 3 48 0 la st M := evK ((pm156 X 45).trans rfl) la st M
theorem e156_48 (X : aX) (la : aLs) (st : List aV) (M : aM) : go X 156 48 la st M = kC X 156 (i_ife 51 58 la st M) := evC ((pm156 X 48).trans rfl) la st M
theorem e156_51 (X : aX) (la : aLs) (st : List aV) (M : aM) : go X 156 51 la st M = kC X 156 (i_lda 0 52 la st M) := evC ((pm156 X 51).trans rfl) la st M
theorem e156_52 (X : aX) (la : aLs) (st : List aV) (M : aM) : go X 156 52 la st M = kC X 156 (i_ci (-1000001) 54 la st M) := evC ((pm156 X 52).trans rfl) la st M
theorem e156_54 (X : aX) (la : aLs) (st : List aV) (M : aM) : go X 156 54 la st M = kK X 156 113 2 57 7 la st M := evK ((pm156 X 54).trans rfl) la st M
theorem e156_57 (X : aX) (la : aLs) (st : List aV) (M : aM) : go X 156 57 la st M = i_irt st M := evR ((pm156 X 57).trans rfl) la st M
theorem e156_58 (X : aX) (la : aLs) (st : List aV) (M : aM) : go X 156 58 la st M = kC X 156 (i_lda 0 59 la st M) := evC ((pm156 X 58).trans rfl) la st M
theorem e156_59 (X : aX) (la : aLs) (st : List aV) (M : aM) : go X 156 59 la st M = kC X 156 (i_get 6 0 62 la st M) := evC ((pm156 X 59).trans rfl) la st M
theorem e156_62 (X : aX) (la : aLs) (st : List aV) (M : aM) : go X 156 62 la st M = kC X 156 (i_lda 0 63 la st M) := evC ((pm156 X 62).trans rfl) la st M
theorem e156_63 (X : aX) (la : aLs) (st : List aV) (M : aM) : go X 156 63 la st M = kC X 156 (i_get 6 2 66 la st M) := evC ((pm156 X 63).trans rfl) la st M
theorem e156_66 (X : aX) (la : aLs) (st : List aV) (M : aM) : go X 156 66 la st M = kK X 156 116 2 69 0 la st M := evK ((pm156 X 66).trans rfl) la st M
theorem e156_69 (X : aX) (la : aLs) (st : List aV) (M : aM) : go X 156 69 la st M = kC X 156 (i_lda 0 70 la st M) := evC ((pm156 X 69).trans rfl) la st M
theorem e156_70 (X : aX) (la : aLs) (st : List aV) (M : aM) : go X 156 70 la st M = kC X 156 (i_ldi 3 71 la st M) := evC ((pm156 X 70).trans rfl) la st M
theorem e156_71 (X : aX) (la : aLs) (st : List aV) (M : aM) : go X 156 71 la st M = kK X 156 147 2 74 7 la st M := evK ((pm156 X 71).trans rfl) la st M
theorem e156_74 (X : aX) (la : aLs) (st : List aV) (M : aM) : go X 156 74 la st M = kC X 156 (i_lda 0 75 la st M) := evC ((pm156 X 74).trans rfl) la st M
theorem e156_75 (X : aX) (la : aLs) (st : List aV) (M : aM) : go X 156 75 la st M = kC X 156 (i_lda 0 76 la st M) := evC ((pm156 X 75).trans rfl) la st M
theorem e156_76 (X : aX) (la : aLs) (st : List aV) (M : aM) : go X 156 76 la st M = kC X 156 (i_ldi 1 77 la st M) := evC ((pm156 X 76).trans rfl) la st M
theorem e156_77 (X : aX) (la : aLs) (st : List aV) (M : aM) : go X 156 77 la st M = kC X 156 (i_ldi 2 78 la st M) := evC ((pm156 X 77).trans rfl) la st M
theorem e156_78 (X : aX) (la : aLs) (st : List aV) (M : aM) : go X 156 78 la st M = kK X 156 134 3 81 7 la st M := evK ((pm156 X 78).trans rfl) la st M
theorem e156_81 (X : aX) (la : aLs) (st : List aV) (M : aM) : go X 156 81 la st M = kK X 156 117 2 84 7 la st M := evK ((pm156 X 81).trans rfl) la st M
theorem e156_84 (X : aX) (la : aLs) (st : List aV) (M : aM) : go X 156 84 la st M = i_irt st M := evR ((pm156 X 84).trans rfl) la st M
theorem c156 (X : aX) (as : List aV) (M : aM) : cl X 156 as M = if cs as ≤ 5 then go X 156 0 (ent 5 as) [] M else none := rfl
theorem pm157 (X : aX) (pc : Nat) : pg X 157 pc = lk pc (tb157 X) := rfl
theorem e157_0 (X : aX) (la : aLs) (st : List aV) (M : aM) : go X 157 0 la st M = kC X 157 (i_lda 0 1 la st M) := evC ((pm157 X 0).trans rfl) la st M
theorem e157_1 (X : aX) (la : aLs) (st : List aV) (M : aM) : go X 157 1 la st M = kC X 157 (i_get 6 0 4 la st M) := evC ((pm157 X 1).trans rfl) la st M
theorem e157_4 (X : aX) (la : aLs) (st : List aV) (M : aM) : go X 157 4 la st M = kC X 157 (i_lda 0 5 la st M) := evC ((pm157 X 4).trans rfl) la st M
theorem e157_5 (X : aX) (la : aLs) (st : List aV) (M : aM) : go X 157 5 la st M = kC X 157 (i_get 6 2 8 la st M) := evC ((pm157 X 5).trans rfl) la st M
theorem e157_8 (X : aX) (la : aLs) (st : List aV) (M : aM) : go X 157 8 la st M = kK X 157 116 2 11 0 la st M := evK ((pm157 X 8).trans rfl) la st M
theorem e157_11 (X : aX) (la : aLs) (st : List aV) (M : aM) : go X 157 11 la st M = kC X 157 (i_ci (nI 0) 12 la st M) := evC ((pm157 X 11).trans rfl) la st M
theorem e157_12 (X : aX) (la : aLs) (st : List aV) (M : aM) : go X 157 12 la st M = kC X 157 (i_sti 3 13 la st M) := evC ((pm157 X 12).trans rfl) la st M
theorem e157_13 (X : aX) (la : aLs) (st : List aV) (M : aM) : go X 157 13 la st M = kC X 157 (i_ldi 3 14 la st M) := evC ((pm157 X 13).trans rfl) la st M
theorem e157_14 (X : aX) (la : aLs) (st : List aV) (M : aM) : go X 157 14 la st M = kC X 157 (i_ci (nI 400) 17 la st M) := evC ((pm157 X 14).trans rfl) la st M
theorem e157_17 (X : aX) (la : aLs) (st : List aV) (M : aM) : go X 157 17 la st M = kC X 157 (i_cml 20 46 la st M) := evC ((pm157 X 17).trans rfl) la st M
theorem e157_20 (X : aX) (la : aLs) (st : List aV) (M : aM) : go X 157 20 la st M = kC X 157 (i_lda 0 21 la st M) := evC ((pm157 X 20).trans rfl) la st M
theorem e157_21 (X : aX) (la : aLs) (st : List aV) (M : aM) : go X 157 21 la st M = kC X 157 (i_ldi 1 22 la st M) := evC ((pm157 X 21).trans rfl) la st M
theorem e157_22 (X : aX) (la : aLs) (st : List aV) (M : aM) : go X 157 22 la st M = kK X 157 128 2 25 7 la st M := evK ((pm157 X 22).trans rfl) la st M
theorem e157_25 (X : aX) (la : aLs) (st : List aV) (M : aM) : go X 157 25 la st M = kC X 157 (i_ife 36 28 la st M) := evC ((pm157 X 25).trans rfl) la st M
theorem e157_28 (X : aX) (la : aLs) (st : List aV) (M : aM) : go X 157 28 la st M = kC X 157 (i_lda 0 29 la st M) := evC ((pm157 X 28).trans rfl) la st M
theorem e157_29 (X : aX) (la : aLs) (st : List aV) (M : aM) : go X 157 29 la st M = kC X 157 (i_ldi 2 30 la st M) := evC ((pm157 X 29).trans rfl) la st M
theorem e157_30 (X : aX) (la : aLs) (st : List aV) (M : aM) : go X 157 30 la st M = kK X 157 128 2 33 7 la st M := evK ((pm157 X 30).trans rfl) la st M
theorem e157_33 (X : aX) (la : aLs) (st : List aV) (M : aM) : go X 157 33 la st M = kC X 157 (i_ife 36 46 la st M) := evC ((pm157 X 33).trans rfl) la st M
theorem e157_36 (X : aX) (la : aLs) (st : List aV) (M : aM) : go X 157 36 la st M = kC X 157 (i_lda 0 37 la st M) := evC ((pm157 X 36).trans rfl) la st M
theorem e157_37 (X : aX) (la : aLs) (st : List aV) (M : aM) : go X 157 37 la st M = kK X 157 146 1 40 7 la st M := evK ((pm157 X 37).trans rfl) la st M
theorem e157_40 (X : aX) (la : aLs) (st : List aV) (M : aM) : go X 157 40 la st M = kC X 157 (i_inc 3 (nI 1) 43 la st M) := evC ((pm157 X 40).trans rfl) la st M
theorem e157_43 (X : aX) (la : aLs) (st : List aV) (M : aM) : go X 157 43 la st M = kC X 157 (i_go 13 la st M) := evC ((pm157 X 43).trans rfl) la st M
theorem e157_46 (X : aX) (la : aLs) (st : List aV) (M : aM) : go X 157 46 la st M = kC X 157 (i_lda 0 47 la st M) := evC ((pm157 X 46).trans rfl) la st M
theorem e157_47 (X : aX) (la : aLs) (st : List aV) (M : aM) : go X 157 47 la st M = kC X 157 (i_lda 0 48 la st M) := evC ((pm157 X 47).trans rfl) la st M
theorem e157_48 (X : aX) (la : aLs) (st : List aV) (M : aM) : go X 157 48 la st M = kC X 157 (i_ldi 1 49 la st M) := evC ((pm157 X 48).trans rfl) la st M
theorem e157_49 (X : aX) (la : aLs) (st : List aV) (M : aM) : go X 157 49 la st M = kK X 157 128 2 52 7 la st M := evK ((pm157 X 49).trans rfl) la st M
theorem e157_52 (X : aX) (la : aLs) (st : List aV) (M : aM) : go X 157 52 la st M = kC X 157 (i_ife 67 55 la st M) := evC ((pm157 X 52).trans rfl) la st M
theorem e157_55 (X : aX) (la : aLs) (st : List aV) (M : aM) : go X 157 55 la st M = kC X 157 (i_lda 0 56 la st M) := evC ((pm157 X 55).trans rfl) la st M
theorem e157_56 (X : aX) (la : aLs) (st : List aV) (M : aM) : go X 157 56 la st M = kC X 157 (i_ldi 2 57 la st M) := evC ((pm157 X 56).trans rfl) la st M
theorem e157_57 (X : aX) (la : aLs) (st : List aV) (M : aM) : go X 157 57 la st M = kK X 157 128 2 60 7 la st M := evK ((pm157 X 57).trans rfl) la st M
theorem e157_60 (X : aX) (la : aLs) (st : List aV) (M : aM) : go X 157 60 la st M = kC X 157 (i_ife 67 63 la st M) := evC ((pm157 X 60).trans rfl) la st M
theorem e157_63 (X : aX) (la : aLs) (st : List aV) (M : aM) : go X 157 63 la st M = kC X 157 (i_ldi 3 64 la st M) := evC ((pm157 X 63).trans rfl) la st M
theorem e157_64 (X : aX) (la : aLs) (st : List aV) (M : aM) : go X 157 64 la st M = kC X 157 (i_go 68 la st M) := evC ((pm157 X 64).trans rfl) la st M
theorem e157_67 (X : aX) (la : aLs) (st : List aV) (M : aM) : go X 157 67 la st M = kC X 157 (i_ci (-1) 68 la st M) := evC ((pm157 X 67).trans rfl) la st M
theorem e157_68 (X : aX) (la : aLs) (st : List aV) (M : aM) : go X 157 68 la st M = kK X 157 117 2 71 7 la st M := evK ((pm157 X 68).trans rfl) la st M
theorem e157_71 (X : aX) (la : aLs) (st : List aV) (M : aM) : go X 157 71 la st M = i_irt st M := evR ((pm157 X 71).trans rfl) la st M
theorem c157 (X : aX) (as : List aV) (M : aM) : cl X 157 as M = if cs as ≤ 4 then go X 157 0 (ent 4 as) [] M else none := rfl
theorem pm158 (X : aX) (pc : Nat) : pg X 158 pc = lk pc (tb158 X) := rfl
theorem e158_0 (X : aX) (la : aLs) (st : List aV) (M : aM) : go X 158 0 la st M = kC X 158 (i_lda 0 1 la st M) := evC ((pm158 X 0).trans rfl) la st M
theorem e158_1 (X : aX) (la : aLs) (st : List aV) (M : aM) : go X 158 1 la st M = kC X 158 (i_ldi 1 2 la st M) := evC ((pm158 X 1).trans rfl) la st M
theorem e158_2 (X : aX) (la : aLs) (st : List aV) (M : aM) : go X 158 2 la st M = kK X 158 123 2 5 7 la st M := evK ((pm158 X 2).trans rfl) la st M
theorem e158_5 (X : aX) (la : aLs) (st : List aV) (M : aM) : go X 158 5 la st M = kC X 158 (i_ife 21 8 la st M) := evC ((pm158 X 5).trans rfl) la st M
theorem e158_8 (X : aX) (la : aLs) (st : List aV) (M : aM) : go X 158 8 la st M = kC X 158 (i_lda 0 9 la st M) := evC ((pm158 X 8).trans rfl) la st M
theorem e158_9 (X : aX) (la : aLs) (st : List aV) (M : aM) : go X 158 9 la st M = kC X 158 (i_lda 0 10 la st M) := evC ((pm158 X 9).trans rfl) la st M
theorem e158_10 (X : aX) (la : aLs) (st : List aV) (M : aM) : go X 158 10 la st M = kC X 158 (i_ldi 1 11 la st M) := evC ((pm158 X 10).trans rfl) la st M
theorem e158_11 (X : aX) (la : aLs) (st : List aV) (M : aM) : go X 158 11 la st M = kC X 158 (i_ldi 1 12 la st M) := evC ((pm158 X 11).trans rfl) la st M
theorem e158_12 (X : aX) (la : aLs) (st : List aV) (M : aM) : go X 158 12 la st M = kK X 158 157 3 15 7 la st M := evK ((pm158 X 12).trans rfl) la st M
theorem e158_15 (X : aX) (la : aLs) (st : List aV) (M : aM) : go X 158 15 la st M = kK X 158 118 2 18 7 la st M := evK ((pm158 X 15).trans rfl) la st M
theorem e158_18 (X : aX) (la : aLs) (st : List aV) (M : aM) : go X 158 18 la st M = kC X 158 (i_go 27 la st M) := evC ((pm158 X 18).trans rfl) la st M
theorem e158_21 (X : aX) (la : aLs) (st : List aV) (M : aM) : go X 158 21 la st M = kC X 158 (i_lda 0 22 la st M) := evC ((pm158 X 21).trans rfl) la st M
theorem e158_22 (X : aX) (la : aLs) (st : List aV) (M : aM) : go X 158 22 la st M = kC X 158 (i_ci (-1000001) 24 la st M) := evC ((pm158 X 22).trans rfl) la st M
theorem e158_24 (X : aX) (la : aLs) (st : List aV) (M : aM) : go X 158 24 la st M = kK X 158 113 2 27 7 la st M := evK ((pm158 X 24).trans rfl) la st M
theorem e158_27 (X : aX) (la : aLs) (st : List aV) (M : aM) : go X 158 27 la st M = i_irt st M := evR ((pm158 X 27).trans rfl) la st M
theorem c158 (X : aX) (as : List aV) (M : aM) : cl X 158 as M = if cs as ≤ 2 then go X 158 0 (ent 2 as) [] M else none := rfl
theorem pm159 (X : aX) (pc : Nat) : pg X 159 pc = lk pc (tb159 X) := rfl
theorem e159_0 (X : aX) (la : aLs) (st : List aV) (M : aM) : go X 159 0 la st M = kC X 159 (i_lda 0 1 la st M) := evC ((pm159 X 0).trans rfl) la st M
theorem e159_1 (X : aX) (la : aLs) (st : List aV) (M : aM) : go X 159 1 la st M = kC X 159 (i_ldi 1 2 la st M) := evC ((pm159 X 1).trans rfl) la st M
theorem e159_2 (X : aX) (la : aLs) (st : List aV) (M : aM) : go X 159 2 la st M = kK X 159 123 2 5 7 la st M := evK ((pm159 X 2).trans rfl) la st M
theorem e159_5 (X : aX) (la : aLs) (st : List aV) (M : aM) : go X 159 5 la st M = kC X 159 (i_ife 34 8 la st M) := evC ((pm159 X 5).trans rfl) la st M
theorem e159_8 (X : aX) (la : aLs) (st : List aV) (M : aM) : go X 159 8 la st M = kC X 159 (i_lda 0 9 la st M) := evC ((pm159 X 8).trans rfl) la st M
theorem e159_9 (X : aX) (la : aLs) (st : List aV) (M : aM) : go X 159 9 la st M = kC X 159 (i_ldi 2 10 la st M) := evC ((pm159 X 9).trans rfl) la st M
theorem e159_10 (X : aX) (la : aLs) (st : List aV) (M : aM) : go X 159 10 la st M = kK X 159 123 2 13 7 la st M := evK ((pm159 X 10).trans rfl) la st M
theorem e159_13 (X : aX) (la : aLs) (st : List aV) (M : aM) : go X 159 13 la st M = kC X 159 (i_ife 34 16 la st M) := evC ((pm159 X 13).trans rfl) la st M
theorem e159_16 (X : aX) (la : aLs) (st : List aV) (M : aM) : go X 159 16 la st M = kC X 159 (i_ldi 1 17 la st M) := evC ((pm159 X 16).trans rfl) la st M
theorem e159_17 (X : aX) (la : aLs) (st : List aV) (M : aM) : go X 159 17 la st M = kC X 159 (i_ldi 2 18 la st M) := evC ((pm159 X 17).trans rfl) la st M
theorem e159_18 (X : aX) (la : aLs) (st : List aV) (M : aM) : go X 159 18 la st M = kC X 159 (i_cme 34 21 la st M) := evC ((pm159 X 18).trans rfl) la st M
theorem e159_21 (X : aX) (la : aLs) (st : List aV) (M : aM) : go X 159 21 la st M = kC X 159 (i_lda 0 22 la st M) := evC ((pm159 X 21).trans rfl) la st M
theorem e159_22 (X : aX) (la : aLs) (st : List aV) (M : aM) : go X 159 22 la st M = kC X 159 (i_lda 0 23 la st M) := evC ((pm159 X 22).trans rfl) la st M
theorem e159_23 (X : aX) (la : aLs) (st : List aV) (M : aM) : go X 159 23 la st M = kC X 159 (i_ldi 1 24 la st M) := evC ((pm159 X 23).trans rfl) la st M
theorem e159_24 (X : aX) (la : aLs) (st : List aV) (M : aM) : go X 159 24 la st M = kC X 159 (i_ldi 2 25 la st M) := evC ((pm159 X 24).trans rfl) la st M
theorem e159_25 (X : aX) (la : aLs) (st : List aV) (M : aM) : go X 159 25 la st M = kK X 159 157 3 28 7 la st M := evK ((pm159 X 25).trans rfl) la st M
theorem e159_28 (X : aX) (la : aLs) (st : List aV) (M : aM) : go X 159 28 la st M = kK X 159 118 2 31 7 la st M := evK ((pm159 X 28).trans rfl) la st M
theorem e159_31 (X : aX) (la : aLs) (st : List aV) (M : aM) : go X 159 31 la st M = kC X 159 (i_go 40 la st M) := evC ((pm159 X 31).trans rfl) la st M
theorem e159_34 (X : aX) (la : aLs) (st : List aV) (M : aM) : go X 159 34 la st M = kC X 159 (i_lda 0 35 la st M) := evC ((pm159 X 34).trans rfl) la st M
theorem e159_35 (X : aX) (la : aLs) (st : List aV) (M : aM) : go X 159 35 la st M = kC X 159 (i_ci (-1000001) 37 la st M) := evC ((pm159 X 35).trans rfl) la st M
theorem e159_37 (X : aX) (la : aLs) (st : List aV) (M : aM) : go X 159 37 la st M = kK X 159 113 2 40 7 la st M := evK ((pm159 X 37).trans rfl) la st M
theorem e159_40 (X : aX) (la : aLs) (st : List aV) (M : aM) : go X 159 40 la st M = i_irt st M := evR ((pm159 X 40).trans rfl) la st M
theorem c159 (X : aX) (as : List aV) (M : aM) : cl X 159 as M = if cs as ≤ 3 then go X 159 0 (ent 3 as) [] M else none := rfl
theorem pm160 (X : aX) (pc : Nat) : pg X 160 pc = lk pc (tb160 X) := rfl
theorem e160_0 (X : aX) (la : aLs) (st : List aV) (M : aM) : go X 160 0 la st M = kC X 160 (i_lda 0 1 la st M) := evC ((pm160 X 0).trans rfl) la st M
theorem e160_1 (X : aX) (la : aLs) (st : List aV) (M : aM) : go X 160 1 la st M = kC X 160 (i_get 6 0 4 la st M) := evC ((pm160 X 1).trans rfl) la st M
theorem e160_4 (X : aX) (la : aLs) (st : List aV) (M : aM) : go X 160 4 la st M = kC X 160 (i_lda 0 5 la st M) := evC ((pm160 X 4).trans rfl) la st M
theorem e160_5 (X : aX) (la : aLs) (st : List aV) (M : aM) : go X 160 5 la st M = kC X 160 (i_get 6 2 8 la st M) := evC ((pm160 X 5).trans rfl) la st M
theorem e160_8 (X : aX) (la : aLs) (st : List aV) (M : aM) : go X 160 8 la st M = kK X 160 116 2 11 0 la st M := evK ((pm160 X 8).trans rfl) la st M
theorem e160_11 (X : aX) (la : aLs) (st : List aV) (M : aM) : go X 160 11 la st M = kC X 160 (i_ci (nI 0) 12 la st M) := evC ((pm160 X 11).trans rfl) la st M
theorem e160_12 (X : aX) (la : aLs) (st : List aV) (M : aM) : go X 160 12 la st M = kC X 160 (i_sti 3 13 la st M) := evC ((pm160 X 12).trans rfl) la st M
theorem e160_13 (X : aX) (la : aLs) (st : List aV) (M : aM) : go X 160 13 la st M = kC X 160 (i_ldi 3 14 la st M) := evC ((pm160 X 13).trans rfl) la st M
theorem e160_14 (X : aX) (la : aLs) (st : List aV) (M : aM) : go X 160 14 la st M = kC X 160 (i_ci (nI 400) 17 la st M) := evC ((pm160 X 14).trans rfl) la st M
theorem e160_17 (X : aX) (la : aLs) (st : List aV) (M : aM) : go X 160 17 la st M = kC X 160 (i_cml 20 40 la st M) := evC ((pm160 X 17).trans rfl) la st M
theorem e160_20 (X : aX) (la : aLs) (st : List aV) (M : aM) : go X 160 20 la st M = kC X 160 (i_lda 0 21 la st M) := evC ((pm160 X 20).trans rfl) la st M
theorem e160_21 (X : aX) (la : aLs) (st : List aV) (M : aM) : go X 160 21 la st M = kC X 160 (i_get 6 0 24 la st M) := evC ((pm160 X 21).trans rfl) la st M
theorem e160_24 (X : aX) (la : aLs) (st : List aV) (M : aM) : go X 160 24 la st M = kC X 160 (i_ldi 1 25 la st M) := evC ((pm160 X 24).trans rfl) la st M
theorem e160_25 (X : aX) (la : aLs) (st : List aV) (M : aM) : go X 160 25 la st M = kC X 160 (i_ial X 26 la st M) := evC ((pm160 X 25).trans rfl) la st M
theorem e160_26 (X : aX) (la : aLs) (st : List aV) (M : aM) : go X 160 26 la st M = kC X 160 (i_ldi 2 27 la st M) := evC ((pm160 X 26).trans rfl) la st M
theorem e160_27 (X : aX) (la : aLs) (st : List aV) (M : aM) : go X 160 27 la st M = kC X 160 (i_cml 30 40 la st M) := evC ((pm160 X 27).trans rfl) la st M
theorem e160_30 (X : aX) (la : aLs) (st : List aV) (M : aM) : go X 160 30 la st M = kC X 160 (i_lda 0 31 la st M) := evC ((pm160 X 30).trans rfl) la st M
theorem e160_31 (X : aX) (la : aLs) (st : List aV) (M : aM) : go X 160 31 la st M = kK X 160 146 1 34 7 la st M := evK ((pm160 X 31).trans rfl) la st M
theorem e160_34 (X : aX) (la : aLs) (st : List aV) (M : aM) : go X 160 34 la st M = kC X 160 (i_inc 3 (nI 1) 37 la st M) := evC ((pm160 X 34).trans rfl) la st M
theorem e160_37 (X : aX) (la : aLs) (st : List aV) (M : aM) : go X 160 37 la st M = kC X 160 (i_go 13 la st M) := evC ((pm160 X 37).trans rfl) la st M
theorem e160_40 (X : aX) (la : aLs) (st : List aV) (M : aM) : go X 160 40 la st M = kC X 160 (i_lda 0 41 la st M) := evC ((pm160 X 40).trans rfl) la st M
theorem e160_41 (X : aX) (la : aLs) (st : List aV) (M : aM) : go X 160 41 la st M = kC X 160 (i_lda 0 42 la st M) := evC ((pm160 X 41).trans rfl) la st M
theorem e160_42 (X : aX) (la : aLs) (st : List aV) (M : aM) : go X 160 42 la st M = kC X 160 (i_get 6 0 45 la st M) := evC ((pm160 X 42).trans rfl) la st M
theorem e160_45 (X : aX) (la : aLs) (st : List aV) (M : aM) : go X 160 45 la st M = kC X 160 (i_ldi 1 46 la st M) := evC ((pm160 X 45).trans rfl) la st M
theorem e160_46 (X : aX) (la : aLs) (st : List aV) (M : aM) : go X 160 46 la st M = kC X 160 (i_ial X 47 la st M) := evC ((pm160 X 46).trans rfl) la st M
theorem e160_47 (X : aX) (la : aLs) (st : List aV) (M : aM) : go X 160 47 la st M = kC X 160 (i_ldi 2 48 la st M) := evC ((pm160 X 47).trans rfl) la st M
theorem e160_48 (X : aX) (la : aLs) (st : List aV) (M : aM) : go X 160 48 la st M = kC X 160 (i_cml 51 55 la st M) := evC ((pm160 X 48).trans rfl) la st M
theorem e160_51 (X : aX) (la : aLs) (st : List aV) (M : aM) : go X 160 51 la st M = kC X 160 (i_ci (-1) 52 la st M) := evC ((pm160 X 51).trans rfl) la st M
theorem e160_52 (X : aX) (la : aLs) (st : List aV) (M : aM) : go X 160 52 la st M = kC X 160 (i_go 56 la st M) := evC ((pm160 X 52).trans rfl) la st M
theorem e160_55 (X : aX) (la : aLs) (st : List aV) (M : aM) : go X 160 55 la st M = kC X 160 (i_ldi 3 56 la st M) := evC ((pm160 X 55).trans rfl) la st M
theorem e160_56 (X : aX) (la : aLs) (st : List aV) (M : aM) : go X 160 56 la st M = kK X 160 117 2 59 7 la st M := evK ((pm160 X 56).trans rfl) la st M
theorem e160_59 (X : aX) (la : aLs) (st : List aV) (M : aM) : go X 160 59 la st M = i_irt st M := evR ((pm160 X 59).trans rfl) la st M
theorem c160 (X : aX) (as : List aV) (M : aM) : cl X 160 as M = if cs as ≤ 4 then go X 160 0 (ent 4 as) [] M else none := rfl
theorem pm161 (X : aX) (pc : Nat) : pg X 161 pc = lk pc (tb161 X) := rfl
theorem e161_0 (X : aX) (la : aLs) (st : List aV) (M : aM) : go X 161 0 la st M = kC X 161 (i_ldi 1 1 la st M) := evC ((pm161 X 0).trans rfl) la st M
theorem e161_1 (X : aX) (la : aLs) (st : List aV) (M : aM) : go X 161 1 la st M = kC X 161 (i_ci (nI 0) 2 la st M) := evC ((pm161 X 1).trans rfl) la st M
theorem e161_2 (X : aX) (la : aLs) (st : List aV) (M : aM) : go X 161 2 la st M = kC X 161 (i_ci (nI 99999) 4 la st M) := evC ((pm161 X 2).trans rfl) la st M
theorem e161_4 (X : aX) (la : aLs) (st : List aV) (M : aM) : go X 161 4 la st M = kK X 161 114 3 7 0 la st M := evK ((pm161 X 4).trans rfl) la st M
theorem e161_7 (X : aX) (la : aLs) (st : List aV) (M : aM) : go X 161 7 la st M = kC X 161 (i_ife 23 10 la st M) := evC ((pm161 X 7).trans rfl) la st M
theorem e161_10 (X : aX) (la : aLs) (st : List aV) (M : aM) : go X 161 10 la st M = kC X 161 (i_lda 0 11 la st M) := evC ((pm161 X 10).trans rfl) la st M
theorem e161_11 (X : aX) (la : aLs) (st : List aV) (M : aM) : go X 161 11 la st M = kC X 161 (i_lda 0 12 la st M) := evC ((pm161 X 11).trans rfl) la st M
theorem e161_12 (X : aX) (la : aLs) (st : List aV) (M : aM) : go X 161 12 la st M = kC X 161 (i_ci (nI 3) 13 la st M) := evC ((pm161 X 12).trans rfl) la st M
theorem e161_13 (X : aX) (la : aLs) (st : List aV) (M : aM) : go X 161 13 la st M = kC X 161 (i_ldi 1 14 la st M) := evC ((pm161 X 13).trans rfl) la st M
theorem e161_14 (X : aX) (la : aLs) (st : List aV) (M : aM) : go X 161 14 la st M = kK X 161 160 3 17 7 la st M := evK ((pm161 X 14).trans rfl) la st M
theorem e161_17 (X : aX) (la : aLs) (st : List aV) (M : aM) : go X 161 17 la st M = kK X 161 118 2 20 7 la st M := evK ((pm161 X 17).trans rfl) la st M
theorem e161_20 (X : aX) (la : aLs) (st : List aV) (M : aM) : go X 161 20 la st M = kC X 161 (i_go 29 la st M) := evC ((pm161 X 20).trans rfl) la st M
theorem e161_23 (X : aX) (la : aLs) (st : List aV) (M : aM) : go X 161 23 la st M = kC X 161 (i_lda 0 24 la st M) := evC ((pm161 X 23).trans rfl) la st M
theorem e161_24 (X : aX) (la : aLs) (st : List aV) (M : aM) : go X 161 24 la st M = kC X 161 (i_ci (-1000001) 26 la st M) := evC ((pm161 X 24).trans rfl) la st M
theorem e161_26 (X : aX) (la : aLs) (st : List aV) (M : aM) : go X 161 26 la st M = kK X 161 113 2 29 7 la st M := evK ((pm161 X 26).trans rfl) la st M
theorem e161_29 (X : aX) (la : aLs) (st : List aV) (M : aM) : go X 161 29 la st M = i_irt st M := evR ((pm161 X 29).trans rfl) la st M
theorem c161 (X : aX) (as : List aV) (M : aM) : cl X 161 as M = if cs as ≤ 2 then go X 161 0 (ent 2 as) [] M else none := rfl
theorem pm162 (X : aX) (pc : Nat) : pg X 162 pc = lk pc (tb162 X) := rfl
theorem e162_0 (X : aX) (la : aLs) (st : List aV) (M : aM) : go X 162 0 la st M = kC X 162 (i_lda 0 1 la st M) := evC ((pm162 X 0).trans rfl) la st M
theorem e162_1 (X : aX) (la : aLs) (st : List aV) (M : aM) : go X 162 1 la st M = kC X 162 (i_ldi 1 2 la st M) := evC ((pm162 X 1).trans rfl) la st M
theorem e162_2 (X : aX) (la : aLs) (st : List aV) (M : aM) : go X 162 2 la st M = kK X 162 123 2 5 7 la st M := evK ((pm162 X 2).trans rfl) la st M
theorem e162_5 (X : aX) (la : aLs) (st : List aV) (M : aM) : go X 162 5 la st M = kC X 162 (i_ife 37 8 la st M) := evC ((pm162 X 5).trans rfl) la st M
theorem e162_8 (X : aX) (la : aLs) (st : List aV) (M : aM) : go X 162 8 la st M = kC X 162 (i_ldi 2 9 la st M) := evC ((pm162 X 8).trans rfl) la st M
theorem e162_9 (X : aX) (la : aLs) (st : List aV) (M : aM) : go X 162 9 la st M = kC X 162 (i_ci (nI 0) 10 la st M) := evC ((pm162 X 9).trans rfl) la st M
theorem e162_10 (X : aX) (la : aLs) (st : List aV) (M : aM) : go X 162 10 la st M = kC X 162 (i_ci (nI 9999) 13 la st M) := evC ((pm162 X 10).trans rfl) la st M
theorem e162_13 (X : aX) (la : aLs) (st : List aV) (M : aM) : go X 162 13 la st M = kK X 162 114 3 16 0 la st M := evK ((pm162 X 13).trans rfl) la st M
theorem e162_16 (X : aX) (la : aLs) (st : List aV) (M : aM) : go X 162 16 la st M = kC X 162 (i_ife 37 19 la st M) := evC ((pm162 X 16).trans rfl) la st M
theorem e162_19 (X : aX) (la : aLs) (st : List aV) (M : aM) : go X 162 19 la st M = kC X 162 (i_lda 0 20 la st M) := evC ((pm162 X 19).trans rfl) la st M
theorem e162_20 (X : aX) (la : aLs) (st : List aV) (M : aM) : go X 162 20 la st M = kC X 162 (i_lda 0 21 la st M) := evC ((pm162 X 20).trans rfl) la st M
theorem e162_21 (X : aX) (la : aLs) (st : List aV) (M : aM) : go X 162 21 la st M = kC X 162 (i_ldi 1 22 la st M) := evC ((pm162 X 21).trans rfl) la st M
theorem e162_22 (X : aX) (la : aLs) (st : List aV) (M : aM) : go X 162 22 la st M = kC X 162 (i_ci (nI 9) 24 la st M) := evC ((pm162 X 22).trans rfl) la st M
theorem e162_24 (X : aX) (la : aLs) (st : List aV) (M : aM) : go X 162 24 la st M = kK X 162 121 2 27 0 la st M := evK ((pm162 X 24).trans rfl) la st M
theorem e162_27 (X : aX) (la : aLs) (st : List aV) (M : aM) : go X 162 27 la st M = kC X 162 (i_ldi 2 28 la st M) := evC ((pm162 X 27).trans rfl) la st M
theorem e162_28 (X : aX) (la : aLs) (st : List aV) (M : aM) : go X 162 28 la st M = kK X 162 160 3 31 7 la st M := evK ((pm162 X 28).trans rfl) la st M
theorem e162_31 (X : aX) (la : aLs) (st : List aV) (M : aM) : go X 162 31 la st M = kK X 162 118 2 34 7 la st M := evK ((pm162 X 31).trans rfl) la st M
theorem e162_34 (X : aX) (la : aLs) (st : List aV) (M : aM) : go X 162 34 la st M = kC X 162 (i_go 43 la st M) := evC ((pm162 X 34).trans rfl) la st M
theorem e162_37 (X : aX) (la : aLs) (st : List aV) (M : aM) : go X 162 37 la st M = kC X 162 (i_lda 0 38 la st M) := evC ((pm162 X 37).trans rfl) la st M
theorem e162_38 (X : aX) (la : aLs) (st : List aV) (M : aM) : go X 162 38 la st M = kC X 162 (i_ci (-1000001) 40 la st M) := evC ((pm162 X 38).trans rfl) la st M
theorem e162_40 (X : aX) (la : aLs) (st : List aV) (M : aM) : go X 162 40 la st M = kK X 162 113 2 43 7 la st M := evK ((pm162 X 40).trans rfl) la st M
theorem e162_43 (X : aX) (la : aLs) (st : List aV) (M : aM) : go X 162 43 la st M = i_irt st M := evR ((pm162 X 43).trans rfl) la st M
theorem c162 (X : aX) (as : List aV) (M : aM) : cl X 162 as M = if cs as ≤ 3 then go X 162 0 (ent 3 as) [] M else none := rfl
theorem pm163 (X : aX) (pc : Nat) : pg X 163 pc = lk pc (tb163 X) := rfl
theorem e163_0 (X : aX) (la : aLs) (st : List aV) (M : aM) : go X 163 0 la st M = kC X 163 (i_ldi 0 1 la st M) := evC ((pm163 X 0).trans rfl) la st M
theorem e163_1 (X : aX) (la : aLs) (st : List aV) (M : aM) : go X 163 1 la st M = kC X 163 (i_ci (nI 0) 2 la st M) := evC ((pm163 X 1).trans rfl) la st M
theorem e163_2 (X : aX) (la : aLs) (st : List aV) (M : aM) : go X 163 2 la st M = kC X 163 (i_ci (nI 120) 4 la st M) := evC ((pm163 X 2).trans rfl) la st M
theorem e163_4 (X : aX) (la : aLs) (st : List aV) (M : aM) : go X 163 4 la st M = kK X 163 114 3 7 0 la st M := evK ((pm163 X 4).trans rfl) la st M
theorem e163_7 (X : aX) (la : aLs) (st : List aV) (M : aM) : go X 163 7 la st M = i_zrt st M := evR ((pm163 X 7).trans rfl) la st M
theorem c163 (X : aX) (as : List aV) (M : aM) : cl X 163 as M = if cs as ≤ 1 then go X 163 0 (ent 1 as) [] M else none := rfl
theorem pm164 (X : aX) (pc : Nat) : pg X 164 pc = lk pc (tb164 X) := rfl
theorem e164_0 (X : aX) (la : aLs) (st : List aV) (M : aM) : go X 164 0 la st M = kC X 164 (i_lda 0 1 la st M) := evC ((pm164 X 0).trans rfl) la st M
theorem e164_1 (X : aX) (la : aLs) (st : List aV) (M : aM) : go X 164 1 la st M = kC X 164 (i_get 6 0 4 la st M) := evC ((pm164 X 1).trans rfl) la st M
theorem e164_4 (X : aX) (la : aLs) (st : List aV) (M : aM) : go X 164 4 la st M = kC X 164 (i_ldi 1 5 la st M) := evC ((pm164 X 4).trans rfl) la st M
theorem e164_5 (X : aX) (la : aLs) (st : List aV) (M : aM) : go X 164 5 la st M = kC X 164 (i_ial X 6 la st M) := evC ((pm164 X 5).trans rfl) la st M
theorem e164_6 (X : aX) (la : aLs) (st : List aV) (M : aM) : go X 164 6 la st M = kC X 164 (i_sti 6 8 la st M) := evC ((pm164 X 6).trans rfl) la st M
theorem e164_8 (X : aX) (la : aLs) (st : List aV) (M : aM) : go X 164 8 la st M = kC X 164 (i_ldi 2 9 la st M) := evC ((pm164 X 8).trans rfl) la st M
theorem e164_9 (X : aX) (la : aLs) (st : List aV) (M : aM) : go X 164 9 la st M = kC X 164 (i_sti 7 11 la st M) := evC ((pm164 X 9).trans rfl) la st M
theorem e164_11 (X : aX) (la : aLs) (st : List aV) (M : aM) : go X 164 11 la st M = kC X 164 (i_ci (-1) 12 la st M) := evC ((pm164 X 11).trans rfl) la st M
theorem e164_12 (X : aX) (la : aLs) (st : List aV) (M : aM) : go X 164 12 la st M = kC X 164 (i_sti 8 14 la st M) := evC ((pm164 X 12).trans rfl) la st M
theorem e164_14 (X : aX) (la : aLs) (st : List aV) (M : aM) : go X 164 14 la st M = kC X 164 (i_ldi 2 15 la st M) := evC ((pm164 X 14).trans rfl) la st M
theorem e164_15 (X : aX) (la : aLs) (st : List aV) (M : aM) : go X 164 15 la st M = kC X 164 (i_sti 9 17 la st M) := evC ((pm164 X 15).trans rfl) la st M
theorem e164_17 (X : aX) (la : aLs) (st : List aV) (M : aM) : go X 164 17 la st M = kC X 164 (i_ldi 9 19 la st M) := evC ((pm164 X 17).trans rfl) la st M
theorem e164_19 (X : aX) (la : aLs) (st : List aV) (M : aM) : go X 164 19 la st M = kC X 164 (i_ldi 3 20 la st M) := evC ((pm164 X 19).trans rfl) la st M
theorem e164_20 (X : aX) (la : aLs) (st : List aV) (M : aM) : go X 164 20 la st M = kC X 164 (i_cmg 76 23 la st M) := evC ((pm164 X 20).trans rfl) la st M
theorem e164_23 (X : aX) (la : aLs) (st : List aV) (M : aM) : go X 164 23 la st M = kC X 164 (i_lda 0 24 la st M) := evC ((pm164 X 23).trans rfl) la st M
theorem e164_24 (X : aX) (la : aLs) (st : List aV) (M : aM) : go X 164 24 la st M = kC X 164 (i_get 6 0 27 la st M) := evC ((pm164 X 24).trans rfl) la st M
theorem e164_27 (X : aX) (la : aLs) (st : List aV) (M : aM) : go X 164 27 la st M = kC X 164 (i_ldi 1 28 la st M) := evC ((pm164 X 27).trans rfl) la st M
theorem e164_28 (X : aX) (la : aLs) (st : List aV) (M : aM) : go X 164 28 la st M = kC X 164 (i_ldi 9 30 la st M) := evC ((pm164 X 28).trans rfl) la st M
theorem e164_30 (X : aX) (la : aLs) (st : List aV) (M : aM) : go X 164 30 la st M = kC X 164 (i_ias 31 la st M) := evC ((pm164 X 30).trans rfl) la st M
theorem e164_31 (X : aX) (la : aLs) (st : List aV) (M : aM) : go X 164 31 la st M = kC X 164 (i_ldi 4 33 la st M) := evC ((pm164 X 31).trans rfl) la st M
theorem e164_33 (X : aX) (la : aLs) (st : List aV) (M : aM) : go X 164 33 la st M = kC X 164 (i_ifl 36 45 la st M) := evC ((pm164 X 33).trans rfl) la st M
theorem e164_36 (X : aX) (la : aLs) (st : List aV) (M : aM) : go X 164 36 la st M = kC X 164 (i_lda 0 37 la st M) := evC ((pm164 X 36).trans rfl) la st M
theorem e164_37 (X : aX) (la : aLs) (st : List aV) (M : aM) : go X 164 37 la st M = kC X 164 (i_ldi 5 39 la st M) := evC ((pm164 X 37).trans rfl) la st M
theorem e164_39 (X : aX) (la : aLs) (st : List aV) (M : aM) : go X 164 39 la st M = kK X 164 155 2 42 7 la st M := evK ((pm164 X 39).trans rfl) la st M
theorem e164_42 (X : aX) (la : aLs) (st : List aV) (M : aM) : go X 164 42 la st M = kC X 164 (i_go 53 la st M) := evC ((pm164 X 42).trans rfl) la st M
theorem e164_45 (X : aX) (la : aLs) (st : List aV) (M : aM) : go X 164 45 la st M = kC X 164 (i_lda 0 46 la st M) := evC ((pm164 X 45).trans rfl) la st M
theorem e164_46 (X : aX) (la : aLs) (st : List aV) (M : aM) : go X 164 46 la st M = kC X 164 (i_ldi 4 48 la st M) := evC ((pm164 X 46).trans rfl) la st M
theorem e164_48 (X : aX) (la : aLs) (st : List aV) (M : aM) : go X 164 48 la st M = kC X 164 (i_ldi 5 50 la st M) := evC ((pm164 X 48).trans rfl) la st M
theorem e164_50 (X : aX) (la : aLs) (st : List aV) (M : aM) : go X 164 50 la st M = kK X 164 154 3 53 7 la st M := evK ((pm164 X 50).trans rfl) la st M
theorem e164_53 (X : aX) (la : aLs) (st : List aV) (M : aM) : go X 164 53 la st M = kC X 164 (i_sti 10 55 la st M) := evC ((pm164 X 53).trans rfl) la st M
theorem e164_55 (X : aX) (la : aLs) (st : List aV) (M : aM) : go X 164 55 la st M = kC X 164 (i_ldi 10 57 la st M) := evC ((pm164 X 55).trans rfl) la st M
theorem e164_57 (X : aX) (la : aLs) (st : List aV) (M : aM) : go X 164 57 la st M = kC X 164 (i_ldi 8 59 la st M) := evC ((pm164 X 57).trans rfl) la st M
theorem e164_59 (X : aX) (la : aLs) (st : List aV) (M : aM) : go X 164 59 la st M = kC X 164 (i_cmg 62 70 la st M) := evC ((pm164 X 59).trans rfl) la st M
theorem e164_62 (X : aX) (la : aLs) (st : List aV) (M : aM) : go X 164 62 la st M = kC X 164 (i_ldi 9 64 la st M) := evC ((pm164 X 62).trans rfl) la st M
theorem e164_64 (X : aX) (la : aLs) (st : List aV) (M : aM) : go X 164 64 la st M = kC X 164 (i_sti 7 66 la st M) := evC ((pm164 X 64).trans rfl) la st M
theorem e164_66 (X : aX) (la : aLs) (st : List aV) (M : aM) : go X 164 66 la st M = kC X 164 (i_ldi 10 68 la st M) := evC ((pm164 X 66).trans rfl) la st M
theorem e164_68 (X : aX) (la : aLs) (st : List aV) (M : aM) : go X 164 68 la st M = kC X 164 (i_sti 8 70 la st M) := evC ((pm164 X 68).trans rfl) la st M
theorem e164_70 (X : aX) (la : aLs) (st : List aV) (M : aM) : go X 164 70 la st M = kC X 164 (i_inc 9 (nI 1) 73 la st M) := evC ((pm164 X 70).trans rfl) la st M
theorem e164_73 (X : aX) (la : aLs) (st : List aV) (M : aM) : go X 164 73 la st M = kC X 164 (i_go 17 la st M) := evC ((pm164 X 73).trans rfl) la st M
theorem e164_76 (X : aX) (la : aLs) (st : List aV) (M : aM) : go X 164 76 la st M = kC X 164 (i_lda 0 77 la st M) := evC ((pm164 X 76).trans rfl) la st M
theorem e164_77 (X : aX) (la : aLs) (st : List aV) (M : aM) : go X 164 77 la st M = kC X 164 (i_get 6 0 80 la st M) := evC ((pm164 X 77).trans rfl) la st M
theorem e164_80 (X : aX) (la : aLs) (st : List aV) (M : aM) : go X 164 80 la st M = kC X 164 (i_ldi 1 81 la st M) := evC ((pm164 X 80).trans rfl) la st M
theorem e164_81 (X : aX) (la : aLs) (st : List aV) (M : aM) : go X 164 81 la st M = kC X 164 (i_ldi 6 83 la st M) := evC ((pm164 X 81).trans rfl) la st M
theorem e164_83 (X : aX) (la : aLs) (st : List aV) (M : aM) : go X 164 83 la st M = kC X 164 (i_ias 84 la st M) := evC ((pm164 X 83).trans rfl) la st M
theorem e164_84 (X : aX) (la : aLs) (st : List aV) (M : aM) : go X 164 84 la st M = kC X 164 (i_ldi 7 86 la st M) := evC ((pm164 X 84).trans rfl) la st M
theorem e164_86 (X : aX) (la : aLs) (st : List aV) (M : aM) : go X 164 86 la st M = i_irt st M := evR ((pm164 X 86).trans rfl) la st M
theorem c164 (X : aX) (as : List aV) (M : aM) : cl X 164 as M = if cs as ≤ 11 then go X 164 0 (ent 11 as) [] M else none := rfl
theorem pm165 (X : aX) (pc : Nat) : pg X 165 pc = lk pc (tb165 X) := rfl
theorem e165_0 (X : aX) (la : aLs) (st : List aV) (M : aM) : go X 165 0 la st M = kC X 165 (i_lda 0 1 la st M) := evC ((pm165 X 0).trans rfl) la st M
theorem e165_1 (X : aX) (la : aLs) (st : List aV) (M : aM) : go X 165 1 la st M = kC X 165 (i_ldi 1 2 la st M) := evC ((pm165 X 1).trans rfl) la st M
theorem e165_2 (X : aX) (la : aLs) (st : List aV) (M : aM) : go X 165 2 la st M = kK X 165 123 2 5 7 la st M := evK ((pm165 X 2).trans rfl) la st M
theorem e165_5 (X : aX) (la : aLs) (st : List aV) (M : aM) : go X 165 5 la st M = kC X 165 (i_ife 32 8 la st M) := evC ((pm165 X 5).trans rfl) la st M
theorem e165_8 (X : aX) (la : aLs) (st : List aV) (M : aM) : go X 165 8 la st M = kC X 165 (i_ldi 2 9 la st M) := evC ((pm165 X 8).trans rfl) la st M
theorem e165_9 (X : aX) (la : aLs) (st : List aV) (M : aM) : go X 165 9 la st M = kK X 165 163 1 12 0 la st M := evK ((pm165 X 9).trans rfl) la st M
theorem e165_12 (X : aX) (la : aLs) (st : List aV) (M : aM) : go X 165 12 la st M = kC X 165 (i_ife 32 15 la st M) := evC ((pm165 X 12).trans rfl) la st M
theorem e165_15 (X : aX) (la : aLs) (st : List aV) (M : aM) : go X 165 15 la st M = kC X 165 (i_lda 0 16 la st M) := evC ((pm165 X 15).trans rfl) la st M
theorem e165_16 (X : aX) (la : aLs) (st : List aV) (M : aM) : go X 165 16 la st M = kC X 165 (i_ldi 1 17 la st M) := evC ((pm165 X 16).trans rfl) la st M
theorem e165_17 (X : aX) (la : aLs) (st : List aV) (M : aM) : go X 165 17 la st M = kC X 165 (i_ci (nI 1) 18 la st M) := evC ((pm165 X 17).trans rfl) la st M
theorem e165_18 (X : aX) (la : aLs) (st : List aV) (M : aM) : go X 165 18 la st M = kK X 165 121 2 21 0 la st M := evK ((pm165 X 18).trans rfl) la st M
theorem e165_21 (X : aX) (la : aLs) (st : List aV) (M : aM) : go X 165 21 la st M = kC X 165 (i_ci (nI 0) 22 la st M) := evC ((pm165 X 21).trans rfl) la st M
theorem e165_22 (X : aX) (la : aLs) (st : List aV) (M : aM) : go X 165 22 la st M = kC X 165 (i_ci (nI 59) 24 la st M) := evC ((pm165 X 22).trans rfl) la st M
theorem e165_24 (X : aX) (la : aLs) (st : List aV) (M : aM) : go X 165 24 la st M = kC X 165 (i_ci (-1) 25 la st M) := evC ((pm165 X 24).trans rfl) la st M
theorem e165_25 (X : aX) (la : aLs) (st : List aV) (M : aM) : go X 165 25 la st M = kC X 165 (i_ldi 2 26 la st M) := evC ((pm165 X 25).trans rfl) la st M
theorem e165_26 (X : aX) (la : aLs) (st : List aV) (M : aM) : go X 165 26 la st M = kK X 165 164 6 29 7 la st M := evK ((pm165 X 26).trans rfl) la st M
theorem e165_29 (X : aX) (la : aLs) (st : List aV) (M : aM) : go X 165 29 la st M = kC X 165 (i_go 38 la st M) := evC ((pm165 X 29).trans rfl) la st M
theorem e165_32 (X : aX) (la : aLs) (st : List aV) (M : aM) : go X 165 32 la st M = kC X 165 (i_lda 0 33 la st M) := evC ((pm165 X 32).trans rfl) la st M
theorem e165_33 (X : aX) (la : aLs) (st : List aV) (M : aM) : go X 165 33 la st M = kC X 165 (i_ci (-1000001) 35 la st M) := evC ((pm165 X 33).trans rfl) la st M
theorem e165_35 (X : aX) (la : aLs) (st : List aV) (M : aM) : go X 165 35 la st M = kK X 165 113 2 38 7 la st M := evK ((pm165 X 35).trans rfl) la st M
theorem e165_38 (X : aX) (la : aLs) (st : List aV) (M : aM) : go X 165 38 la st M = i_irt st M := evR ((pm165 X 38).trans rfl) la st M
theorem c165 (X : aX) (as : List aV) (M : aM) : cl X 165 as M = if cs as ≤ 3 then go X 165 0 (ent 3 as) [] M else none := rfl
theorem pm166 (X : aX) (pc : Nat) : pg X 166 pc = lk pc (tb166 X) := rfl
theorem e166_0 (X : aX) (la : aLs) (st : List aV) (M : aM) : go X 166 0 la st M = kC X 166 (i_lda 0 1 la st M) := evC ((pm166 X 0).trans rfl) la st M
theorem e166_1 (X : aX) (la : aLs) (st : List aV) (M : aM) : go X 166 1 la st M = kC X 166 (i_ldi 1 2 la st M) := evC ((pm166 X 1).trans rfl) la st M
theorem e166_2 (X : aX) (la : aLs) (st : List aV) (M : aM) : go X 166 2 la st M = kK X 166 123 2 5 7 la st M := evK ((pm166 X 2).trans rfl) la st M
theorem e166_5 (X : aX) (la : aLs) (st : List aV) (M : aM) : go X 166 5 la st M = kC X 166 (i_ife 15 8 la st M) := evC ((pm166 X 5).trans rfl) la st M
theorem e166_8 (X : aX) (la : aLs) (st : List aV) (M : aM) : go X 166 8 la st M = kC X 166 (i_ldi 2 9 la st M) := evC ((pm166 X 8).trans rfl) la st M
theorem e166_9 (X : aX) (la : aLs) (st : List aV) (M : aM) : go X 166 9 la st M = kK X 166 163 1 12 0 la st M := evK ((pm166 X 9).trans rfl) la st M
theorem e166_12 (X : aX) (la : aLs) (st : List aV) (M : aM) : go X 166 12 la st M = kC X 166 (i_ife 15 22 la st M) := evC ((pm166 X 12).trans rfl) la st M
theorem e166_15 (X : aX) (la : aLs) (st : List aV) (M : aM) : go X 166 15 la st M = kC X 166 (i_lda 0 16 la st M) := evC ((pm166 X 15).trans rfl) la st M
theorem e166_16 (X : aX) (la : aLs) (st : List aV) (M : aM) : go X 166 16 la st M = kC X 166 (i_ci (-1000001) 18 la st M) := evC ((pm166 X 16).trans rfl) la st M
theorem e166_18 (X : aX) (la : aLs) (st : List aV) (M : aM) : go X 166 18 la st M = kK X 166 113 2 21 7 la st M := evK ((pm166 X 18).trans rfl) la st M
theorem e166_21 (X : aX) (la : aLs) (st : List aV) (M : aM) : go X 166 21 la st M = i_irt st M := evR ((pm166 X 21).trans rfl) la st M
theorem e166_22 (X : aX) (la : aLs) (st : List aV) (M : aM) : go X 166 22 la st M = kC X 166 (i_ldi 1 23 la st M) := evC ((pm166 X 22).trans rfl) la st M
theorem e166_23 (X : aX) (la : aLs) (st : List aV) (M : aM) : go X 166 23 la st M = kC X 166 (i_ci (nI 2) 24 la st M) := evC ((pm166 X 23).trans rfl) la st M
theorem e166_24 (X : aX) (la : aLs) (st : List aV) (M : aM) : go X 166 24 la st M = kK X 166 121 2 27 0 la st M := evK ((pm166 X 24).trans rfl) la st M
theorem e166_27 (X : aX) (la : aLs) (st : List aV) (M : aM) : go X 166 27 la st M = kC X 166 (i_sti 3 28 la st M) := evC ((pm166 X 27).trans rfl) la st M
theorem e166_28 (X : aX) (la : aLs) (st : List aV) (M : aM) : go X 166 28 la st M = kC X 166 (i_lda 0 29 la st M) := evC ((pm166 X 28).trans rfl) la st M
theorem e166_29 (X : aX) (la : aLs) (st : List aV) (M : aM) : go X 166 29 la st M = kC X 166 (i_get 6 0 32 la st M) := evC ((pm166 X 29).trans rfl) la st M
theorem e166_32 (X : aX) (la : aLs) (st : List aV) (M : aM) : go X 166 32 la st M = kC X 166 (i_ldi 3 33 la st M) := evC ((pm166 X 32).trans rfl) la st M
theorem e166_33 (X : aX) (la : aLs) (st : List aV) (M : aM) : go X 166 33 la st M = kC X 166 (i_ial X 34 la st M) := evC ((pm166 X 33).trans rfl) la st M
theorem e166_34 (X : aX) (la : aLs) (st : List aV) (M : aM) : go X 166 34 la st M = kC X 166 (i_sti 4 36 la st M) := evC ((pm166 X 34).trans rfl) la st M
theorem e166_36 (X : aX) (la : aLs) (st : List aV) (M : aM) : go X 166 36 la st M = kC X 166 (i_ci (-1) 37 la st M) := evC ((pm166 X 36).trans rfl) la st M
theorem e166_37 (X : aX) (la : aLs) (st : List aV) (M : aM) : go X 166 37 la st M = kC X 166 (i_sti 5 39 la st M) := evC ((pm166 X 37).trans rfl) la st M
theorem e166_39 (X : aX) (la : aLs) (st : List aV) (M : aM) : go X 166 39 la st M = kC X 166 (i_ci (-1) 40 la st M) := evC ((pm166 X 39).trans rfl) la st M
theorem e166_40 (X : aX) (la : aLs) (st : List aV) (M : aM) : go X 166 40 la st M = kC X 166 (i_sti 6 42 la st M) := evC ((pm166 X 40).trans rfl) la st M
theorem e166_42 (X : aX) (la : aLs) (st : List aV) (M : aM) : go X 166 42 la st M = kC X 166 (i_ci (nI 0) 43 la st M) := evC ((pm166 X 42).trans rfl) la st M
theorem e166_43 (X : aX) (la : aLs) (st : List aV) (M : aM) : go X 166 43 la st M = kC X 166 (i_sti 7 45 la st M) := evC ((pm166 X 43).trans rfl) la st M
theorem e166_45 (X : aX) (la : aLs) (st : List aV) (M : aM) : go X 166 45 la st M = kC X 166 (i_ldi 7 47 la st M) := evC ((pm166 X 45).trans rfl) la st M
theorem e166_47 (X : aX) (la : aLs) (st : List aV) (M : aM) : go X 166 47 la st M = kC X 166 (i_lda 0 48 la st M) := evC ((pm166 X 47).trans rfl) la st M
theorem e166_48 (X : aX) (la : aLs) (st : List aV) (M : aM) : go X 166 48 la st M = kC X 166 (i_get 6 0 51 la st M) := evC ((pm166 X 48).trans rfl) la st M
theorem e166_51 (X : aX) (la : aLs) (st : List aV) (M : aM) : go X 166 51 la st M = kC X 166 (i_ci (nI 1) 52 la st M) := evC ((pm166 X 51).trans rfl) la st M
theorem e166_52 (X : aX) (la : aLs) (st : List aV) (M : aM) : go X 166 52 la st M = kC X 166 (i_ial X 53 la st M) := evC ((pm166 X 52).trans rfl) la st M
theorem e166_53 (X : aX) (la : aLs) (st : List aV) (M : aM) : go X 166 53 la st M = kC X 166 (i_cmg 117 56 la st M) := evC ((pm166 X 53).trans rfl) la st M
theorem e166_56 (X : aX) (la : aLs) (st : List aV) (M : aM) : go X 166 56 la st M = kC X 166 (i_ldi 7 58 la st M) := evC ((pm166 X 56).trans rfl) la st M
theorem e166_58 (X : aX) (la : aLs) (st : List aV) (M : aM) : go X 166 58 la st M = kC X 166 (i_ldi 1 59 la st M) := evC ((pm166 X 58).trans rfl) la st M
theorem e166_59 (X : aX) (la : aLs) (st : List aV) (M : aM) : go X 166 59 la st M = kC X 166 (i_cme 111 62 la st M) := evC ((pm166 X 59).trans rfl) la st M
theorem e166_62 (X : aX) (la : aLs) (st : List aV) (M : aM) : go X 166 62 la st M = kC X 166 (i_lda 0 63 la st M) := evC ((pm166 X 62).trans rfl) la st M
theorem e166_63 (X : aX) (la : aLs) (st : List aV) (M : aM) : go X 166 63 la st M = kC X 166 (i_get 6 0 66 la st M) := evC ((pm166 X 63).trans rfl) la st M
theorem e166_66 (X : aX) (la : aLs) (st : List aV) (M : aM) : go X 166 66 la st M = kC X 166 (i_ldi 3 67 la st M) := evC ((pm166 X 66).trans rfl) la st M
theorem e166_67 (X : aX) (la : aLs) (st : List aV) (M : aM) : go X 166 67 la st M = kC X 166 (i_ldi 7 69 la st M) := evC ((pm166 X 67).trans rfl) la st M
theorem e166_69 (X : aX) (la : aLs) (st : List aV) (M : aM) : go X 166 69 la st M = kC X 166 (i_lda 0 70 la st M) := evC ((pm166 X 69).trans rfl) la st M
theorem e166_70 (X : aX) (la : aLs) (st : List aV) (M : aM) : go X 166 70 la st M = kC X 166 (i_get 6 0 73 la st M) := evC ((pm166 X 70).trans rfl) la st M
theorem e166_73 (X : aX) (la : aLs) (st : List aV) (M : aM) : go X 166 73 la st M = kC X 166 (i_ci (nI 1) 74 la st M) := evC ((pm166 X 73).trans rfl) la st M
theorem e166_74 (X : aX) (la : aLs) (st : List aV) (M : aM) : go X 166 74 la st M = kC X 166 (i_ial X 75 la st M) := evC ((pm166 X 74).trans rfl) la st M
theorem e166_75 (X : aX) (la : aLs) (st : List aV) (M : aM) : go X 166 75 la st M = kC X 166 (i_cme 78 82 la st M) := evC ((pm166 X 75).trans rfl) la st M
theorem e166_78 (X : aX) (la : aLs) (st : List aV) (M : aM) : go X 166 78 la st M = kC X 166 (i_ci (-1) 79 la st M) := evC ((pm166 X 78).trans rfl) la st M
theorem e166_79 (X : aX) (la : aLs) (st : List aV) (M : aM) : go X 166 79 la st M = kC X 166 (i_go 84 la st M) := evC ((pm166 X 79).trans rfl) la st M
theorem e166_82 (X : aX) (la : aLs) (st : List aV) (M : aM) : go X 166 82 la st M = kC X 166 (i_ldi 7 84 la st M) := evC ((pm166 X 82).trans rfl) la st M
theorem e166_84 (X : aX) (la : aLs) (st : List aV) (M : aM) : go X 166 84 la st M = kC X 166 (i_ias 85 la st M) := evC ((pm166 X 84).trans rfl) la st M
theorem e166_85 (X : aX) (la : aLs) (st : List aV) (M : aM) : go X 166 85 la st M = kC X 166 (i_lda 0 86 la st M) := evC ((pm166 X 85).trans rfl) la st M
theorem e166_86 (X : aX) (la : aLs) (st : List aV) (M : aM) : go X 166 86 la st M = kC X 166 (i_ldi 2 87 la st M) := evC ((pm166 X 86).trans rfl) la st M
theorem e166_87 (X : aX) (la : aLs) (st : List aV) (M : aM) : go X 166 87 la st M = kK X 166 155 2 90 7 la st M := evK ((pm166 X 87).trans rfl) la st M
theorem e166_90 (X : aX) (la : aLs) (st : List aV) (M : aM) : go X 166 90 la st M = kC X 166 (i_sti 8 92 la st M) := evC ((pm166 X 90).trans rfl) la st M
theorem e166_92 (X : aX) (la : aLs) (st : List aV) (M : aM) : go X 166 92 la st M = kC X 166 (i_ldi 8 94 la st M) := evC ((pm166 X 92).trans rfl) la st M
theorem e166_94 (X : aX) (la : aLs) (st : List aV) (M : aM) : go X 166 94 la st M = kC X 166 (i_ldi 6 96 la st M) := evC ((pm166 X 94).trans rfl) la st M
theorem e166_96 (X : aX) (la : aLs) (st : List aV) (M : aM) : go X 166 96 la st M = kC X 166 (i_cmg 99 111 la st M) := evC ((pm166 X 96).trans rfl) la st M
theorem e166_99 (X : aX) (la : aLs) (st : List aV) (M : aM) : go X 166 99 la st M = kC X 166 (i_lda 0 100 la st M) := evC ((pm166 X 99).trans rfl) la st M
theorem e166_100 (X : aX) (la : aLs) (st : List aV) (M : aM) : go X 166 100 la st M = kC X 166 (i_get 6 0 103 la st M) := evC ((pm166 X 100).trans rfl) la st M
theorem e166_103 (X : aX) (la : aLs) (st : List aV) (M : aM) : go X 166 103 la st M = kC X 166 (i_ldi 3 104 la st M) := evC ((pm166 X 103).trans rfl) la st M
theorem e166_104 (X : aX) (la : aLs) (st : List aV) (M : aM) : go X 166 104 la st M = kC X 166 (i_ial X 105 la st M) := evC ((pm166 X 104).trans rfl) la st M
theorem e166_105 (X : aX) (la : aLs) (st : List aV) (M : aM) : go X 166 105 la st M = kC X 166 (i_sti 5 107 la st M) := evC ((pm166 X 105).trans rfl) la st M
theorem e166_107 (X : aX) (la : aLs) (st : List aV) (M : aM) : go X 166 107 la st M = kC X 166 (i_ldi 8 109 la st M) := evC ((pm166 X 107).trans rfl) la st M
theorem e166_109 (X : aX) (la : aLs) (st : List aV) (M : aM) : go X 166 109 la st M = kC X 166 (i_sti 6 111 la st M) := evC ((pm166 X 109).trans rfl) la st M
theorem e166_111 (X : aX) (la : aLs) (st : List aV) (M : aM) : go X 166 111 la st M = kC X 166 (i_inc 7 (nI 1) 114 la st M) := evC ((pm166 X 111).trans rfl) la st M
theorem e166_114 (X : aX) (la : aLs) (st : List aV) (M : aM) : go X 166 114 la st M = kC X 166 (i_go 45 la st M) := evC ((pm166 X 114).trans rfl) la st M
theorem e166_117 (X : aX) (la : aLs) (st : List aV) (M : aM) : go X 166 117 la st M = kC X 166 (i_lda 0 118 la st M) := evC ((pm166 X 117).trans rfl) la st M
theorem e166_118 (X : aX) (la : aLs) (st : List aV) (M : aM) : go X 166 118 la st M = kC X 166 (i_get 6 0 121 la st M) := evC ((pm166 X 118).trans rfl) la st M
theorem e166_121 (X : aX) (la : aLs) (st : List aV) (M : aM) : go X 166 121 la st M = kC X 166 (i_ldi 3 122 la st M) := evC ((pm166 X 121).trans rfl) la st M
theorem e166_122 (X : aX) (la : aLs) (st : List aV) (M : aM) : go X 166 122 la st M = kC X 166 (i_ldi 4 124 la st M) := evC ((pm166 X 122).trans rfl) la st M
theorem e166_124 (X : aX) (la : aLs) (st : List aV) (M : aM) : go X 166 124 la st M = kC X 166 (i_ias 125 la st M) := evC ((pm166 X 124).trans rfl) la st M
theorem e166_125 (X : aX) (la : aLs) (st : List aV) (M : aM) : go X 166 125 la st M = kC X 166 (i_ldi 5 127 la st M) := evC ((pm166 X 125).trans rfl) la st M
theorem e166_127 (X : aX) (la : aLs) (st : List aV) (M : aM) : go X 166 127 la st M = i_irt st M := evR ((pm166 X 127).trans rfl) la st M
theorem c166 (X : aX) (as : List aV) (M : aM) : cl X 166 as M = if cs as ≤ 9 then go X 166 0 (ent 9 as) [] M else none := rfl
theorem pm167 (X : aX) (pc : Nat) : pg X 167 pc = lk pc (tb167 X) := rfl
theorem e167_0 (X : aX) (la : aLs) (st : List aV) (M : aM) : go X 167 0 la st M = kC X 167 (i_lda 0 1 la st M) := evC ((pm167 X 0).trans rfl) la st M
theorem e167_1 (X : aX) (la : aLs) (st : List aV) (M : aM) : go X 167 1 la st M = kC X 167 (i_ldi 1 2 la st M) := evC ((pm167 X 1).trans rfl) la st M
theorem e167_2 (X : aX) (la : aLs) (st : List aV) (M : aM) : go X 167 2 la st M = kK X 167 123 2 5 7 la st M := evK ((pm167 X 2).trans rfl) la st M
theorem e167_5 (X : aX) (la : aLs) (st : List aV) (M : aM) : go X 167 5 la st M = kC X 167 (i_ife 37 8 la st M) := evC ((pm167 X 5).trans rfl) la st M
theorem e167_8 (X : aX) (la : aLs) (st : List aV) (M : aM) : go X 167 8 la st M = kC X 167 (i_ldi 2 9 la st M) := evC ((pm167 X 8).trans rfl) la st M
theorem e167_9 (X : aX) (la : aLs) (st : List aV) (M : aM) : go X 167 9 la st M = kK X 167 163 1 12 0 la st M := evK ((pm167 X 9).trans rfl) la st M
theorem e167_12 (X : aX) (la : aLs) (st : List aV) (M : aM) : go X 167 12 la st M = kC X 167 (i_ife 37 15 la st M) := evC ((pm167 X 12).trans rfl) la st M
theorem e167_15 (X : aX) (la : aLs) (st : List aV) (M : aM) : go X 167 15 la st M = kC X 167 (i_lda 0 16 la st M) := evC ((pm167 X 15).trans rfl) la st M
theorem e167_16 (X : aX) (la : aLs) (st : List aV) (M : aM) : go X 167 16 la st M = kC X 167 (i_ldi 1 17 la st M) := evC ((pm167 X 16).trans rfl) la st M
theorem e167_17 (X : aX) (la : aLs) (st : List aV) (M : aM) : go X 167 17 la st M = kC X 167 (i_ci (nI 0) 18 la st M) := evC ((pm167 X 17).trans rfl) la st M
theorem e167_18 (X : aX) (la : aLs) (st : List aV) (M : aM) : go X 167 18 la st M = kK X 167 121 2 21 0 la st M := evK ((pm167 X 18).trans rfl) la st M
theorem e167_21 (X : aX) (la : aLs) (st : List aV) (M : aM) : go X 167 21 la st M = kC X 167 (i_ci (nI 0) 22 la st M) := evC ((pm167 X 21).trans rfl) la st M
theorem e167_22 (X : aX) (la : aLs) (st : List aV) (M : aM) : go X 167 22 la st M = kC X 167 (i_ci (nI 6) 24 la st M) := evC ((pm167 X 22).trans rfl) la st M
theorem e167_24 (X : aX) (la : aLs) (st : List aV) (M : aM) : go X 167 24 la st M = kC X 167 (i_ldi 1 25 la st M) := evC ((pm167 X 24).trans rfl) la st M
theorem e167_25 (X : aX) (la : aLs) (st : List aV) (M : aM) : go X 167 25 la st M = kC X 167 (i_ci (nI 9) 27 la st M) := evC ((pm167 X 25).trans rfl) la st M
theorem e167_27 (X : aX) (la : aLs) (st : List aV) (M : aM) : go X 167 27 la st M = kK X 167 121 2 30 0 la st M := evK ((pm167 X 27).trans rfl) la st M
theorem e167_30 (X : aX) (la : aLs) (st : List aV) (M : aM) : go X 167 30 la st M = kC X 167 (i_ldi 2 31 la st M) := evC ((pm167 X 30).trans rfl) la st M
theorem e167_31 (X : aX) (la : aLs) (st : List aV) (M : aM) : go X 167 31 la st M = kK X 167 164 6 34 7 la st M := evK ((pm167 X 31).trans rfl) la st M
theorem e167_34 (X : aX) (la : aLs) (st : List aV) (M : aM) : go X 167 34 la st M = kC X 167 (i_go 43 la st M) := evC ((pm167 X 34).trans rfl) la st M
theorem e167_37 (X : aX) (la : aLs) (st : List aV) (M : aM) : go X 167 37 la st M = kC X 167 (i_lda 0 38 la st M) := evC ((pm167 X 37).trans rfl) la st M
theorem e167_38 (X : aX) (la : aLs) (st : List aV) (M : aM) : go X 167 38 la st M = kC X 167 (i_ci (-1000001) 40 la st M) := evC ((pm167 X 38).trans rfl) la st M
theorem e167_40 (X : aX) (la : aLs) (st : List aV) (M : aM) : go X 167 40 la st M = kK X 167 113 2 43 7 la st M := evK ((pm167 X 40).trans rfl) la st M
theorem e167_43 (X : aX) (la : aLs) (st : List aV) (M : aM) : go X 167 43 la st M = i_irt st M := evR ((pm167 X 43).trans rfl) la st M
theorem c167 (X : aX) (as : List aV) (M : aM) : cl X 167 as M = if cs as ≤ 3 then go X 167 0 (ent 3 as) [] M else none := rfl
