theorem pm0 (X : aX) (pc : Nat) : pg X 0 pc = lk pc (tb0 X) := rfl
theorem e0_0 (X : aX) (la : aLs) (st : List aV) (M : aM) : go X 0 0 la st M = kC X 0 (i_lda 0 1 la st M) := evC ((pm0 X 0).trans rfl) la st M
theorem e0_1 (X : aX) (la : aLs) (st : List aV) (M : aM) : go X 0 1 la st M = kC X 0 (i_oin 4 la st M) := evC ((pm0 X 1).trans rfl) la st M
theorem e0_4 (X : aX) (la : aLs) (st : List aV) (M : aM) : go X 0 4 la st M = kC X 0 (i_lda 0 5 la st M) := evC ((pm0 X 4).trans rfl) la st M
theorem e0_5 (X : aX) (la : aLs) (st : List aV) (M : aM) : go X 0 5 la st M = kC X 0 (i_new 4 8 la st M) := evC ((pm0 X 5).trans rfl) la st M
theorem e0_8 (X : aX) (la : aLs) (st : List aV) (M : aM) : go X 0 8 la st M = kC X 0 (i_dup 9 la st M) := evC ((pm0 X 8).trans rfl) la st M
theorem e0_9 (X : aX) (la : aLs) (st : List aV) (M : aM) : go X 0 9 la st M = kK X 0 53 1 12 5 la st M := evK ((pm0 X 9).trans rfl) la st M
theorem e0_12 (X : aX) (la : aLs) (st : List aV) (M : aM) : go X 0 12 la st M = kC X 0 (i_put 0 0 2 15 la st M) := evC ((pm0 X 12).trans rfl) la st M
theorem e0_15 (X : aX) (la : aLs) (st : List aV) (M : aM) : go X 0 15 la st M = i_vrt st M := evR ((pm0 X 15).trans rfl) la st M
theorem c0 (X : aX) (as : List aV) (M : aM) : cl X 0 as M = if cs as ≤ 1 then go X 0 0 (ent 1 as) [] M else none := rfl
theorem pm1 (X : aX) (pc : Nat) : pg X 1 pc = lk pc (tb1 X) := rfl
theorem e1_0 (X : aX) (la : aLs) (st : List aV) (M : aM) : go X 1 0 la st M = kC X 1 (i_lda 0 1 la st M) := evC ((pm1 X 0).trans rfl) la st M
theorem e1_1 (X : aX) (la : aLs) (st : List aV) (M : aM) : go X 1 1 la st M = kC X 1 (i_get 0 0 4 la st M) := evC ((pm1 X 1).trans rfl) la st M
theorem e1_4 (X : aX) (la : aLs) (st : List aV) (M : aM) : go X 1 4 la st M = kK X 1 56 1 7 5 la st M := evK ((pm1 X 4).trans rfl) la st M
theorem e1_7 (X : aX) (la : aLs) (st : List aV) (M : aM) : go X 1 7 la st M = kC X 1 (i_ci (nI 1) 8 la st M) := evC ((pm1 X 7).trans rfl) la st M
theorem e1_8 (X : aX) (la : aLs) (st : List aV) (M : aM) : go X 1 8 la st M = kC X 1 (i_sti 2 9 la st M) := evC ((pm1 X 8).trans rfl) la st M
theorem e1_9 (X : aX) (la : aLs) (st : List aV) (M : aM) : go X 1 9 la st M = kC X 1 (i_ldi 2 10 la st M) := evC ((pm1 X 9).trans rfl) la st M
theorem e1_10 (X : aX) (la : aLs) (st : List aV) (M : aM) : go X 1 10 la st M = kC X 1 (i_ci (nI 120) 12 la st M) := evC ((pm1 X 10).trans rfl) la st M
theorem e1_12 (X : aX) (la : aLs) (st : List aV) (M : aM) : go X 1 12 la st M = kC X 1 (i_cmg 65 15 la st M) := evC ((pm1 X 12).trans rfl) la st M
theorem e1_15 (X : aX) (la : aLs) (st : List aV) (M : aM) : go X 1 15 la st M = kC X 1 (i_lda 0 16 la st M) := evC ((pm1 X 15).trans rfl) la st M
theorem e1_16 (X : aX) (la : aLs) (st : List aV) (M : aM) : go X 1 16 la st M = kC X 1 (i_lda 1 17 la st M) := evC ((pm1 X 16).trans rfl) la st M
theorem e1_17 (X : aX) (la : aLs) (st : List aV) (M : aM) : go X 1 17 la st M = kK X 1 2 2 20 1 la st M := evK ((pm1 X 17).trans rfl) la st M
theorem e1_20 (X : aX) (la : aLs) (st : List aV) (M : aM) : go X 1 20 la st M = kC X 1 (i_ife 23 26 la st M) := evC ((pm1 X 20).trans rfl) la st M
theorem e1_23 (X : aX) (la : aLs) (st : List aV) (M : aM) : go X 1 23 la st M = kC X 1 (i_go 65 la st M) := evC ((pm1 X 23).trans rfl) la st M
theorem e1_26 (X : aX) (la : aLs) (st : List aV) (M : aM) : go X 1 26 la st M = kC X 1 (i_lda 0 27 la st M) := evC ((pm1 X 26).trans rfl) la st M
theorem e1_27 (X : aX) (la : aLs) (st : List aV) (M : aM) : go X 1 27 la st M = kC X 1 (i_get 0 0 30 la st M) := evC ((pm1 X 27).trans rfl) la st M
theorem e1_30 (X : aX) (la : aLs) (st : List aV) (M : aM) : go X 1 30 la st M = kC X 1 (i_get 4 2 33 la st M) := evC ((pm1 X 30).trans rfl) la st M
theorem e1_33 (X : aX) (la : aLs) (st : List aV) (M : aM) : go X 1 33 la st M = kC X 1 (i_ife 36 38 la st M) := evC ((pm1 X 33).trans rfl) la st M
theorem e1_36 (X : aX) (la : aLs) (st : List aV) (M : aM) : go X 1 36 la st M = kC X 1 (i_ldi 2 37 la st M) := evC ((pm1 X 36).trans rfl) la st M
theorem e1_37 (X : aX) (la : aLs) (st : List aV) (M : aM) : go X 1 37 la st M = i_irt st M := evR ((pm1 X 37).trans rfl) la st M
theorem e1_38 (X : aX) (la : aLs) (st : List aV) (M : aM) : go X 1 38 la st M = kC X 1 (i_lda 0 39 la st M) := evC ((pm1 X 38).trans rfl) la st M
theorem e1_39 (X : aX) (la : aLs) (st : List aV) (M : aM) : go X 1 39 la st M = kC X 1 (i_get 0 0 42 la st M) := evC ((pm1 X 39).trans rfl) la st M
theorem e1_42 (X : aX) (la : aLs) (st : List aV) (M : aM) : go X 1 42 la st M = kC X 1 (i_get 4 2 45 la st M) := evC ((pm1 X 42).trans rfl) la st M
theorem e1_45 (X : aX) (la : aLs) (st : List aV) (M : aM) : go X 1 45 la st M = kC X 1 (i_ci (nI 3) 46 la st M) := evC ((pm1 X 45).trans rfl) la st M
theorem e1_46 (X : aX) (la : aLs) (st : List aV) (M : aM) : go X 1 46 la st M = kC X 1 (i_cme 52 49 la st M) := evC ((pm1 X 46).trans rfl) la st M
theorem e1_49 (X : aX) (la : aLs) (st : List aV) (M : aM) : go X 1 49 la st M = kC X 1 (i_go 65 la st M) := evC ((pm1 X 49).trans rfl) la st M
theorem e1_52 (X : aX) (la : aLs) (st : List aV) (M : aM) : go X 1 52 la st M = kC X 1 (i_lda 0 53 la st M) := evC ((pm1 X 52).trans rfl) la st M
theorem e1_53 (X : aX) (la : aLs) (st : List aV) (M : aM) : go X 1 53 la st M = kC X 1 (i_get 0 0 56 la st M) := evC ((pm1 X 53).trans rfl) la st M
theorem e1_56 (X : aX) (la : aLs) (st : List aV) (M : aM) : go X 1 56 la st M = kK X 1 57 1 59 5 la st M := evK ((pm1 X 56).trans rfl) la st M
theorem e1_59 (X : aX) (la : aLs) (st : List aV) (M : aM) : go X 1 59 la st M = kC X 1 (i_inc 2 (nI 1) 62 la st M) := evC ((pm1 X 59).trans rfl) la st M
theorem e1_62 (X : aX) (la : aLs) (st : List aV) (M : aM) : go X 1 62 la st M = kC X 1 (i_go 9 la st M) := evC ((pm1 X 62).trans rfl) la st M
theorem e1_65 (X : aX) (la : aLs) (st : List aV) (M : aM) : go X 1 65 la st M = kC X 1 (i_ci (-1) 66 la st M) := evC ((pm1 X 65).trans rfl) la st M
theorem e1_66 (X : aX) (la : aLs) (st : List aV) (M : aM) : go X 1 66 la st M = kC X 1 (i_lda 0 67 la st M) := evC ((pm1 X 66).trans rfl) la st M
theorem e1_67 (X : aX) (la : aLs) (st : List aV) (M : aM) : go X 1 67 la st M = kC X 1 (i_get 0 0 70 la st M) := evC ((pm1 X 67).trans rfl) la st M
theorem e1_70 (X : aX) (la : aLs) (st : List aV) (M : aM) : go X 1 70 la st M = kC X 1 (i_get 4 3 73 la st M) := evC ((pm1 X 70).trans rfl) la st M
theorem e1_73 (X : aX) (la : aLs) (st : List aV) (M : aM) : go X 1 73 la st M = kC X 1 (i_bin (fun x y => x - y) 74 la st M) := evC ((pm1 X 73).trans rfl) la st M
theorem e1_74 (X : aX) (la : aLs) (st : List aV) (M : aM) : go X 1 74 la st M = i_irt st M := evR ((pm1 X 74).trans rfl) la st M
theorem c1 (X : aX) (as : List aV) (M : aM) : cl X 1 as M = if cs as ≤ 3 then go X 1 0 (ent 3 as) [] M else none := rfl
theorem pm2 (X : aX) (pc : Nat) : pg X 2 pc = lk pc (tb2 X) := rfl
theorem e2_0 (X : aX) (la : aLs) (st : List aV) (M : aM) : go X 2 0 la st M = kC X 2 (i_lda 0 1 la st M) := evC ((pm2 X 0).trans rfl) la st M
theorem e2_1 (X : aX) (la : aLs) (st : List aV) (M : aM) : go X 2 1 la st M = kC X 2 (i_get 0 0 4 la st M) := evC ((pm2 X 1).trans rfl) la st M
theorem e2_4 (X : aX) (la : aLs) (st : List aV) (M : aM) : go X 2 4 la st M = kC X 2 (i_ca (aR (80, 12, 0)) 6 la st M) := evC ((pm2 X 4).trans rfl) la st M
theorem e2_6 (X : aX) (la : aLs) (st : List aV) (M : aM) : go X 2 6 la st M = kK X 2 60 2 9 5 la st M := evK ((pm2 X 6).trans rfl) la st M
theorem e2_9 (X : aX) (la : aLs) (st : List aV) (M : aM) : go X 2 9 la st M = kC X 2 (i_ife 18 12 la st M) := evC ((pm2 X 9).trans rfl) la st M
theorem e2_12 (X : aX) (la : aLs) (st : List aV) (M : aM) : go X 2 12 la st M = kC X 2 (i_lda 0 13 la st M) := evC ((pm2 X 12).trans rfl) la st M
theorem e2_13 (X : aX) (la : aLs) (st : List aV) (M : aM) : go X 2 13 la st M = kC X 2 (i_lda 1 14 la st M) := evC ((pm2 X 13).trans rfl) la st M
theorem e2_14 (X : aX) (la : aLs) (st : List aV) (M : aM) : go X 2 14 la st M = kK X 2 3 2 17 1 la st M := evK ((pm2 X 14).trans rfl) la st M
theorem e2_17 (X : aX) (la : aLs) (st : List aV) (M : aM) : go X 2 17 la st M = i_zrt st M := evR ((pm2 X 17).trans rfl) la st M
theorem e2_18 (X : aX) (la : aLs) (st : List aV) (M : aM) : go X 2 18 la st M = kC X 2 (i_lda 0 19 la st M) := evC ((pm2 X 18).trans rfl) la st M
theorem e2_19 (X : aX) (la : aLs) (st : List aV) (M : aM) : go X 2 19 la st M = kC X 2 (i_get 0 0 22 la st M) := evC ((pm2 X 19).trans rfl) la st M
theorem e2_22 (X : aX) (la : aLs) (st : List aV) (M : aM) : go X 2 22 la st M = kC X 2 (i_ca (aR (80, 13, 0)) 24 la st M) := evC ((pm2 X 22).trans rfl) la st M
theorem e2_24 (X : aX) (la : aLs) (st : List aV) (M : aM) : go X 2 24 la st M = kK X 2 60 2 27 5 la st M := evK ((pm2 X 24).trans rfl) la st M
theorem e2_27 (X : aX) (la : aLs) (st : List aV) (M : aM) : go X 2 27 la st M = kC X 2 (i_ife 36 30 la st M) := evC ((pm2 X 27).trans rfl) la st M
theorem e2_30 (X : aX) (la : aLs) (st : List aV) (M : aM) : go X 2 30 la st M = kC X 2 (i_lda 0 31 la st M) := evC ((pm2 X 30).trans rfl) la st M
theorem e2_31 (X : aX) (la : aLs) (st : List aV) (M : aM) : go X 2 31 la st M = kC X 2 (i_lda 1 32 la st M) := evC ((pm2 X 31).trans rfl) la st M
theorem e2_32 (X : aX) (la : aLs) (st : List aV) (M : aM) : go X 2 32 la st M = kK X 2 4 2 35 1 la st M := evK ((pm2 X 32).trans rfl) la st M
theorem e2_35 (X : aX) (la : aLs) (st : List aV) (M : aM) : go X 2 35 la st M = i_zrt st M := evR ((pm2 X 35).trans rfl) la st M
theorem e2_36 (X : aX) (la : aLs) (st : List aV) (M : aM) : go X 2 36 la st M = kC X 2 (i_lda 0 37 la st M) := evC ((pm2 X 36).trans rfl) la st M
theorem e2_37 (X : aX) (la : aLs) (st : List aV) (M : aM) : go X 2 37 la st M = kK X 2 7 1 40 1 la st M := evK ((pm2 X 37).trans rfl) la st M
theorem e2_40 (X : aX) (la : aLs) (st : List aV) (M : aM) : go X 2 40 la st M = kC X 2 (i_sti 2 41 la st M) := evC ((pm2 X 40).trans rfl) la st M
theorem e2_41 (X : aX) (la : aLs) (st : List aV) (M : aM) : go X 2 41 la st M = kC X 2 (i_ldi 2 42 la st M) := evC ((pm2 X 41).trans rfl) la st M
theorem e2_42 (X : aX) (la : aLs) (st : List aV) (M : aM) : go X 2 42 la st M = kC X 2 (i_ifl 52 45 la st M) := evC ((pm2 X 42).trans rfl) la st M
theorem e2_45 (X : aX) (la : aLs) (st : List aV) (M : aM) : go X 2 45 la st M = kC X 2 (i_lda 1 46 la st M) := evC ((pm2 X 45).trans rfl) la st M
theorem e2_46 (X : aX) (la : aLs) (st : List aV) (M : aM) : go X 2 46 la st M = kK X 2 28 1 49 4 la st M := evK ((pm2 X 46).trans rfl) la st M
theorem e2_49 (X : aX) (la : aLs) (st : List aV) (M : aM) : go X 2 49 la st M = kC X 2 (i_ife 54 52 la st M) := evC ((pm2 X 49).trans rfl) la st M
theorem e2_52 (X : aX) (la : aLs) (st : List aV) (M : aM) : go X 2 52 la st M = kC X 2 (i_ci (nI 0) 53 la st M) := evC ((pm2 X 52).trans rfl) la st M
theorem e2_53 (X : aX) (la : aLs) (st : List aV) (M : aM) : go X 2 53 la st M = i_zrt st M := evR ((pm2 X 53).trans rfl) la st M
theorem e2_54 (X : aX) (la : aLs) (st : List aV) (M : aM) : go X 2 54 la st M = kC X 2 (i_lda 0 55 la st M) := evC ((pm2 X 54).trans rfl) la st M
theorem e2_55 (X : aX) (la : aLs) (st : List aV) (M : aM) : go X 2 55 la st M = kC X 2 (i_get 0 0 58 la st M) := evC ((pm2 X 55).trans rfl) la st M
theorem e2_58 (X : aX) (la : aLs) (st : List aV) (M : aM) : go X 2 58 la st M = kK X 2 57 1 61 5 la st M := evK ((pm2 X 58).trans rfl) la st M
theorem e2_61 (X : aX) (la : aLs) (st : List aV) (M : aM) : go X 2 61 la st M = kC X 2 (i_lda 1 62 la st M) := evC ((pm2 X 61).trans rfl) la st M
theorem e2_62 (X : aX) (la : aLs) (st : List aV) (M : aM) : go X 2 62 la st M = kC X 2 (i_ldi 2 63 la st M) := evC ((pm2 X 62).trans rfl) la st M
theorem e2_63 (X : aX) (la : aLs) (st : List aV) (M : aM) : go X 2 63 la st M = kC X 2 (i_ci (nI 0) 64 la st M) := evC ((pm2 X 63).trans rfl) la st M
theorem e2_64 (X : aX) (la : aLs) (st : List aV) (M : aM) : go X 2 64 la st M = kK X 2 29 3 67 4 la st M := evK ((pm2 X 64).trans rfl) la st M
theorem e2_67 (X : aX) (la : aLs) (st : List aV) (M : aM) : go X 2 67 la st M = kC X 2 (i_sti 3 68 la st M) := evC ((pm2 X 67).trans rfl) la st M
theorem e2_68 (X : aX) (la : aLs) (st : List aV) (M : aM) : go X 2 68 la st M = kC X 2 (i_lda 0 69 la st M) := evC ((pm2 X 68).trans rfl) la st M
theorem e2_69 (X : aX) (la : aLs) (st : List aV) (M : aM) : go X 2 69 la st M = kC X 2 (i_lda 1 70 la st M) := evC ((pm2 X 69).trans rfl) la st M
theorem e2_70 (X : aX) (la : aLs) (st : List aV) (M : aM) : go X 2 70 la st M = kC X 2 (i_ca (aR (80, 7, 0)) 72 la st M) := evC ((pm2 X 70).trans rfl) la st M
theorem e2_72 (X : aX) (la : aLs) (st : List aV) (M : aM) : go X 2 72 la st M = kC X 2 (i_ldi 3 73 la st M) := evC ((pm2 X 72).trans rfl) la st M
theorem e2_73 (X : aX) (la : aLs) (st : List aV) (M : aM) : go X 2 73 la st M = kC X 2 (i_ci (nI 1) 74 la st M) := evC ((pm2 X 73).trans rfl) la st M
theorem e2_74 (X : aX) (la : aLs) (st : List aV) (M : aM) : go X 2 74 la st M = kC X 2 (i_ci (nI 0) 75 la st M) := evC ((pm2 X 74).trans rfl) la st M
theorem e2_75 (X : aX) (la : aLs) (st : List aV) (M : aM) : go X 2 75 la st M = kC X 2 (i_ci (nI 59) 77 la st M) := evC ((pm2 X 75).trans rfl) la st M
theorem e2_77 (X : aX) (la : aLs) (st : List aV) (M : aM) : go X 2 77 la st M = kK X 2 5 7 80 1 la st M := evK ((pm2 X 77).trans rfl) la st M
theorem e2_80 (X : aX) (la : aLs) (st : List aV) (M : aM) : go X 2 80 la st M = kC X 2 (i_ife 148 83 la st M) := evC ((pm2 X 80).trans rfl) la st M
theorem e2_83 (X : aX) (la : aLs) (st : List aV) (M : aM) : go X 2 83 la st M = kC X 2 (i_lda 0 84 la st M) := evC ((pm2 X 83).trans rfl) la st M
theorem e2_84 (X : aX) (la : aLs) (st : List aV) (M : aM) : go X 2 84 la st M = kC X 2 (i_lda 1 85 la st M) := evC ((pm2 X 84).trans rfl) la st M
theorem e2_85 (X : aX) (la : aLs) (st : List aV) (M : aM) : go X 2 85 la st M = kC X 2 (i_ca (aR (80, 8, 0)) 87 la st M) := evC ((pm2 X 85).trans rfl) la st M
theorem e2_87 (X : aX) (la : aLs) (st : List aV) (M : aM) : go X 2 87 la st M = kC X 2 (i_ldi 3 88 la st M) := evC ((pm2 X 87).trans rfl) la st M
theorem e2_88 (X : aX) (la : aLs) (st : List aV) (M : aM) : go X 2 88 la st M = kC X 2 (i_ci (nI 2) 89 la st M) := evC ((pm2 X 88).trans rfl) la st M
theorem e2_89 (X : aX) (la : aLs) (st : List aV) (M : aM) : go X 2 89 la st M = kC X 2 (i_ci (nI 0) 90 la st M) := evC ((pm2 X 89).trans rfl) la st M
theorem e2_90 (X : aX) (la : aLs) (st : List aV) (M : aM) : go X 2 90 la st M = kC X 2 (i_ldi 3 91 la st M) := evC ((pm2 X 90).trans rfl) la st M
theorem e2_91 (X : aX) (la : aLs) (st : List aV) (M : aM) : go X 2 91 la st M = kC X 2 (i_ci (nI 1) 92 la st M) := evC ((pm2 X 91).trans rfl) la st M
theorem e2_92 (X : aX) (la : aLs) (st : List aV) (M : aM) : go X 2 92 la st M = kC X 2 (i_bin (fun x y => x - y) 93 la st M) := evC ((pm2 X 92).trans rfl) la st M
theorem e2_93 (X : aX) (la : aLs) (st : List aV) (M : aM) : go X 2 93 la st M = kK X 2 5 7 96 1 la st M := evK ((pm2 X 93).trans rfl) la st M
theorem e2_96 (X : aX) (la : aLs) (st : List aV) (M : aM) : go X 2 96 la st M = kC X 2 (i_ife 148 99 la st M) := evC ((pm2 X 96).trans rfl) la st M
theorem e2_99 (X : aX) (la : aLs) (st : List aV) (M : aM) : go X 2 99 la st M = kC X 2 (i_lda 0 100 la st M) := evC ((pm2 X 99).trans rfl) la st M
theorem e2_100 (X : aX) (la : aLs) (st : List aV) (M : aM) : go X 2 100 la st M = kC X 2 (i_lda 1 101 la st M) := evC ((pm2 X 100).trans rfl) la st M
theorem e2_101 (X : aX) (la : aLs) (st : List aV) (M : aM) : go X 2 101 la st M = kC X 2 (i_ca (aR (80, 9, 0)) 103 la st M) := evC ((pm2 X 101).trans rfl) la st M
theorem e2_103 (X : aX) (la : aLs) (st : List aV) (M : aM) : go X 2 103 la st M = kC X 2 (i_ldi 3 104 la st M) := evC ((pm2 X 103).trans rfl) la st M
theorem e2_104 (X : aX) (la : aLs) (st : List aV) (M : aM) : go X 2 104 la st M = kC X 2 (i_ci (nI 3) 105 la st M) := evC ((pm2 X 104).trans rfl) la st M
theorem e2_105 (X : aX) (la : aLs) (st : List aV) (M : aM) : go X 2 105 la st M = kC X 2 (i_ci (nI 0) 106 la st M) := evC ((pm2 X 105).trans rfl) la st M
theorem e2_106 (X : aX) (la : aLs) (st : List aV) (M : aM) : go X 2 106 la st M = kC X 2 (i_ci (nI 99) 108 la st M) := evC ((pm2 X 106).trans rfl) la st M
theorem e2_108 (X : aX) (la : aLs) (st : List aV) (M : aM) : go X 2 108 la st M = kK X 2 5 7 111 1 la st M := evK ((pm2 X 108).trans rfl) la st M
theorem e2_111 (X : aX) (la : aLs) (st : List aV) (M : aM) : go X 2 111 la st M = kC X 2 (i_ife 148 114 la st M) := evC ((pm2 X 111).trans rfl) la st M
theorem e2_114 (X : aX) (la : aLs) (st : List aV) (M : aM) : go X 2 114 la st M = kC X 2 (i_lda 0 115 la st M) := evC ((pm2 X 114).trans rfl) la st M
theorem e2_115 (X : aX) (la : aLs) (st : List aV) (M : aM) : go X 2 115 la st M = kC X 2 (i_lda 1 116 la st M) := evC ((pm2 X 115).trans rfl) la st M
theorem e2_116 (X : aX) (la : aLs) (st : List aV) (M : aM) : go X 2 116 la st M = kC X 2 (i_ca (aR (80, 10, 0)) 118 la st M) := evC ((pm2 X 116).trans rfl) la st M
theorem e2_118 (X : aX) (la : aLs) (st : List aV) (M : aM) : go X 2 118 la st M = kC X 2 (i_ldi 3 119 la st M) := evC ((pm2 X 118).trans rfl) la st M
theorem e2_119 (X : aX) (la : aLs) (st : List aV) (M : aM) : go X 2 119 la st M = kC X 2 (i_ci (nI 4) 120 la st M) := evC ((pm2 X 119).trans rfl) la st M
theorem e2_120 (X : aX) (la : aLs) (st : List aV) (M : aM) : go X 2 120 la st M = kC X 2 (i_ci (nI 0) 121 la st M) := evC ((pm2 X 120).trans rfl) la st M
theorem e2_121 (X : aX) (la : aLs) (st : List aV) (M : aM) : go X 2 121 la st M = kC X 2 (i_ci (nI 120) 123 la st M) := evC ((pm2 X 121).trans rfl) la st M
theorem e2_123 (X : aX) (la : aLs) (st : List aV) (M : aM) : go X 2 123 la st M = kK X 2 5 7 126 1 la st M := evK ((pm2 X 123).trans rfl) la st M
theorem e2_126 (X : aX) (la : aLs) (st : List aV) (M : aM) : go X 2 126 la st M = kC X 2 (i_ife 148 129 la st M) := evC ((pm2 X 126).trans rfl) la st M
theorem e2_129 (X : aX) (la : aLs) (st : List aV) (M : aM) : go X 2 129 la st M = kC X 2 (i_lda 0 130 la st M) := evC ((pm2 X 129).trans rfl) la st M
theorem e2_130 (X : aX) (la : aLs) (st : List aV) (M : aM) : go X 2 130 la st M = kC X 2 (i_lda 1 131 la st M) := evC ((pm2 X 130).trans rfl) la st M
theorem e2_131 (X : aX) (la : aLs) (st : List aV) (M : aM) : go X 2 131 la st M = kC X 2 (i_ca (aR (80, 11, 0)) 133 la st M) := evC ((pm2 X 131).trans rfl) la st M
theorem e2_133 (X : aX) (la : aLs) (st : List aV) (M : aM) : go X 2 133 la st M = kC X 2 (i_ldi 3 134 la st M) := evC ((pm2 X 133).trans rfl) la st M
theorem e2_134 (X : aX) (la : aLs) (st : List aV) (M : aM) : go X 2 134 la st M = kC X 2 (i_ci (nI 5) 135 la st M) := evC ((pm2 X 134).trans rfl) la st M
theorem e2_135 (X : aX) (la : aLs) (st : List aV) (M : aM) : go X 2 135 la st M = kC X 2 (i_ci (nI 1) 136 la st M) := evC ((pm2 X 135).trans rfl) la st M
theorem e2_136 (X : aX) (la : aLs) (st : List aV) (M : aM) : go X 2 136 la st M = kC X 2 (i_ci (nI 9) 138 la st M) := evC ((pm2 X 136).trans rfl) la st M
theorem e2_138 (X : aX) (la : aLs) (st : List aV) (M : aM) : go X 2 138 la st M = kK X 2 5 7 141 1 la st M := evK ((pm2 X 138).trans rfl) la st M
theorem e2_141 (X : aX) (la : aLs) (st : List aV) (M : aM) : go X 2 141 la st M = kC X 2 (i_ife 148 144 la st M) := evC ((pm2 X 141).trans rfl) la st M
theorem e2_144 (X : aX) (la : aLs) (st : List aV) (M : aM) : go X 2 144 la st M = kC X 2 (i_ci (nI 1) 145 la st M) := evC ((pm2 X 144).trans rfl) la st M
theorem e2_145 (X : aX) (la : aLs) (st : List aV) (M : aM) : go X 2 145 la st M = kC X 2 (i_go 149 la st M) := evC ((pm2 X 145).trans rfl) la st M
theorem e2_148 (X : aX) (la : aLs) (st : List aV) (M : aM) : go X 2 148 la st M = kC X 2 (i_ci (nI 0) 149 la st M) := evC ((pm2 X 148).trans rfl) la st M
theorem e2_149 (X : aX) (la : aLs) (st : List aV) (M : aM) : go X 2 149 la st M = i_zrt st M := evR ((pm2 X 149).trans rfl) la st M
theorem c2 (X : aX) (as : List aV) (M : aM) : cl X 2 as M = if cs as ≤ 4 then go X 2 0 (ent 4 as) [] M else none := rfl
theorem pm3 (X : aX) (pc : Nat) : pg X 3 pc = lk pc (tb3 X) := rfl
theorem e3_0 (X : aX) (la : aLs) (st : List aV) (M : aM) : go X 3 0 la st M = kC X 3 (i_lda 0 1 la st M) := evC ((pm3 X 0).trans rfl) la st M
theorem e3_1 (X : aX) (la : aLs) (st : List aV) (M : aM) : go X 3 1 la st M = kC X 3 (i_get 0 0 4 la st M) := evC ((pm3 X 1).trans rfl) la st M
theorem e3_4 (X : aX) (la : aLs) (st : List aV) (M : aM) : go X 3 4 la st M = kK X 3 57 1 7 5 la st M := evK ((pm3 X 4).trans rfl) la st M
theorem e3_7 (X : aX) (la : aLs) (st : List aV) (M : aM) : go X 3 7 la st M = kC X 3 (i_lda 0 8 la st M) := evC ((pm3 X 7).trans rfl) la st M
theorem e3_8 (X : aX) (la : aLs) (st : List aV) (M : aM) : go X 3 8 la st M = kC X 3 (i_get 0 0 11 la st M) := evC ((pm3 X 8).trans rfl) la st M
theorem e3_11 (X : aX) (la : aLs) (st : List aV) (M : aM) : go X 3 11 la st M = kC X 3 (i_get 4 4 14 la st M) := evC ((pm3 X 11).trans rfl) la st M
theorem e3_14 (X : aX) (la : aLs) (st : List aV) (M : aM) : go X 3 14 la st M = kC X 3 (i_sti 2 15 la st M) := evC ((pm3 X 14).trans rfl) la st M
theorem e3_15 (X : aX) (la : aLs) (st : List aV) (M : aM) : go X 3 15 la st M = kC X 3 (i_lda 0 16 la st M) := evC ((pm3 X 15).trans rfl) la st M
theorem e3_16 (X : aX) (la : aLs) (st : List aV) (M : aM) : go X 3 16 la st M = kC X 3 (i_ci (nI 0) 17 la st M) := evC ((pm3 X 16).trans rfl) la st M
theorem e3_17 (X : aX) (la : aLs) (st : List aV) (M : aM) : go X 3 17 la st M = kC X 3 (i_lda 1 18 la st M) := evC ((pm3 X 17).trans rfl) la st M
theorem e3_18 (X : aX) (la : aLs) (st : List aV) (M : aM) : go X 3 18 la st M = kC X 3 (i_get 3 2 21 la st M) := evC ((pm3 X 18).trans rfl) la st M
theorem e3_21 (X : aX) (la : aLs) (st : List aV) (M : aM) : go X 3 21 la st M = kC X 3 (i_ci (nI 1) 22 la st M) := evC ((pm3 X 21).trans rfl) la st M
theorem e3_22 (X : aX) (la : aLs) (st : List aV) (M : aM) : go X 3 22 la st M = kC X 3 (i_bin (fun x y => x - y) 23 la st M) := evC ((pm3 X 22).trans rfl) la st M
theorem e3_23 (X : aX) (la : aLs) (st : List aV) (M : aM) : go X 3 23 la st M = kK X 3 6 3 26 1 la st M := evK ((pm3 X 23).trans rfl) la st M
theorem e3_26 (X : aX) (la : aLs) (st : List aV) (M : aM) : go X 3 26 la st M = kC X 3 (i_ife 29 31 la st M) := evC ((pm3 X 26).trans rfl) la st M
theorem e3_29 (X : aX) (la : aLs) (st : List aV) (M : aM) : go X 3 29 la st M = kC X 3 (i_ci (nI 0) 30 la st M) := evC ((pm3 X 29).trans rfl) la st M
theorem e3_30 (X : aX) (la : aLs) (st : List aV) (M : aM) : go X 3 30 la st M = i_zrt st M := evR ((pm3 X 30).trans rfl) la st M
theorem e3_31 (X : aX) (la : aLs) (st : List aV) (M : aM) : go X 3 31 la st M = kC X 3 (i_lda 1 32 la st M) := evC ((pm3 X 31).trans rfl) la st M
theorem e3_32 (X : aX) (la : aLs) (st : List aV) (M : aM) : go X 3 32 la st M = kC X 3 (i_ldi 2 33 la st M) := evC ((pm3 X 32).trans rfl) la st M
theorem e3_33 (X : aX) (la : aLs) (st : List aV) (M : aM) : go X 3 33 la st M = kC X 3 (i_ci (nI 6) 35 la st M) := evC ((pm3 X 33).trans rfl) la st M
theorem e3_35 (X : aX) (la : aLs) (st : List aV) (M : aM) : go X 3 35 la st M = kC X 3 (i_ci (nI 1) 36 la st M) := evC ((pm3 X 35).trans rfl) la st M
theorem e3_36 (X : aX) (la : aLs) (st : List aV) (M : aM) : go X 3 36 la st M = kK X 3 32 4 39 4 la st M := evK ((pm3 X 36).trans rfl) la st M
theorem e3_39 (X : aX) (la : aLs) (st : List aV) (M : aM) : go X 3 39 la st M = kC X 3 (i_ci (nI 1) 40 la st M) := evC ((pm3 X 39).trans rfl) la st M
theorem e3_40 (X : aX) (la : aLs) (st : List aV) (M : aM) : go X 3 40 la st M = i_zrt st M := evR ((pm3 X 40).trans rfl) la st M
theorem c3 (X : aX) (as : List aV) (M : aM) : cl X 3 as M = if cs as ≤ 3 then go X 3 0 (ent 3 as) [] M else none := rfl
theorem pm4 (X : aX) (pc : Nat) : pg X 4 pc = lk pc (tb4 X) := rfl
theorem e4_0 (X : aX) (la : aLs) (st : List aV) (M : aM) : go X 4 0 la st M = kC X 4 (i_lda 0 1 la st M) := evC ((pm4 X 0).trans rfl) la st M
theorem e4_1 (X : aX) (la : aLs) (st : List aV) (M : aM) : go X 4 1 la st M = kC X 4 (i_get 0 0 4 la st M) := evC ((pm4 X 1).trans rfl) la st M
theorem e4_4 (X : aX) (la : aLs) (st : List aV) (M : aM) : go X 4 4 la st M = kK X 4 57 1 7 5 la st M := evK ((pm4 X 4).trans rfl) la st M
theorem e4_7 (X : aX) (la : aLs) (st : List aV) (M : aM) : go X 4 7 la st M = kC X 4 (i_lda 0 8 la st M) := evC ((pm4 X 7).trans rfl) la st M
theorem e4_8 (X : aX) (la : aLs) (st : List aV) (M : aM) : go X 4 8 la st M = kC X 4 (i_get 0 0 11 la st M) := evC ((pm4 X 8).trans rfl) la st M
theorem e4_11 (X : aX) (la : aLs) (st : List aV) (M : aM) : go X 4 11 la st M = kC X 4 (i_get 4 4 14 la st M) := evC ((pm4 X 11).trans rfl) la st M
theorem e4_14 (X : aX) (la : aLs) (st : List aV) (M : aM) : go X 4 14 la st M = kC X 4 (i_sti 2 15 la st M) := evC ((pm4 X 14).trans rfl) la st M
theorem e4_15 (X : aX) (la : aLs) (st : List aV) (M : aM) : go X 4 15 la st M = kC X 4 (i_lda 0 16 la st M) := evC ((pm4 X 15).trans rfl) la st M
theorem e4_16 (X : aX) (la : aLs) (st : List aV) (M : aM) : go X 4 16 la st M = kC X 4 (i_ci (nI 0) 17 la st M) := evC ((pm4 X 16).trans rfl) la st M
theorem e4_17 (X : aX) (la : aLs) (st : List aV) (M : aM) : go X 4 17 la st M = kC X 4 (i_lda 1 18 la st M) := evC ((pm4 X 17).trans rfl) la st M
theorem e4_18 (X : aX) (la : aLs) (st : List aV) (M : aM) : go X 4 18 la st M = kC X 4 (i_get 3 2 21 la st M) := evC ((pm4 X 18).trans rfl) la st M
theorem e4_21 (X : aX) (la : aLs) (st : List aV) (M : aM) : go X 4 21 la st M = kC X 4 (i_ci (nI 1) 22 la st M) := evC ((pm4 X 21).trans rfl) la st M
theorem e4_22 (X : aX) (la : aLs) (st : List aV) (M : aM) : go X 4 22 la st M = kC X 4 (i_bin (fun x y => x - y) 23 la st M) := evC ((pm4 X 22).trans rfl) la st M
theorem e4_23 (X : aX) (la : aLs) (st : List aV) (M : aM) : go X 4 23 la st M = kK X 4 6 3 26 1 la st M := evK ((pm4 X 23).trans rfl) la st M
theorem e4_26 (X : aX) (la : aLs) (st : List aV) (M : aM) : go X 4 26 la st M = kC X 4 (i_ife 29 31 la st M) := evC ((pm4 X 26).trans rfl) la st M
theorem e4_29 (X : aX) (la : aLs) (st : List aV) (M : aM) : go X 4 29 la st M = kC X 4 (i_ci (nI 0) 30 la st M) := evC ((pm4 X 29).trans rfl) la st M
theorem e4_30 (X : aX) (la : aLs) (st : List aV) (M : aM) : go X 4 30 la st M = i_zrt st M := evR ((pm4 X 30).trans rfl) la st M
theorem e4_31 (X : aX) (la : aLs) (st : List aV) (M : aM) : go X 4 31 la st M = kC X 4 (i_lda 0 32 la st M) := evC ((pm4 X 31).trans rfl) la st M
theorem e4_32 (X : aX) (la : aLs) (st : List aV) (M : aM) : go X 4 32 la st M = kC X 4 (i_get 0 0 35 la st M) := evC ((pm4 X 32).trans rfl) la st M
theorem e4_35 (X : aX) (la : aLs) (st : List aV) (M : aM) : go X 4 35 la st M = kC X 4 (i_get 4 4 38 la st M) := evC ((pm4 X 35).trans rfl) la st M
theorem e4_38 (X : aX) (la : aLs) (st : List aV) (M : aM) : go X 4 38 la st M = kC X 4 (i_sti 3 39 la st M) := evC ((pm4 X 38).trans rfl) la st M
theorem e4_39 (X : aX) (la : aLs) (st : List aV) (M : aM) : go X 4 39 la st M = kC X 4 (i_lda 0 40 la st M) := evC ((pm4 X 39).trans rfl) la st M
theorem e4_40 (X : aX) (la : aLs) (st : List aV) (M : aM) : go X 4 40 la st M = kC X 4 (i_ci (nI 1) 41 la st M) := evC ((pm4 X 40).trans rfl) la st M
theorem e4_41 (X : aX) (la : aLs) (st : List aV) (M : aM) : go X 4 41 la st M = kC X 4 (i_ci (nI 99) 43 la st M) := evC ((pm4 X 41).trans rfl) la st M
theorem e4_43 (X : aX) (la : aLs) (st : List aV) (M : aM) : go X 4 43 la st M = kK X 4 6 3 46 1 la st M := evK ((pm4 X 43).trans rfl) la st M
theorem e4_46 (X : aX) (la : aLs) (st : List aV) (M : aM) : go X 4 46 la st M = kC X 4 (i_ife 49 51 la st M) := evC ((pm4 X 46).trans rfl) la st M
theorem e4_49 (X : aX) (la : aLs) (st : List aV) (M : aM) : go X 4 49 la st M = kC X 4 (i_ci (nI 0) 50 la st M) := evC ((pm4 X 49).trans rfl) la st M
theorem e4_50 (X : aX) (la : aLs) (st : List aV) (M : aM) : go X 4 50 la st M = i_zrt st M := evR ((pm4 X 50).trans rfl) la st M
theorem e4_51 (X : aX) (la : aLs) (st : List aV) (M : aM) : go X 4 51 la st M = kC X 4 (i_lda 1 52 la st M) := evC ((pm4 X 51).trans rfl) la st M
theorem e4_52 (X : aX) (la : aLs) (st : List aV) (M : aM) : go X 4 52 la st M = kC X 4 (i_ldi 2 53 la st M) := evC ((pm4 X 52).trans rfl) la st M
theorem e4_53 (X : aX) (la : aLs) (st : List aV) (M : aM) : go X 4 53 la st M = kC X 4 (i_ci (nI 7) 55 la st M) := evC ((pm4 X 53).trans rfl) la st M
theorem e4_55 (X : aX) (la : aLs) (st : List aV) (M : aM) : go X 4 55 la st M = kC X 4 (i_ldi 3 56 la st M) := evC ((pm4 X 55).trans rfl) la st M
theorem e4_56 (X : aX) (la : aLs) (st : List aV) (M : aM) : go X 4 56 la st M = kK X 4 32 4 59 4 la st M := evK ((pm4 X 56).trans rfl) la st M
theorem e4_59 (X : aX) (la : aLs) (st : List aV) (M : aM) : go X 4 59 la st M = kC X 4 (i_ci (nI 1) 60 la st M) := evC ((pm4 X 59).trans rfl) la st M
theorem e4_60 (X : aX) (la : aLs) (st : List aV) (M : aM) : go X 4 60 la st M = i_zrt st M := evR ((pm4 X 60).trans rfl) la st M
theorem c4 (X : aX) (as : List aV) (M : aM) : cl X 4 as M = if cs as ≤ 4 then go X 4 0 (ent 4 as) [] M else none := rfl
theorem pm5 (X : aX) (pc : Nat) : pg X 5 pc = lk pc (tb5 X) := rfl
theorem e5_0 (X : aX) (la : aLs) (st : List aV) (M : aM) : go X 5 0 la st M = kC X 5 (i_lda 0 1 la st M) := evC ((pm5 X 0).trans rfl) la st M
theorem e5_1 (X : aX) (la : aLs) (st : List aV) (M : aM) : go X 5 1 la st M = kC X 5 (i_get 0 0 4 la st M) := evC ((pm5 X 1).trans rfl) la st M
theorem e5_4 (X : aX) (la : aLs) (st : List aV) (M : aM) : go X 5 4 la st M = kC X 5 (i_lda 2 5 la st M) := evC ((pm5 X 4).trans rfl) la st M
theorem e5_5 (X : aX) (la : aLs) (st : List aV) (M : aM) : go X 5 5 la st M = kK X 5 60 2 8 5 la st M := evK ((pm5 X 5).trans rfl) la st M
theorem e5_8 (X : aX) (la : aLs) (st : List aV) (M : aM) : go X 5 8 la st M = kC X 5 (i_ife 11 13 la st M) := evC ((pm5 X 8).trans rfl) la st M
theorem e5_11 (X : aX) (la : aLs) (st : List aV) (M : aM) : go X 5 11 la st M = kC X 5 (i_ci (nI 1) 12 la st M) := evC ((pm5 X 11).trans rfl) la st M
theorem e5_12 (X : aX) (la : aLs) (st : List aV) (M : aM) : go X 5 12 la st M = i_zrt st M := evR ((pm5 X 12).trans rfl) la st M
theorem e5_13 (X : aX) (la : aLs) (st : List aV) (M : aM) : go X 5 13 la st M = kC X 5 (i_lda 0 14 la st M) := evC ((pm5 X 13).trans rfl) la st M
theorem e5_14 (X : aX) (la : aLs) (st : List aV) (M : aM) : go X 5 14 la st M = kC X 5 (i_get 0 0 17 la st M) := evC ((pm5 X 14).trans rfl) la st M
theorem e5_17 (X : aX) (la : aLs) (st : List aV) (M : aM) : go X 5 17 la st M = kK X 5 57 1 20 5 la st M := evK ((pm5 X 17).trans rfl) la st M
theorem e5_20 (X : aX) (la : aLs) (st : List aV) (M : aM) : go X 5 20 la st M = kC X 5 (i_lda 0 21 la st M) := evC ((pm5 X 20).trans rfl) la st M
theorem e5_21 (X : aX) (la : aLs) (st : List aV) (M : aM) : go X 5 21 la st M = kC X 5 (i_get 0 0 24 la st M) := evC ((pm5 X 21).trans rfl) la st M
theorem e5_24 (X : aX) (la : aLs) (st : List aV) (M : aM) : go X 5 24 la st M = kC X 5 (i_get 4 4 27 la st M) := evC ((pm5 X 24).trans rfl) la st M
theorem e5_27 (X : aX) (la : aLs) (st : List aV) (M : aM) : go X 5 27 la st M = kC X 5 (i_sti 7 29 la st M) := evC ((pm5 X 27).trans rfl) la st M
theorem e5_29 (X : aX) (la : aLs) (st : List aV) (M : aM) : go X 5 29 la st M = kC X 5 (i_lda 0 30 la st M) := evC ((pm5 X 29).trans rfl) la st M
theorem e5_30 (X : aX) (la : aLs) (st : List aV) (M : aM) : go X 5 30 la st M = kC X 5 (i_ldi 5 32 la st M) := evC ((pm5 X 30).trans rfl) la st M
theorem e5_32 (X : aX) (la : aLs) (st : List aV) (M : aM) : go X 5 32 la st M = kC X 5 (i_ldi 6 34 la st M) := evC ((pm5 X 32).trans rfl) la st M
theorem e5_34 (X : aX) (la : aLs) (st : List aV) (M : aM) : go X 5 34 la st M = kK X 5 6 3 37 1 la st M := evK ((pm5 X 34).trans rfl) la st M
theorem e5_37 (X : aX) (la : aLs) (st : List aV) (M : aM) : go X 5 37 la st M = kC X 5 (i_ife 40 42 la st M) := evC ((pm5 X 37).trans rfl) la st M
theorem e5_40 (X : aX) (la : aLs) (st : List aV) (M : aM) : go X 5 40 la st M = kC X 5 (i_ci (nI 0) 41 la st M) := evC ((pm5 X 40).trans rfl) la st M
theorem e5_41 (X : aX) (la : aLs) (st : List aV) (M : aM) : go X 5 41 la st M = i_zrt st M := evR ((pm5 X 41).trans rfl) la st M
theorem e5_42 (X : aX) (la : aLs) (st : List aV) (M : aM) : go X 5 42 la st M = kC X 5 (i_lda 1 43 la st M) := evC ((pm5 X 42).trans rfl) la st M
theorem e5_43 (X : aX) (la : aLs) (st : List aV) (M : aM) : go X 5 43 la st M = kC X 5 (i_ldi 3 44 la st M) := evC ((pm5 X 43).trans rfl) la st M
theorem e5_44 (X : aX) (la : aLs) (st : List aV) (M : aM) : go X 5 44 la st M = kC X 5 (i_ldi 4 46 la st M) := evC ((pm5 X 44).trans rfl) la st M
theorem e5_46 (X : aX) (la : aLs) (st : List aV) (M : aM) : go X 5 46 la st M = kC X 5 (i_ldi 7 48 la st M) := evC ((pm5 X 46).trans rfl) la st M
theorem e5_48 (X : aX) (la : aLs) (st : List aV) (M : aM) : go X 5 48 la st M = kK X 5 32 4 51 4 la st M := evK ((pm5 X 48).trans rfl) la st M
theorem e5_51 (X : aX) (la : aLs) (st : List aV) (M : aM) : go X 5 51 la st M = kC X 5 (i_ci (nI 1) 52 la st M) := evC ((pm5 X 51).trans rfl) la st M
theorem e5_52 (X : aX) (la : aLs) (st : List aV) (M : aM) : go X 5 52 la st M = i_zrt st M := evR ((pm5 X 52).trans rfl) la st M
theorem c5 (X : aX) (as : List aV) (M : aM) : cl X 5 as M = if cs as ≤ 8 then go X 5 0 (ent 8 as) [] M else none := rfl
theorem pm6 (X : aX) (pc : Nat) : pg X 6 pc = lk pc (tb6 X) := rfl
theorem e6_0 (X : aX) (la : aLs) (st : List aV) (M : aM) : go X 6 0 la st M = kC X 6 (i_lda 0 1 la st M) := evC ((pm6 X 0).trans rfl) la st M
theorem e6_1 (X : aX) (la : aLs) (st : List aV) (M : aM) : go X 6 1 la st M = kC X 6 (i_get 0 0 4 la st M) := evC ((pm6 X 1).trans rfl) la st M
theorem e6_4 (X : aX) (la : aLs) (st : List aV) (M : aM) : go X 6 4 la st M = kC X 6 (i_get 4 2 7 la st M) := evC ((pm6 X 4).trans rfl) la st M
theorem e6_7 (X : aX) (la : aLs) (st : List aV) (M : aM) : go X 6 7 la st M = kC X 6 (i_ci (nI 2) 8 la st M) := evC ((pm6 X 7).trans rfl) la st M
theorem e6_8 (X : aX) (la : aLs) (st : List aV) (M : aM) : go X 6 8 la st M = kC X 6 (i_cme 11 26 la st M) := evC ((pm6 X 8).trans rfl) la st M
theorem e6_11 (X : aX) (la : aLs) (st : List aV) (M : aM) : go X 6 11 la st M = kC X 6 (i_lda 0 12 la st M) := evC ((pm6 X 11).trans rfl) la st M
theorem e6_12 (X : aX) (la : aLs) (st : List aV) (M : aM) : go X 6 12 la st M = kC X 6 (i_get 0 0 15 la st M) := evC ((pm6 X 12).trans rfl) la st M
theorem e6_15 (X : aX) (la : aLs) (st : List aV) (M : aM) : go X 6 15 la st M = kC X 6 (i_get 4 4 18 la st M) := evC ((pm6 X 15).trans rfl) la st M
theorem e6_18 (X : aX) (la : aLs) (st : List aV) (M : aM) : go X 6 18 la st M = kC X 6 (i_ldi 1 19 la st M) := evC ((pm6 X 18).trans rfl) la st M
theorem e6_19 (X : aX) (la : aLs) (st : List aV) (M : aM) : go X 6 19 la st M = kC X 6 (i_ldi 2 20 la st M) := evC ((pm6 X 19).trans rfl) la st M
theorem e6_20 (X : aX) (la : aLs) (st : List aV) (M : aM) : go X 6 20 la st M = kK X 6 102 3 23 0 la st M := evK ((pm6 X 20).trans rfl) la st M
theorem e6_23 (X : aX) (la : aLs) (st : List aV) (M : aM) : go X 6 23 la st M = kC X 6 (i_ife 26 28 la st M) := evC ((pm6 X 23).trans rfl) la st M
theorem e6_26 (X : aX) (la : aLs) (st : List aV) (M : aM) : go X 6 26 la st M = kC X 6 (i_ci (nI 0) 27 la st M) := evC ((pm6 X 26).trans rfl) la st M
theorem e6_27 (X : aX) (la : aLs) (st : List aV) (M : aM) : go X 6 27 la st M = i_zrt st M := evR ((pm6 X 27).trans rfl) la st M
theorem e6_28 (X : aX) (la : aLs) (st : List aV) (M : aM) : go X 6 28 la st M = kC X 6 (i_lda 0 29 la st M) := evC ((pm6 X 28).trans rfl) la st M
theorem e6_29 (X : aX) (la : aLs) (st : List aV) (M : aM) : go X 6 29 la st M = kC X 6 (i_get 0 0 32 la st M) := evC ((pm6 X 29).trans rfl) la st M
theorem e6_32 (X : aX) (la : aLs) (st : List aV) (M : aM) : go X 6 32 la st M = kK X 6 57 1 35 5 la st M := evK ((pm6 X 32).trans rfl) la st M
theorem e6_35 (X : aX) (la : aLs) (st : List aV) (M : aM) : go X 6 35 la st M = kC X 6 (i_ci (nI 1) 36 la st M) := evC ((pm6 X 35).trans rfl) la st M
theorem e6_36 (X : aX) (la : aLs) (st : List aV) (M : aM) : go X 6 36 la st M = i_zrt st M := evR ((pm6 X 36).trans rfl) la st M
theorem c6 (X : aX) (as : List aV) (M : aM) : cl X 6 as M = if cs as ≤ 3 then go X 6 0 (ent 3 as) [] M else none := rfl
theorem pm7 (X : aX) (pc : Nat) : pg X 7 pc = lk pc (tb7 X) := rfl
theorem e7_0 (X : aX) (la : aLs) (st : List aV) (M : aM) : go X 7 0 la st M = kC X 7 (i_ci (nI 0) 1 la st M) := evC ((pm7 X 0).trans rfl) la st M
theorem e7_1 (X : aX) (la : aLs) (st : List aV) (M : aM) : go X 7 1 la st M = kC X 7 (i_sti 1 2 la st M) := evC ((pm7 X 1).trans rfl) la st M
theorem e7_2 (X : aX) (la : aLs) (st : List aV) (M : aM) : go X 7 2 la st M = kC X 7 (i_ldi 1 3 la st M) := evC ((pm7 X 2).trans rfl) la st M
theorem e7_3 (X : aX) (la : aLs) (st : List aV) (M : aM) : go X 7 3 la st M = kC X 7 (i_ci (nI 6) 5 la st M) := evC ((pm7 X 3).trans rfl) la st M
theorem e7_5 (X : aX) (la : aLs) (st : List aV) (M : aM) : go X 7 5 la st M = kC X 7 (i_cmg 30 8 la st M) := evC ((pm7 X 5).trans rfl) la st M
theorem e7_8 (X : aX) (la : aLs) (st : List aV) (M : aM) : go X 7 8 la st M = kC X 7 (i_lda 0 9 la st M) := evC ((pm7 X 8).trans rfl) la st M
theorem e7_9 (X : aX) (la : aLs) (st : List aV) (M : aM) : go X 7 9 la st M = kC X 7 (i_get 0 0 12 la st M) := evC ((pm7 X 9).trans rfl) la st M
theorem e7_12 (X : aX) (la : aLs) (st : List aV) (M : aM) : go X 7 12 la st M = kC X 7 (i_ldi 1 13 la st M) := evC ((pm7 X 12).trans rfl) la st M
theorem e7_13 (X : aX) (la : aLs) (st : List aV) (M : aM) : go X 7 13 la st M = kK X 7 8 1 16 0 la st M := evK ((pm7 X 13).trans rfl) la st M
theorem e7_16 (X : aX) (la : aLs) (st : List aV) (M : aM) : go X 7 16 la st M = kK X 7 60 2 19 5 la st M := evK ((pm7 X 16).trans rfl) la st M
theorem e7_19 (X : aX) (la : aLs) (st : List aV) (M : aM) : go X 7 19 la st M = kC X 7 (i_ife 24 22 la st M) := evC ((pm7 X 19).trans rfl) la st M
theorem e7_22 (X : aX) (la : aLs) (st : List aV) (M : aM) : go X 7 22 la st M = kC X 7 (i_ldi 1 23 la st M) := evC ((pm7 X 22).trans rfl) la st M
theorem e7_23 (X : aX) (la : aLs) (st : List aV) (M : aM) : go X 7 23 la st M = i_irt st M := evR ((pm7 X 23).trans rfl) la st M
theorem e7_24 (X : aX) (la : aLs) (st : List aV) (M : aM) : go X 7 24 la st M = kC X 7 (i_inc 1 (nI 1) 27 la st M) := evC ((pm7 X 24).trans rfl) la st M
theorem e7_27 (X : aX) (la : aLs) (st : List aV) (M : aM) : go X 7 27 la st M = kC X 7 (i_go 2 la st M) := evC ((pm7 X 27).trans rfl) la st M
theorem e7_30 (X : aX) (la : aLs) (st : List aV) (M : aM) : go X 7 30 la st M = kC X 7 (i_ci (-1) 31 la st M) := evC ((pm7 X 30).trans rfl) la st M
theorem e7_31 (X : aX) (la : aLs) (st : List aV) (M : aM) : go X 7 31 la st M = i_irt st M := evR ((pm7 X 31).trans rfl) la st M
theorem c7 (X : aX) (as : List aV) (M : aM) : cl X 7 as M = if cs as ≤ 2 then go X 7 0 (ent 2 as) [] M else none := rfl
theorem pm8 (X : aX) (pc : Nat) : pg X 8 pc = lk pc (tb8 X) := rfl
theorem e8_0 (X : aX) (la : aLs) (st : List aV) (M : aM) : go X 8 0 la st M = kC X 8 (i_ldi 0 1 la st M) := evC ((pm8 X 0).trans rfl) la st M
theorem e8_1 (X : aX) (la : aLs) (st : List aV) (M : aM) : go X 8 1 la st M = kC X 8 (i_sw [(nI 0, 40), (nI 1, 43), (nI 2, 46), (nI 3, 49), (nI 4, 52), (nI 5, 55)] 58 la st M) := evC ((pm8 X 1).trans rfl) la st M
theorem e8_40 (X : aX) (la : aLs) (st : List aV) (M : aM) : go X 8 40 la st M = kC X 8 (i_ca (aR (80, 0, 0)) 42 la st M) := evC ((pm8 X 40).trans rfl) la st M
theorem e8_42 (X : aX) (la : aLs) (st : List aV) (M : aM) : go X 8 42 la st M = i_art st M := evR ((pm8 X 42).trans rfl) la st M
theorem e8_43 (X : aX) (la : aLs) (st : List aV) (M : aM) : go X 8 43 la st M = kC X 8 (i_ca (aR (80, 1, 0)) 45 la st M) := evC ((pm8 X 43).trans rfl) la st M
theorem e8_45 (X : aX) (la : aLs) (st : List aV) (M : aM) : go X 8 45 la st M = i_art st M := evR ((pm8 X 45).trans rfl) la st M
theorem e8_46 (X : aX) (la : aLs) (st : List aV) (M : aM) : go X 8 46 la st M = kC X 8 (i_ca (aR (80, 2, 0)) 48 la st M) := evC ((pm8 X 46).trans rfl) la st M
theorem e8_48 (X : aX) (la : aLs) (st : List aV) (M : aM) : go X 8 48 la st M = i_art st M := evR ((pm8 X 48).trans rfl) la st M
theorem e8_49 (X : aX) (la : aLs) (st : List aV) (M : aM) : go X 8 49 la st M = kC X 8 (i_ca (aR (80, 3, 0)) 51 la st M) := evC ((pm8 X 49).trans rfl) la st M
theorem e8_51 (X : aX) (la : aLs) (st : List aV) (M : aM) : go X 8 51 la st M = i_art st M := evR ((pm8 X 51).trans rfl) la st M
theorem e8_52 (X : aX) (la : aLs) (st : List aV) (M : aM) : go X 8 52 la st M = kC X 8 (i_ca (aR (80, 4, 0)) 54 la st M) := evC ((pm8 X 52).trans rfl) la st M
theorem e8_54 (X : aX) (la : aLs) (st : List aV) (M : aM) : go X 8 54 la st M = i_art st M := evR ((pm8 X 54).trans rfl) la st M
theorem e8_55 (X : aX) (la : aLs) (st : List aV) (M : aM) : go X 8 55 la st M = kC X 8 (i_ca (aR (80, 5, 0)) 57 la st M) := evC ((pm8 X 55).trans rfl) la st M
theorem e8_57 (X : aX) (la : aLs) (st : List aV) (M : aM) : go X 8 57 la st M = i_art st M := evR ((pm8 X 57).trans rfl) la st M
theorem e8_58 (X : aX) (la : aLs) (st : List aV) (M : aM) : go X 8 58 la st M = kC X 8 (i_ca (aR (80, 6, 0)) 60 la st M) := evC ((pm8 X 58).trans rfl) la st M
theorem e8_60 (X : aX) (la : aLs) (st : List aV) (M : aM) : go X 8 60 la st M = i_art st M := evR ((pm8 X 60).trans rfl) la st M
theorem c8 (X : aX) (as : List aV) (M : aM) : cl X 8 as M = if cs as ≤ 1 then go X 8 0 (ent 1 as) [] M else none := rfl
theorem pm9 (X : aX) (pc : Nat) : pg X 9 pc = lk pc (tb9 X) := rfl
theorem e9_0 (X : aX) (la : aLs) (st : List aV) (M : aM) : go X 9 0 la st M = kC X 9 (i_lda 0 1 la st M) := evC ((pm9 X 0).trans rfl) la st M
theorem e9_1 (X : aX) (la : aLs) (st : List aV) (M : aM) : go X 9 1 la st M = kC X 9 (i_oin 4 la st M) := evC ((pm9 X 1).trans rfl) la st M
theorem e9_4 (X : aX) (la : aLs) (st : List aV) (M : aM) : go X 9 4 la st M = kC X 9 (i_lda 0 5 la st M) := evC ((pm9 X 4).trans rfl) la st M
theorem e9_5 (X : aX) (la : aLs) (st : List aV) (M : aM) : go X 9 5 la st M = kC X 9 (i_ci (nI 40) 7 la st M) := evC ((pm9 X 5).trans rfl) la st M
theorem e9_7 (X : aX) (la : aLs) (st : List aV) (M : aM) : go X 9 7 la st M = kC X 9 (i_nwa 9 la st M) := evC ((pm9 X 7).trans rfl) la st M
theorem e9_9 (X : aX) (la : aLs) (st : List aV) (M : aM) : go X 9 9 la st M = kC X 9 (i_put 1 0 2 12 la st M) := evC ((pm9 X 9).trans rfl) la st M
theorem e9_12 (X : aX) (la : aLs) (st : List aV) (M : aM) : go X 9 12 la st M = kC X 9 (i_lda 0 13 la st M) := evC ((pm9 X 12).trans rfl) la st M
theorem e9_13 (X : aX) (la : aLs) (st : List aV) (M : aM) : go X 9 13 la st M = kC X 9 (i_ci (nI 0) 14 la st M) := evC ((pm9 X 13).trans rfl) la st M
theorem e9_14 (X : aX) (la : aLs) (st : List aV) (M : aM) : go X 9 14 la st M = kC X 9 (i_put 1 1 0 17 la st M) := evC ((pm9 X 14).trans rfl) la st M
theorem e9_17 (X : aX) (la : aLs) (st : List aV) (M : aM) : go X 9 17 la st M = kC X 9 (i_lda 0 18 la st M) := evC ((pm9 X 17).trans rfl) la st M
theorem e9_18 (X : aX) (la : aLs) (st : List aV) (M : aM) : go X 9 18 la st M = kC X 9 (i_ci (nI 0) 19 la st M) := evC ((pm9 X 18).trans rfl) la st M
theorem e9_19 (X : aX) (la : aLs) (st : List aV) (M : aM) : go X 9 19 la st M = kC X 9 (i_put 1 2 0 22 la st M) := evC ((pm9 X 19).trans rfl) la st M
theorem e9_22 (X : aX) (la : aLs) (st : List aV) (M : aM) : go X 9 22 la st M = i_vrt st M := evR ((pm9 X 22).trans rfl) la st M
theorem c9 (X : aX) (as : List aV) (M : aM) : cl X 9 as M = if cs as ≤ 1 then go X 9 0 (ent 1 as) [] M else none := rfl
theorem pm10 (X : aX) (pc : Nat) : pg X 10 pc = lk pc (tb10 X) := rfl
theorem e10_0 (X : aX) (la : aLs) (st : List aV) (M : aM) : go X 10 0 la st M = kC X 10 (i_lda 0 1 la st M) := evC ((pm10 X 0).trans rfl) la st M
theorem e10_1 (X : aX) (la : aLs) (st : List aV) (M : aM) : go X 10 1 la st M = kC X 10 (i_ldi 1 2 la st M) := evC ((pm10 X 1).trans rfl) la st M
theorem e10_2 (X : aX) (la : aLs) (st : List aV) (M : aM) : go X 10 2 la st M = kC X 10 (i_put 1 1 0 5 la st M) := evC ((pm10 X 2).trans rfl) la st M
theorem e10_5 (X : aX) (la : aLs) (st : List aV) (M : aM) : go X 10 5 la st M = kC X 10 (i_lda 0 6 la st M) := evC ((pm10 X 5).trans rfl) la st M
theorem e10_6 (X : aX) (la : aLs) (st : List aV) (M : aM) : go X 10 6 la st M = kC X 10 (i_ldi 1 7 la st M) := evC ((pm10 X 6).trans rfl) la st M
theorem e10_7 (X : aX) (la : aLs) (st : List aV) (M : aM) : go X 10 7 la st M = kC X 10 (i_ife 10 14 la st M) := evC ((pm10 X 7).trans rfl) la st M
theorem e10_10 (X : aX) (la : aLs) (st : List aV) (M : aM) : go X 10 10 la st M = kC X 10 (i_ci (nI 0) 11 la st M) := evC ((pm10 X 10).trans rfl) la st M
theorem e10_11 (X : aX) (la : aLs) (st : List aV) (M : aM) : go X 10 11 la st M = kC X 10 (i_go 15 la st M) := evC ((pm10 X 11).trans rfl) la st M
theorem e10_14 (X : aX) (la : aLs) (st : List aV) (M : aM) : go X 10 14 la st M = kC X 10 (i_ldi 2 15 la st M) := evC ((pm10 X 14).trans rfl) la st M
theorem e10_15 (X : aX) (la : aLs) (st : List aV) (M : aM) : go X 10 15 la st M = kC X 10 (i_put 1 2 0 18 la st M) := evC ((pm10 X 15).trans rfl) la st M
theorem e10_18 (X : aX) (la : aLs) (st : List aV) (M : aM) : go X 10 18 la st M = kC X 10 (i_ci (nI 0) 19 la st M) := evC ((pm10 X 18).trans rfl) la st M
theorem e10_19 (X : aX) (la : aLs) (st : List aV) (M : aM) : go X 10 19 la st M = kC X 10 (i_sti 3 20 la st M) := evC ((pm10 X 19).trans rfl) la st M
theorem e10_20 (X : aX) (la : aLs) (st : List aV) (M : aM) : go X 10 20 la st M = kC X 10 (i_ldi 3 21 la st M) := evC ((pm10 X 20).trans rfl) la st M
theorem e10_21 (X : aX) (la : aLs) (st : List aV) (M : aM) : go X 10 21 la st M = kC X 10 (i_ci (nI 40) 23 la st M) := evC ((pm10 X 21).trans rfl) la st M
theorem e10_23 (X : aX) (la : aLs) (st : List aV) (M : aM) : go X 10 23 la st M = kC X 10 (i_cml 26 39 la st M) := evC ((pm10 X 23).trans rfl) la st M
theorem e10_26 (X : aX) (la : aLs) (st : List aV) (M : aM) : go X 10 26 la st M = kC X 10 (i_lda 0 27 la st M) := evC ((pm10 X 26).trans rfl) la st M
theorem e10_27 (X : aX) (la : aLs) (st : List aV) (M : aM) : go X 10 27 la st M = kC X 10 (i_get 1 0 30 la st M) := evC ((pm10 X 27).trans rfl) la st M
theorem e10_30 (X : aX) (la : aLs) (st : List aV) (M : aM) : go X 10 30 la st M = kC X 10 (i_ldi 3 31 la st M) := evC ((pm10 X 30).trans rfl) la st M
theorem e10_31 (X : aX) (la : aLs) (st : List aV) (M : aM) : go X 10 31 la st M = kC X 10 (i_ci (nI 0) 32 la st M) := evC ((pm10 X 31).trans rfl) la st M
theorem e10_32 (X : aX) (la : aLs) (st : List aV) (M : aM) : go X 10 32 la st M = kC X 10 (i_ias 33 la st M) := evC ((pm10 X 32).trans rfl) la st M
theorem e10_33 (X : aX) (la : aLs) (st : List aV) (M : aM) : go X 10 33 la st M = kC X 10 (i_inc 3 (nI 1) 36 la st M) := evC ((pm10 X 33).trans rfl) la st M
theorem e10_36 (X : aX) (la : aLs) (st : List aV) (M : aM) : go X 10 36 la st M = kC X 10 (i_go 20 la st M) := evC ((pm10 X 36).trans rfl) la st M
theorem e10_39 (X : aX) (la : aLs) (st : List aV) (M : aM) : go X 10 39 la st M = i_vrt st M := evR ((pm10 X 39).trans rfl) la st M
theorem c10 (X : aX) (as : List aV) (M : aM) : cl X 10 as M = if cs as ≤ 4 then go X 10 0 (ent 4 as) [] M else none := rfl
theorem pm11 (X : aX) (pc : Nat) : pg X 11 pc = lk pc (tb11 X) := rfl
theorem e11_0 (X : aX) (la : aLs) (st : List aV) (M : aM) : go X 11 0 la st M = kC X 11 (i_ldi 1 1 la st M) := evC ((pm11 X 0).trans rfl) la st M
theorem e11_1 (X : aX) (la : aLs) (st : List aV) (M : aM) : go X 11 1 la st M = kC X 11 (i_ci (nI 0) 2 la st M) := evC ((pm11 X 1).trans rfl) la st M
theorem e11_2 (X : aX) (la : aLs) (st : List aV) (M : aM) : go X 11 2 la st M = kC X 11 (i_lda 0 3 la st M) := evC ((pm11 X 2).trans rfl) la st M
theorem e11_3 (X : aX) (la : aLs) (st : List aV) (M : aM) : go X 11 3 la st M = kC X 11 (i_get 1 2 6 la st M) := evC ((pm11 X 3).trans rfl) la st M
theorem e11_6 (X : aX) (la : aLs) (st : List aV) (M : aM) : go X 11 6 la st M = kC X 11 (i_ci (nI 1) 7 la st M) := evC ((pm11 X 6).trans rfl) la st M
theorem e11_7 (X : aX) (la : aLs) (st : List aV) (M : aM) : go X 11 7 la st M = kC X 11 (i_bin (fun x y => x - y) 8 la st M) := evC ((pm11 X 7).trans rfl) la st M
theorem e11_8 (X : aX) (la : aLs) (st : List aV) (M : aM) : go X 11 8 la st M = kK X 11 102 3 11 0 la st M := evK ((pm11 X 8).trans rfl) la st M
theorem e11_11 (X : aX) (la : aLs) (st : List aV) (M : aM) : go X 11 11 la st M = kC X 11 (i_ife 49 14 la st M) := evC ((pm11 X 11).trans rfl) la st M
theorem e11_14 (X : aX) (la : aLs) (st : List aV) (M : aM) : go X 11 14 la st M = kC X 11 (i_lda 0 15 la st M) := evC ((pm11 X 14).trans rfl) la st M
theorem e11_15 (X : aX) (la : aLs) (st : List aV) (M : aM) : go X 11 15 la st M = kC X 11 (i_get 1 0 18 la st M) := evC ((pm11 X 15).trans rfl) la st M
theorem e11_18 (X : aX) (la : aLs) (st : List aV) (M : aM) : go X 11 18 la st M = kC X 11 (i_ldi 1 19 la st M) := evC ((pm11 X 18).trans rfl) la st M
theorem e11_19 (X : aX) (la : aLs) (st : List aV) (M : aM) : go X 11 19 la st M = kC X 11 (i_lda 0 20 la st M) := evC ((pm11 X 19).trans rfl) la st M
theorem e11_20 (X : aX) (la : aLs) (st : List aV) (M : aM) : go X 11 20 la st M = kC X 11 (i_get 1 1 23 la st M) := evC ((pm11 X 20).trans rfl) la st M
theorem e11_23 (X : aX) (la : aLs) (st : List aV) (M : aM) : go X 11 23 la st M = kC X 11 (i_ci (nI 8) 25 la st M) := evC ((pm11 X 23).trans rfl) la st M
theorem e11_25 (X : aX) (la : aLs) (st : List aV) (M : aM) : go X 11 25 la st M = kC X 11 (i_cme 28 33 la st M) := evC ((pm11 X 25).trans rfl) la st M
theorem e11_28 (X : aX) (la : aLs) (st : List aV) (M : aM) : go X 11 28 la st M = kC X 11 (i_ldi 2 29 la st M) := evC ((pm11 X 28).trans rfl) la st M
theorem e11_29 (X : aX) (la : aLs) (st : List aV) (M : aM) : go X 11 29 la st M = kC X 11 (i_un (fun x => x.toInt8.toInt32) 30 la st M) := evC ((pm11 X 29).trans rfl) la st M
theorem e11_30 (X : aX) (la : aLs) (st : List aV) (M : aM) : go X 11 30 la st M = kC X 11 (i_go 48 la st M) := evC ((pm11 X 30).trans rfl) la st M
theorem e11_33 (X : aX) (la : aLs) (st : List aV) (M : aM) : go X 11 33 la st M = kC X 11 (i_lda 0 34 la st M) := evC ((pm11 X 33).trans rfl) la st M
theorem e11_34 (X : aX) (la : aLs) (st : List aV) (M : aM) : go X 11 34 la st M = kC X 11 (i_get 1 1 37 la st M) := evC ((pm11 X 34).trans rfl) la st M
theorem e11_37 (X : aX) (la : aLs) (st : List aV) (M : aM) : go X 11 37 la st M = kC X 11 (i_ci (nI 16) 39 la st M) := evC ((pm11 X 37).trans rfl) la st M
theorem e11_39 (X : aX) (la : aLs) (st : List aV) (M : aM) : go X 11 39 la st M = kC X 11 (i_cme 42 47 la st M) := evC ((pm11 X 39).trans rfl) la st M
theorem e11_42 (X : aX) (la : aLs) (st : List aV) (M : aM) : go X 11 42 la st M = kC X 11 (i_ldi 2 43 la st M) := evC ((pm11 X 42).trans rfl) la st M
theorem e11_43 (X : aX) (la : aLs) (st : List aV) (M : aM) : go X 11 43 la st M = kC X 11 (i_un (fun x => x.toInt16.toInt32) 44 la st M) := evC ((pm11 X 43).trans rfl) la st M
theorem e11_44 (X : aX) (la : aLs) (st : List aV) (M : aM) : go X 11 44 la st M = kC X 11 (i_go 48 la st M) := evC ((pm11 X 44).trans rfl) la st M
theorem e11_47 (X : aX) (la : aLs) (st : List aV) (M : aM) : go X 11 47 la st M = kC X 11 (i_ldi 2 48 la st M) := evC ((pm11 X 47).trans rfl) la st M
theorem e11_48 (X : aX) (la : aLs) (st : List aV) (M : aM) : go X 11 48 la st M = kC X 11 (i_ias 49 la st M) := evC ((pm11 X 48).trans rfl) la st M
theorem e11_49 (X : aX) (la : aLs) (st : List aV) (M : aM) : go X 11 49 la st M = i_vrt st M := evR ((pm11 X 49).trans rfl) la st M
theorem c11 (X : aX) (as : List aV) (M : aM) : cl X 11 as M = if cs as ≤ 3 then go X 11 0 (ent 3 as) [] M else none := rfl
theorem pm12 (X : aX) (pc : Nat) : pg X 12 pc = lk pc (tb12 X) := rfl
theorem e12_0 (X : aX) (la : aLs) (st : List aV) (M : aM) : go X 12 0 la st M = kC X 12 (i_ldi 1 1 la st M) := evC ((pm12 X 0).trans rfl) la st M
theorem e12_1 (X : aX) (la : aLs) (st : List aV) (M : aM) : go X 12 1 la st M = kC X 12 (i_ifl 30 4 la st M) := evC ((pm12 X 1).trans rfl) la st M
theorem e12_4 (X : aX) (la : aLs) (st : List aV) (M : aM) : go X 12 4 la st M = kC X 12 (i_ldi 2 5 la st M) := evC ((pm12 X 4).trans rfl) la st M
theorem e12_5 (X : aX) (la : aLs) (st : List aV) (M : aM) : go X 12 5 la st M = kC X 12 (i_ifl 30 8 la st M) := evC ((pm12 X 5).trans rfl) la st M
theorem e12_8 (X : aX) (la : aLs) (st : List aV) (M : aM) : go X 12 8 la st M = kC X 12 (i_ldi 1 9 la st M) := evC ((pm12 X 8).trans rfl) la st M
theorem e12_9 (X : aX) (la : aLs) (st : List aV) (M : aM) : go X 12 9 la st M = kC X 12 (i_lda 0 10 la st M) := evC ((pm12 X 9).trans rfl) la st M
theorem e12_10 (X : aX) (la : aLs) (st : List aV) (M : aM) : go X 12 10 la st M = kC X 12 (i_get 1 2 13 la st M) := evC ((pm12 X 10).trans rfl) la st M
theorem e12_13 (X : aX) (la : aLs) (st : List aV) (M : aM) : go X 12 13 la st M = kC X 12 (i_cmg 30 16 la st M) := evC ((pm12 X 13).trans rfl) la st M
theorem e12_16 (X : aX) (la : aLs) (st : List aV) (M : aM) : go X 12 16 la st M = kC X 12 (i_ldi 2 17 la st M) := evC ((pm12 X 16).trans rfl) la st M
theorem e12_17 (X : aX) (la : aLs) (st : List aV) (M : aM) : go X 12 17 la st M = kC X 12 (i_lda 0 18 la st M) := evC ((pm12 X 17).trans rfl) la st M
theorem e12_18 (X : aX) (la : aLs) (st : List aV) (M : aM) : go X 12 18 la st M = kC X 12 (i_get 1 2 21 la st M) := evC ((pm12 X 18).trans rfl) la st M
theorem e12_21 (X : aX) (la : aLs) (st : List aV) (M : aM) : go X 12 21 la st M = kC X 12 (i_ldi 1 22 la st M) := evC ((pm12 X 21).trans rfl) la st M
theorem e12_22 (X : aX) (la : aLs) (st : List aV) (M : aM) : go X 12 22 la st M = kC X 12 (i_bin (fun x y => x - y) 23 la st M) := evC ((pm12 X 22).trans rfl) la st M
theorem e12_23 (X : aX) (la : aLs) (st : List aV) (M : aM) : go X 12 23 la st M = kC X 12 (i_cmg 30 26 la st M) := evC ((pm12 X 23).trans rfl) la st M
theorem e12_26 (X : aX) (la : aLs) (st : List aV) (M : aM) : go X 12 26 la st M = kC X 12 (i_ci (nI 1) 27 la st M) := evC ((pm12 X 26).trans rfl) la st M
theorem e12_27 (X : aX) (la : aLs) (st : List aV) (M : aM) : go X 12 27 la st M = kC X 12 (i_go 31 la st M) := evC ((pm12 X 27).trans rfl) la st M
theorem e12_30 (X : aX) (la : aLs) (st : List aV) (M : aM) : go X 12 30 la st M = kC X 12 (i_ci (nI 0) 31 la st M) := evC ((pm12 X 30).trans rfl) la st M
theorem e12_31 (X : aX) (la : aLs) (st : List aV) (M : aM) : go X 12 31 la st M = i_zrt st M := evR ((pm12 X 31).trans rfl) la st M
theorem c12 (X : aX) (as : List aV) (M : aM) : cl X 12 as M = if cs as ≤ 3 then go X 12 0 (ent 3 as) [] M else none := rfl
theorem pm13 (X : aX) (pc : Nat) : pg X 13 pc = lk pc (tb13 X) := rfl
theorem e13_0 (X : aX) (la : aLs) (st : List aV) (M : aM) : go X 13 0 la st M = kC X 13 (i_lda 0 1 la st M) := evC ((pm13 X 0).trans rfl) la st M
theorem e13_1 (X : aX) (la : aLs) (st : List aV) (M : aM) : go X 13 1 la st M = kC X 13 (i_oin 4 la st M) := evC ((pm13 X 1).trans rfl) la st M
theorem e13_4 (X : aX) (la : aLs) (st : List aV) (M : aM) : go X 13 4 la st M = kC X 13 (i_lda 0 5 la st M) := evC ((pm13 X 4).trans rfl) la st M
theorem e13_5 (X : aX) (la : aLs) (st : List aV) (M : aM) : go X 13 5 la st M = kC X 13 (i_ca (aR (82, 0, 0)) 8 la st M) := evC ((pm13 X 5).trans rfl) la st M
theorem e13_8 (X : aX) (la : aLs) (st : List aV) (M : aM) : go X 13 8 la st M = kC X 13 (i_aln X 9 la st M) := evC ((pm13 X 8).trans rfl) la st M
theorem e13_9 (X : aX) (la : aLs) (st : List aV) (M : aM) : go X 13 9 la st M = kC X 13 (i_nwa 11 la st M) := evC ((pm13 X 9).trans rfl) la st M
theorem e13_11 (X : aX) (la : aLs) (st : List aV) (M : aM) : go X 13 11 la st M = kC X 13 (i_put 2 0 2 14 la st M) := evC ((pm13 X 11).trans rfl) la st M
theorem e13_14 (X : aX) (la : aLs) (st : List aV) (M : aM) : go X 13 14 la st M = kC X 13 (i_lda 0 15 la st M) := evC ((pm13 X 14).trans rfl) la st M
theorem e13_15 (X : aX) (la : aLs) (st : List aV) (M : aM) : go X 13 15 la st M = kC X 13 (i_ci (nI 0) 16 la st M) := evC ((pm13 X 15).trans rfl) la st M
theorem e13_16 (X : aX) (la : aLs) (st : List aV) (M : aM) : go X 13 16 la st M = kC X 13 (i_put 2 1 1 19 la st M) := evC ((pm13 X 16).trans rfl) la st M
theorem e13_19 (X : aX) (la : aLs) (st : List aV) (M : aM) : go X 13 19 la st M = i_vrt st M := evR ((pm13 X 19).trans rfl) la st M
theorem c13 (X : aX) (as : List aV) (M : aM) : cl X 13 as M = if cs as ≤ 1 then go X 13 0 (ent 1 as) [] M else none := rfl
theorem pm14 (X : aX) (pc : Nat) : pg X 14 pc = lk pc (tb14 X) := rfl
theorem e14_0 (X : aX) (la : aLs) (st : List aV) (M : aM) : go X 14 0 la st M = kC X 14 (i_ca (aR (82, 0, 0)) 3 la st M) := evC ((pm14 X 0).trans rfl) la st M
theorem e14_3 (X : aX) (la : aLs) (st : List aV) (M : aM) : go X 14 3 la st M = kC X 14 (i_ci (nI 0) 4 la st M) := evC ((pm14 X 3).trans rfl) la st M
theorem e14_4 (X : aX) (la : aLs) (st : List aV) (M : aM) : go X 14 4 la st M = kC X 14 (i_lda 0 5 la st M) := evC ((pm14 X 4).trans rfl) la st M
theorem e14_5 (X : aX) (la : aLs) (st : List aV) (M : aM) : go X 14 5 la st M = kC X 14 (i_get 2 0 8 la st M) := evC ((pm14 X 5).trans rfl) la st M
theorem e14_8 (X : aX) (la : aLs) (st : List aV) (M : aM) : go X 14 8 la st M = kC X 14 (i_ci (nI 0) 9 la st M) := evC ((pm14 X 8).trans rfl) la st M
theorem e14_9 (X : aX) (la : aLs) (st : List aV) (M : aM) : go X 14 9 la st M = kC X 14 (i_lda 0 10 la st M) := evC ((pm14 X 9).trans rfl) la st M
theorem e14_10 (X : aX) (la : aLs) (st : List aV) (M : aM) : go X 14 10 la st M = kC X 14 (i_get 2 0 13 la st M) := evC ((pm14 X 10).trans rfl) la st M
theorem e14_13 (X : aX) (la : aLs) (st : List aV) (M : aM) : go X 14 13 la st M = kC X 14 (i_aln X 14 la st M) := evC ((pm14 X 13).trans rfl) la st M
theorem e14_14 (X : aX) (la : aLs) (st : List aV) (M : aM) : go X 14 14 la st M = kC X 14 (i_acp X 17 la st M) := evC ((pm14 X 14).trans rfl) la st M
theorem e14_17 (X : aX) (la : aLs) (st : List aV) (M : aM) : go X 14 17 la st M = i_vrt st M := evR ((pm14 X 17).trans rfl) la st M
theorem c14 (X : aX) (as : List aV) (M : aM) : cl X 14 as M = if cs as ≤ 1 then go X 14 0 (ent 1 as) [] M else none := rfl
theorem pm15 (X : aX) (pc : Nat) : pg X 15 pc = lk pc (tb15 X) := rfl
theorem e15_0 (X : aX) (la : aLs) (st : List aV) (M : aM) : go X 15 0 la st M = kC X 15 (i_lda 1 1 la st M) := evC ((pm15 X 0).trans rfl) la st M
theorem e15_1 (X : aX) (la : aLs) (st : List aV) (M : aM) : go X 15 1 la st M = kC X 15 (i_get 2 0 4 la st M) := evC ((pm15 X 1).trans rfl) la st M
theorem e15_4 (X : aX) (la : aLs) (st : List aV) (M : aM) : go X 15 4 la st M = kC X 15 (i_ci (nI 0) 5 la st M) := evC ((pm15 X 4).trans rfl) la st M
theorem e15_5 (X : aX) (la : aLs) (st : List aV) (M : aM) : go X 15 5 la st M = kC X 15 (i_lda 0 6 la st M) := evC ((pm15 X 5).trans rfl) la st M
theorem e15_6 (X : aX) (la : aLs) (st : List aV) (M : aM) : go X 15 6 la st M = kC X 15 (i_get 2 0 9 la st M) := evC ((pm15 X 6).trans rfl) la st M
theorem e15_9 (X : aX) (la : aLs) (st : List aV) (M : aM) : go X 15 9 la st M = kC X 15 (i_ci (nI 0) 10 la st M) := evC ((pm15 X 9).trans rfl) la st M
theorem e15_10 (X : aX) (la : aLs) (st : List aV) (M : aM) : go X 15 10 la st M = kC X 15 (i_lda 0 11 la st M) := evC ((pm15 X 10).trans rfl) la st M
theorem e15_11 (X : aX) (la : aLs) (st : List aV) (M : aM) : go X 15 11 la st M = kC X 15 (i_get 2 0 14 la st M) := evC ((pm15 X 11).trans rfl) la st M
theorem e15_14 (X : aX) (la : aLs) (st : List aV) (M : aM) : go X 15 14 la st M = kC X 15 (i_aln X 15 la st M) := evC ((pm15 X 14).trans rfl) la st M
theorem e15_15 (X : aX) (la : aLs) (st : List aV) (M : aM) : go X 15 15 la st M = kC X 15 (i_acp X 18 la st M) := evC ((pm15 X 15).trans rfl) la st M
theorem e15_18 (X : aX) (la : aLs) (st : List aV) (M : aM) : go X 15 18 la st M = i_vrt st M := evR ((pm15 X 18).trans rfl) la st M
theorem c15 (X : aX) (as : List aV) (M : aM) : cl X 15 as M = if cs as ≤ 2 then go X 15 0 (ent 2 as) [] M else none := rfl
theorem pm16 (X : aX) (pc : Nat) : pg X 16 pc = lk pc (tb16 X) := rfl
theorem e16_0 (X : aX) (la : aLs) (st : List aV) (M : aM) : go X 16 0 la st M = kC X 16 (i_ldi 0 1 la st M) := evC ((pm16 X 0).trans rfl) la st M
theorem e16_1 (X : aX) (la : aLs) (st : List aV) (M : aM) : go X 16 1 la st M = kC X 16 (i_ci (nI 0) 2 la st M) := evC ((pm16 X 1).trans rfl) la st M
theorem e16_2 (X : aX) (la : aLs) (st : List aV) (M : aM) : go X 16 2 la st M = kC X 16 (i_ci (nI 9) 4 la st M) := evC ((pm16 X 2).trans rfl) la st M
theorem e16_4 (X : aX) (la : aLs) (st : List aV) (M : aM) : go X 16 4 la st M = kK X 16 102 3 7 0 la st M := evK ((pm16 X 4).trans rfl) la st M
theorem e16_7 (X : aX) (la : aLs) (st : List aV) (M : aM) : go X 16 7 la st M = kC X 16 (i_ife 31 10 la st M) := evC ((pm16 X 7).trans rfl) la st M
theorem e16_10 (X : aX) (la : aLs) (st : List aV) (M : aM) : go X 16 10 la st M = kC X 16 (i_ldi 1 11 la st M) := evC ((pm16 X 10).trans rfl) la st M
theorem e16_11 (X : aX) (la : aLs) (st : List aV) (M : aM) : go X 16 11 la st M = kC X 16 (i_ca (aR (82, 1, 0)) 14 la st M) := evC ((pm16 X 11).trans rfl) la st M
theorem e16_14 (X : aX) (la : aLs) (st : List aV) (M : aM) : go X 16 14 la st M = kC X 16 (i_ldi 0 15 la st M) := evC ((pm16 X 14).trans rfl) la st M
theorem e16_15 (X : aX) (la : aLs) (st : List aV) (M : aM) : go X 16 15 la st M = kC X 16 (i_ial X 16 la st M) := evC ((pm16 X 15).trans rfl) la st M
theorem e16_16 (X : aX) (la : aLs) (st : List aV) (M : aM) : go X 16 16 la st M = kC X 16 (i_ca (aR (82, 2, 0)) 19 la st M) := evC ((pm16 X 16).trans rfl) la st M
theorem e16_19 (X : aX) (la : aLs) (st : List aV) (M : aM) : go X 16 19 la st M = kC X 16 (i_ldi 0 20 la st M) := evC ((pm16 X 19).trans rfl) la st M
theorem e16_20 (X : aX) (la : aLs) (st : List aV) (M : aM) : go X 16 20 la st M = kC X 16 (i_ial X 21 la st M) := evC ((pm16 X 20).trans rfl) la st M
theorem e16_21 (X : aX) (la : aLs) (st : List aV) (M : aM) : go X 16 21 la st M = kK X 16 102 3 24 0 la st M := evK ((pm16 X 21).trans rfl) la st M
theorem e16_24 (X : aX) (la : aLs) (st : List aV) (M : aM) : go X 16 24 la st M = kC X 16 (i_ife 31 27 la st M) := evC ((pm16 X 24).trans rfl) la st M
theorem e16_27 (X : aX) (la : aLs) (st : List aV) (M : aM) : go X 16 27 la st M = kC X 16 (i_ci (nI 1) 28 la st M) := evC ((pm16 X 27).trans rfl) la st M
theorem e16_28 (X : aX) (la : aLs) (st : List aV) (M : aM) : go X 16 28 la st M = kC X 16 (i_go 32 la st M) := evC ((pm16 X 28).trans rfl) la st M
theorem e16_31 (X : aX) (la : aLs) (st : List aV) (M : aM) : go X 16 31 la st M = kC X 16 (i_ci (nI 0) 32 la st M) := evC ((pm16 X 31).trans rfl) la st M
theorem e16_32 (X : aX) (la : aLs) (st : List aV) (M : aM) : go X 16 32 la st M = i_zrt st M := evR ((pm16 X 32).trans rfl) la st M
theorem c16 (X : aX) (as : List aV) (M : aM) : cl X 16 as M = if cs as ≤ 2 then go X 16 0 (ent 2 as) [] M else none := rfl
theorem pm17 (X : aX) (pc : Nat) : pg X 17 pc = lk pc (tb17 X) := rfl
theorem e17_0 (X : aX) (la : aLs) (st : List aV) (M : aM) : go X 17 0 la st M = kC X 17 (i_ldi 0 1 la st M) := evC ((pm17 X 0).trans rfl) la st M
theorem e17_1 (X : aX) (la : aLs) (st : List aV) (M : aM) : go X 17 1 la st M = kC X 17 (i_sti 2 2 la st M) := evC ((pm17 X 1).trans rfl) la st M
theorem e17_2 (X : aX) (la : aLs) (st : List aV) (M : aM) : go X 17 2 la st M = kC X 17 (i_ci (nI 0) 3 la st M) := evC ((pm17 X 2).trans rfl) la st M
theorem e17_3 (X : aX) (la : aLs) (st : List aV) (M : aM) : go X 17 3 la st M = kC X 17 (i_sti 3 4 la st M) := evC ((pm17 X 3).trans rfl) la st M
theorem e17_4 (X : aX) (la : aLs) (st : List aV) (M : aM) : go X 17 4 la st M = kC X 17 (i_ldi 3 5 la st M) := evC ((pm17 X 4).trans rfl) la st M
theorem e17_5 (X : aX) (la : aLs) (st : List aV) (M : aM) : go X 17 5 la st M = kC X 17 (i_ci (nI 6) 7 la st M) := evC ((pm17 X 5).trans rfl) la st M
theorem e17_7 (X : aX) (la : aLs) (st : List aV) (M : aM) : go X 17 7 la st M = kC X 17 (i_cmg 39 10 la st M) := evC ((pm17 X 7).trans rfl) la st M
theorem e17_10 (X : aX) (la : aLs) (st : List aV) (M : aM) : go X 17 10 la st M = kC X 17 (i_ldi 2 11 la st M) := evC ((pm17 X 10).trans rfl) la st M
theorem e17_11 (X : aX) (la : aLs) (st : List aV) (M : aM) : go X 17 11 la st M = kC X 17 (i_ci (nI 0) 12 la st M) := evC ((pm17 X 11).trans rfl) la st M
theorem e17_12 (X : aX) (la : aLs) (st : List aV) (M : aM) : go X 17 12 la st M = kC X 17 (i_ci (nI 6) 14 la st M) := evC ((pm17 X 12).trans rfl) la st M
theorem e17_14 (X : aX) (la : aLs) (st : List aV) (M : aM) : go X 17 14 la st M = kK X 17 102 3 17 0 la st M := evK ((pm17 X 14).trans rfl) la st M
theorem e17_17 (X : aX) (la : aLs) (st : List aV) (M : aM) : go X 17 17 la st M = kC X 17 (i_ife 39 20 la st M) := evC ((pm17 X 17).trans rfl) la st M
theorem e17_20 (X : aX) (la : aLs) (st : List aV) (M : aM) : go X 17 20 la st M = kC X 17 (i_ldi 2 21 la st M) := evC ((pm17 X 20).trans rfl) la st M
theorem e17_21 (X : aX) (la : aLs) (st : List aV) (M : aM) : go X 17 21 la st M = kC X 17 (i_ldi 1 22 la st M) := evC ((pm17 X 21).trans rfl) la st M
theorem e17_22 (X : aX) (la : aLs) (st : List aV) (M : aM) : go X 17 22 la st M = kC X 17 (i_cme 25 27 la st M) := evC ((pm17 X 22).trans rfl) la st M
theorem e17_25 (X : aX) (la : aLs) (st : List aV) (M : aM) : go X 17 25 la st M = kC X 17 (i_ci (nI 1) 26 la st M) := evC ((pm17 X 25).trans rfl) la st M
theorem e17_26 (X : aX) (la : aLs) (st : List aV) (M : aM) : go X 17 26 la st M = i_zrt st M := evR ((pm17 X 26).trans rfl) la st M
theorem e17_27 (X : aX) (la : aLs) (st : List aV) (M : aM) : go X 17 27 la st M = kC X 17 (i_ca (aR (82, 3, 0)) 30 la st M) := evC ((pm17 X 27).trans rfl) la st M
theorem e17_30 (X : aX) (la : aLs) (st : List aV) (M : aM) : go X 17 30 la st M = kC X 17 (i_ldi 2 31 la st M) := evC ((pm17 X 30).trans rfl) la st M
theorem e17_31 (X : aX) (la : aLs) (st : List aV) (M : aM) : go X 17 31 la st M = kC X 17 (i_ial X 32 la st M) := evC ((pm17 X 31).trans rfl) la st M
theorem e17_32 (X : aX) (la : aLs) (st : List aV) (M : aM) : go X 17 32 la st M = kC X 17 (i_sti 2 33 la st M) := evC ((pm17 X 32).trans rfl) la st M
theorem e17_33 (X : aX) (la : aLs) (st : List aV) (M : aM) : go X 17 33 la st M = kC X 17 (i_inc 3 (nI 1) 36 la st M) := evC ((pm17 X 33).trans rfl) la st M
theorem e17_36 (X : aX) (la : aLs) (st : List aV) (M : aM) : go X 17 36 la st M = kC X 17 (i_go 4 la st M) := evC ((pm17 X 36).trans rfl) la st M
theorem e17_39 (X : aX) (la : aLs) (st : List aV) (M : aM) : go X 17 39 la st M = kC X 17 (i_ci (nI 0) 40 la st M) := evC ((pm17 X 39).trans rfl) la st M
theorem e17_40 (X : aX) (la : aLs) (st : List aV) (M : aM) : go X 17 40 la st M = i_zrt st M := evR ((pm17 X 40).trans rfl) la st M
theorem c17 (X : aX) (as : List aV) (M : aM) : cl X 17 as M = if cs as ≤ 4 then go X 17 0 (ent 4 as) [] M else none := rfl
theorem pm18 (X : aX) (pc : Nat) : pg X 18 pc = lk pc (tb18 X) := rfl
theorem e18_0 (X : aX) (la : aLs) (st : List aV) (M : aM) : go X 18 0 la st M = kC X 18 (i_lda 0 1 la st M) := evC ((pm18 X 0).trans rfl) la st M
theorem e18_1 (X : aX) (la : aLs) (st : List aV) (M : aM) : go X 18 1 la st M = kC X 18 (i_get 2 0 4 la st M) := evC ((pm18 X 1).trans rfl) la st M
theorem e18_4 (X : aX) (la : aLs) (st : List aV) (M : aM) : go X 18 4 la st M = kC X 18 (i_ci (nI 7) 6 la st M) := evC ((pm18 X 4).trans rfl) la st M
theorem e18_6 (X : aX) (la : aLs) (st : List aV) (M : aM) : go X 18 6 la st M = kC X 18 (i_ial X 7 la st M) := evC ((pm18 X 6).trans rfl) la st M
theorem e18_7 (X : aX) (la : aLs) (st : List aV) (M : aM) : go X 18 7 la st M = kC X 18 (i_ifg 10 24 la st M) := evC ((pm18 X 7).trans rfl) la st M
theorem e18_10 (X : aX) (la : aLs) (st : List aV) (M : aM) : go X 18 10 la st M = kC X 18 (i_lda 0 11 la st M) := evC ((pm18 X 10).trans rfl) la st M
theorem e18_11 (X : aX) (la : aLs) (st : List aV) (M : aM) : go X 18 11 la st M = kC X 18 (i_get 2 0 14 la st M) := evC ((pm18 X 11).trans rfl) la st M
theorem e18_14 (X : aX) (la : aLs) (st : List aV) (M : aM) : go X 18 14 la st M = kC X 18 (i_ci (nI 6) 16 la st M) := evC ((pm18 X 14).trans rfl) la st M
theorem e18_16 (X : aX) (la : aLs) (st : List aV) (M : aM) : go X 18 16 la st M = kC X 18 (i_ial X 17 la st M) := evC ((pm18 X 16).trans rfl) la st M
theorem e18_17 (X : aX) (la : aLs) (st : List aV) (M : aM) : go X 18 17 la st M = kC X 18 (i_ife 20 24 la st M) := evC ((pm18 X 17).trans rfl) la st M
theorem e18_20 (X : aX) (la : aLs) (st : List aV) (M : aM) : go X 18 20 la st M = kC X 18 (i_ci (nI 1) 21 la st M) := evC ((pm18 X 20).trans rfl) la st M
theorem e18_21 (X : aX) (la : aLs) (st : List aV) (M : aM) : go X 18 21 la st M = kC X 18 (i_go 25 la st M) := evC ((pm18 X 21).trans rfl) la st M
theorem e18_24 (X : aX) (la : aLs) (st : List aV) (M : aM) : go X 18 24 la st M = kC X 18 (i_ci (nI 0) 25 la st M) := evC ((pm18 X 24).trans rfl) la st M
theorem e18_25 (X : aX) (la : aLs) (st : List aV) (M : aM) : go X 18 25 la st M = i_zrt st M := evR ((pm18 X 25).trans rfl) la st M
theorem c18 (X : aX) (as : List aV) (M : aM) : cl X 18 as M = if cs as ≤ 1 then go X 18 0 (ent 1 as) [] M else none := rfl
theorem pm19 (X : aX) (pc : Nat) : pg X 19 pc = lk pc (tb19 X) := rfl
theorem e19_0 (X : aX) (la : aLs) (st : List aV) (M : aM) : go X 19 0 la st M = kC X 19 (i_lda 0 1 la st M) := evC ((pm19 X 0).trans rfl) la st M
theorem e19_1 (X : aX) (la : aLs) (st : List aV) (M : aM) : go X 19 1 la st M = kC X 19 (i_get 2 0 4 la st M) := evC ((pm19 X 1).trans rfl) la st M
theorem e19_4 (X : aX) (la : aLs) (st : List aV) (M : aM) : go X 19 4 la st M = kC X 19 (i_ci (nI 7) 6 la st M) := evC ((pm19 X 4).trans rfl) la st M
theorem e19_6 (X : aX) (la : aLs) (st : List aV) (M : aM) : go X 19 6 la st M = kC X 19 (i_lda 0 7 la st M) := evC ((pm19 X 6).trans rfl) la st M
theorem e19_7 (X : aX) (la : aLs) (st : List aV) (M : aM) : go X 19 7 la st M = kK X 19 21 1 10 3 la st M := evK ((pm19 X 7).trans rfl) la st M
theorem e19_10 (X : aX) (la : aLs) (st : List aV) (M : aM) : go X 19 10 la st M = kC X 19 (i_ci (nI 99) 12 la st M) := evC ((pm19 X 10).trans rfl) la st M
theorem e19_12 (X : aX) (la : aLs) (st : List aV) (M : aM) : go X 19 12 la st M = kC X 19 (i_min 15 la st M) := evC ((pm19 X 12).trans rfl) la st M
theorem e19_15 (X : aX) (la : aLs) (st : List aV) (M : aM) : go X 19 15 la st M = kC X 19 (i_ias 16 la st M) := evC ((pm19 X 15).trans rfl) la st M
theorem e19_16 (X : aX) (la : aLs) (st : List aV) (M : aM) : go X 19 16 la st M = kC X 19 (i_lda 0 17 la st M) := evC ((pm19 X 16).trans rfl) la st M
theorem e19_17 (X : aX) (la : aLs) (st : List aV) (M : aM) : go X 19 17 la st M = kC X 19 (i_get 2 0 20 la st M) := evC ((pm19 X 17).trans rfl) la st M
theorem e19_20 (X : aX) (la : aLs) (st : List aV) (M : aM) : go X 19 20 la st M = kC X 19 (i_ci (nI 8) 22 la st M) := evC ((pm19 X 20).trans rfl) la st M
theorem e19_22 (X : aX) (la : aLs) (st : List aV) (M : aM) : go X 19 22 la st M = kC X 19 (i_ci (nI 0) 23 la st M) := evC ((pm19 X 22).trans rfl) la st M
theorem e19_23 (X : aX) (la : aLs) (st : List aV) (M : aM) : go X 19 23 la st M = kC X 19 (i_ias 24 la st M) := evC ((pm19 X 23).trans rfl) la st M
theorem e19_24 (X : aX) (la : aLs) (st : List aV) (M : aM) : go X 19 24 la st M = i_vrt st M := evR ((pm19 X 24).trans rfl) la st M
theorem c19 (X : aX) (as : List aV) (M : aM) : cl X 19 as M = if cs as ≤ 1 then go X 19 0 (ent 1 as) [] M else none := rfl
theorem pm20 (X : aX) (pc : Nat) : pg X 20 pc = lk pc (tb20 X) := rfl
theorem e20_0 (X : aX) (la : aLs) (st : List aV) (M : aM) : go X 20 0 la st M = kC X 20 (i_ci (nI 1) 1 la st M) := evC ((pm20 X 0).trans rfl) la st M
theorem e20_1 (X : aX) (la : aLs) (st : List aV) (M : aM) : go X 20 1 la st M = kC X 20 (i_lda 0 2 la st M) := evC ((pm20 X 1).trans rfl) la st M
theorem e20_2 (X : aX) (la : aLs) (st : List aV) (M : aM) : go X 20 2 la st M = kC X 20 (i_get 2 0 5 la st M) := evC ((pm20 X 2).trans rfl) la st M
theorem e20_5 (X : aX) (la : aLs) (st : List aV) (M : aM) : go X 20 5 la st M = kC X 20 (i_ci (nI 4) 6 la st M) := evC ((pm20 X 5).trans rfl) la st M
theorem e20_6 (X : aX) (la : aLs) (st : List aV) (M : aM) : go X 20 6 la st M = kC X 20 (i_ial X 7 la st M) := evC ((pm20 X 6).trans rfl) la st M
theorem e20_7 (X : aX) (la : aLs) (st : List aV) (M : aM) : go X 20 7 la st M = kC X 20 (i_ci (nI 10) 9 la st M) := evC ((pm20 X 7).trans rfl) la st M
theorem e20_9 (X : aX) (la : aLs) (st : List aV) (M : aM) : go X 20 9 la st M = kC X 20 (i_div (fun x y => x / y) 10 la st M) := evC ((pm20 X 9).trans rfl) la st M
theorem e20_10 (X : aX) (la : aLs) (st : List aV) (M : aM) : go X 20 10 la st M = kC X 20 (i_bin (fun x y => x + y) 11 la st M) := evC ((pm20 X 10).trans rfl) la st M
theorem e20_11 (X : aX) (la : aLs) (st : List aV) (M : aM) : go X 20 11 la st M = kC X 20 (i_sti 1 12 la st M) := evC ((pm20 X 11).trans rfl) la st M
theorem e20_12 (X : aX) (la : aLs) (st : List aV) (M : aM) : go X 20 12 la st M = kC X 20 (i_lda 0 13 la st M) := evC ((pm20 X 12).trans rfl) la st M
theorem e20_13 (X : aX) (la : aLs) (st : List aV) (M : aM) : go X 20 13 la st M = kC X 20 (i_get 2 0 16 la st M) := evC ((pm20 X 13).trans rfl) la st M
theorem e20_16 (X : aX) (la : aLs) (st : List aV) (M : aM) : go X 20 16 la st M = kC X 20 (i_ci (nI 0) 17 la st M) := evC ((pm20 X 16).trans rfl) la st M
theorem e20_17 (X : aX) (la : aLs) (st : List aV) (M : aM) : go X 20 17 la st M = kC X 20 (i_ial X 18 la st M) := evC ((pm20 X 17).trans rfl) la st M
theorem e20_18 (X : aX) (la : aLs) (st : List aV) (M : aM) : go X 20 18 la st M = kC X 20 (i_sw [(nI 1, 56), (nI 2, 68), (nI 3, 58), (nI 4, 62), (nI 5, 87), (nI 6, 70)] 87 la st M) := evC ((pm20 X 18).trans rfl) la st M
theorem e20_56 (X : aX) (la : aLs) (st : List aV) (M : aM) : go X 20 56 la st M = kC X 20 (i_ldi 1 57 la st M) := evC ((pm20 X 56).trans rfl) la st M
theorem e20_57 (X : aX) (la : aLs) (st : List aV) (M : aM) : go X 20 57 la st M = i_irt st M := evR ((pm20 X 57).trans rfl) la st M
theorem e20_58 (X : aX) (la : aLs) (st : List aV) (M : aM) : go X 20 58 la st M = kC X 20 (i_ci (nI 2) 59 la st M) := evC ((pm20 X 58).trans rfl) la st M
theorem e20_59 (X : aX) (la : aLs) (st : List aV) (M : aM) : go X 20 59 la st M = kC X 20 (i_ldi 1 60 la st M) := evC ((pm20 X 59).trans rfl) la st M
theorem e20_60 (X : aX) (la : aLs) (st : List aV) (M : aM) : go X 20 60 la st M = kC X 20 (i_bin (fun x y => x * y) 61 la st M) := evC ((pm20 X 60).trans rfl) la st M
theorem e20_61 (X : aX) (la : aLs) (st : List aV) (M : aM) : go X 20 61 la st M = i_irt st M := evR ((pm20 X 61).trans rfl) la st M
theorem e20_62 (X : aX) (la : aLs) (st : List aV) (M : aM) : go X 20 62 la st M = kC X 20 (i_ci (nI 2) 63 la st M) := evC ((pm20 X 62).trans rfl) la st M
theorem e20_63 (X : aX) (la : aLs) (st : List aV) (M : aM) : go X 20 63 la st M = kC X 20 (i_ldi 1 64 la st M) := evC ((pm20 X 63).trans rfl) la st M
theorem e20_64 (X : aX) (la : aLs) (st : List aV) (M : aM) : go X 20 64 la st M = kC X 20 (i_bin (fun x y => x * y) 65 la st M) := evC ((pm20 X 64).trans rfl) la st M
theorem e20_65 (X : aX) (la : aLs) (st : List aV) (M : aM) : go X 20 65 la st M = kC X 20 (i_ci (nI 5) 66 la st M) := evC ((pm20 X 65).trans rfl) la st M
theorem e20_66 (X : aX) (la : aLs) (st : List aV) (M : aM) : go X 20 66 la st M = kC X 20 (i_bin (fun x y => x + y) 67 la st M) := evC ((pm20 X 66).trans rfl) la st M
theorem e20_67 (X : aX) (la : aLs) (st : List aV) (M : aM) : go X 20 67 la st M = i_irt st M := evR ((pm20 X 67).trans rfl) la st M
theorem e20_68 (X : aX) (la : aLs) (st : List aV) (M : aM) : go X 20 68 la st M = kC X 20 (i_ci (nI 3) 69 la st M) := evC ((pm20 X 68).trans rfl) la st M
theorem e20_69 (X : aX) (la : aLs) (st : List aV) (M : aM) : go X 20 69 la st M = i_irt st M := evR ((pm20 X 69).trans rfl) la st M
theorem e20_70 (X : aX) (la : aLs) (st : List aV) (M : aM) : go X 20 70 la st M = kC X 20 (i_lda 0 71 la st M) := evC ((pm20 X 70).trans rfl) la st M
theorem e20_71 (X : aX) (la : aLs) (st : List aV) (M : aM) : go X 20 71 la st M = kC X 20 (i_get 2 0 74 la st M) := evC ((pm20 X 71).trans rfl) la st M
theorem e20_74 (X : aX) (la : aLs) (st : List aV) (M : aM) : go X 20 74 la st M = kC X 20 (i_ci (nI 3) 75 la st M) := evC ((pm20 X 74).trans rfl) la st M
theorem e20_75 (X : aX) (la : aLs) (st : List aV) (M : aM) : go X 20 75 la st M = kC X 20 (i_ial X 76 la st M) := evC ((pm20 X 75).trans rfl) la st M
theorem e20_76 (X : aX) (la : aLs) (st : List aV) (M : aM) : go X 20 76 la st M = kC X 20 (i_ci (nI 50) 78 la st M) := evC ((pm20 X 76).trans rfl) la st M
theorem e20_78 (X : aX) (la : aLs) (st : List aV) (M : aM) : go X 20 78 la st M = kC X 20 (i_cml 85 81 la st M) := evC ((pm20 X 78).trans rfl) la st M
theorem e20_81 (X : aX) (la : aLs) (st : List aV) (M : aM) : go X 20 81 la st M = kC X 20 (i_ci (nI 2) 82 la st M) := evC ((pm20 X 81).trans rfl) la st M
theorem e20_82 (X : aX) (la : aLs) (st : List aV) (M : aM) : go X 20 82 la st M = kC X 20 (i_go 86 la st M) := evC ((pm20 X 82).trans rfl) la st M
theorem e20_85 (X : aX) (la : aLs) (st : List aV) (M : aM) : go X 20 85 la st M = kC X 20 (i_ci (nI 3) 86 la st M) := evC ((pm20 X 85).trans rfl) la st M
theorem e20_86 (X : aX) (la : aLs) (st : List aV) (M : aM) : go X 20 86 la st M = i_irt st M := evR ((pm20 X 86).trans rfl) la st M
theorem e20_87 (X : aX) (la : aLs) (st : List aV) (M : aM) : go X 20 87 la st M = kC X 20 (i_ci (nI 1) 88 la st M) := evC ((pm20 X 87).trans rfl) la st M
theorem e20_88 (X : aX) (la : aLs) (st : List aV) (M : aM) : go X 20 88 la st M = i_irt st M := evR ((pm20 X 88).trans rfl) la st M
theorem c20 (X : aX) (as : List aV) (M : aM) : cl X 20 as M = if cs as ≤ 2 then go X 20 0 (ent 2 as) [] M else none := rfl
theorem pm21 (X : aX) (pc : Nat) : pg X 21 pc = lk pc (tb21 X) := rfl
theorem e21_0 (X : aX) (la : aLs) (st : List aV) (M : aM) : go X 21 0 la st M = kC X 21 (i_lda 0 1 la st M) := evC ((pm21 X 0).trans rfl) la st M
theorem e21_1 (X : aX) (la : aLs) (st : List aV) (M : aM) : go X 21 1 la st M = kC X 21 (i_get 2 0 4 la st M) := evC ((pm21 X 1).trans rfl) la st M
theorem e21_4 (X : aX) (la : aLs) (st : List aV) (M : aM) : go X 21 4 la st M = kC X 21 (i_ci (nI 5) 5 la st M) := evC ((pm21 X 4).trans rfl) la st M
theorem e21_5 (X : aX) (la : aLs) (st : List aV) (M : aM) : go X 21 5 la st M = kC X 21 (i_ial X 6 la st M) := evC ((pm21 X 5).trans rfl) la st M
theorem e21_6 (X : aX) (la : aLs) (st : List aV) (M : aM) : go X 21 6 la st M = kC X 21 (i_ci (nI 1) 7 la st M) := evC ((pm21 X 6).trans rfl) la st M
theorem e21_7 (X : aX) (la : aLs) (st : List aV) (M : aM) : go X 21 7 la st M = kC X 21 (i_bin (fun x y => x + y) 8 la st M) := evC ((pm21 X 7).trans rfl) la st M
theorem e21_8 (X : aX) (la : aLs) (st : List aV) (M : aM) : go X 21 8 la st M = kC X 21 (i_sti 1 9 la st M) := evC ((pm21 X 8).trans rfl) la st M
theorem e21_9 (X : aX) (la : aLs) (st : List aV) (M : aM) : go X 21 9 la st M = kC X 21 (i_lda 0 10 la st M) := evC ((pm21 X 9).trans rfl) la st M
theorem e21_10 (X : aX) (la : aLs) (st : List aV) (M : aM) : go X 21 10 la st M = kC X 21 (i_get 2 0 13 la st M) := evC ((pm21 X 10).trans rfl) la st M
theorem e21_13 (X : aX) (la : aLs) (st : List aV) (M : aM) : go X 21 13 la st M = kC X 21 (i_ci (nI 5) 14 la st M) := evC ((pm21 X 13).trans rfl) la st M
theorem e21_14 (X : aX) (la : aLs) (st : List aV) (M : aM) : go X 21 14 la st M = kC X 21 (i_ial X 15 la st M) := evC ((pm21 X 14).trans rfl) la st M
theorem e21_15 (X : aX) (la : aLs) (st : List aV) (M : aM) : go X 21 15 la st M = kC X 21 (i_ci (nI 2) 16 la st M) := evC ((pm21 X 15).trans rfl) la st M
theorem e21_16 (X : aX) (la : aLs) (st : List aV) (M : aM) : go X 21 16 la st M = kC X 21 (i_div (fun x y => x / y) 17 la st M) := evC ((pm21 X 16).trans rfl) la st M
theorem e21_17 (X : aX) (la : aLs) (st : List aV) (M : aM) : go X 21 17 la st M = kC X 21 (i_ci (nI 1) 18 la st M) := evC ((pm21 X 17).trans rfl) la st M
theorem e21_18 (X : aX) (la : aLs) (st : List aV) (M : aM) : go X 21 18 la st M = kC X 21 (i_bin (fun x y => x + y) 19 la st M) := evC ((pm21 X 18).trans rfl) la st M
theorem e21_19 (X : aX) (la : aLs) (st : List aV) (M : aM) : go X 21 19 la st M = kC X 21 (i_sti 2 20 la st M) := evC ((pm21 X 19).trans rfl) la st M
theorem e21_20 (X : aX) (la : aLs) (st : List aV) (M : aM) : go X 21 20 la st M = kC X 21 (i_lda 0 21 la st M) := evC ((pm21 X 20).trans rfl) la st M
theorem e21_21 (X : aX) (la : aLs) (st : List aV) (M : aM) : go X 21 21 la st M = kC X 21 (i_get 2 0 24 la st M) := evC ((pm21 X 21).trans rfl) la st M
theorem e21_24 (X : aX) (la : aLs) (st : List aV) (M : aM) : go X 21 24 la st M = kC X 21 (i_ci (nI 0) 25 la st M) := evC ((pm21 X 24).trans rfl) la st M
theorem e21_25 (X : aX) (la : aLs) (st : List aV) (M : aM) : go X 21 25 la st M = kC X 21 (i_ial X 26 la st M) := evC ((pm21 X 25).trans rfl) la st M
theorem e21_26 (X : aX) (la : aLs) (st : List aV) (M : aM) : go X 21 26 la st M = kC X 21 (i_sw [(nI 1, 64), (nI 2, 78), (nI 3, 66), (nI 4, 66), (nI 5, 84), (nI 6, 80)] 86 la st M) := evC ((pm21 X 26).trans rfl) la st M
theorem e21_64 (X : aX) (la : aLs) (st : List aV) (M : aM) : go X 21 64 la st M = kC X 21 (i_ldi 1 65 la st M) := evC ((pm21 X 64).trans rfl) la st M
theorem e21_65 (X : aX) (la : aLs) (st : List aV) (M : aM) : go X 21 65 la st M = i_irt st M := evR ((pm21 X 65).trans rfl) la st M
theorem e21_66 (X : aX) (la : aLs) (st : List aV) (M : aM) : go X 21 66 la st M = kC X 21 (i_ldi 1 67 la st M) := evC ((pm21 X 66).trans rfl) la st M
theorem e21_67 (X : aX) (la : aLs) (st : List aV) (M : aM) : go X 21 67 la st M = kC X 21 (i_lda 0 68 la st M) := evC ((pm21 X 67).trans rfl) la st M
theorem e21_68 (X : aX) (la : aLs) (st : List aV) (M : aM) : go X 21 68 la st M = kC X 21 (i_get 2 0 71 la st M) := evC ((pm21 X 68).trans rfl) la st M
theorem e21_71 (X : aX) (la : aLs) (st : List aV) (M : aM) : go X 21 71 la st M = kC X 21 (i_ci (nI 4) 72 la st M) := evC ((pm21 X 71).trans rfl) la st M
theorem e21_72 (X : aX) (la : aLs) (st : List aV) (M : aM) : go X 21 72 la st M = kC X 21 (i_ial X 73 la st M) := evC ((pm21 X 72).trans rfl) la st M
theorem e21_73 (X : aX) (la : aLs) (st : List aV) (M : aM) : go X 21 73 la st M = kC X 21 (i_ci (nI 20) 75 la st M) := evC ((pm21 X 73).trans rfl) la st M
theorem e21_75 (X : aX) (la : aLs) (st : List aV) (M : aM) : go X 21 75 la st M = kC X 21 (i_div (fun x y => x / y) 76 la st M) := evC ((pm21 X 75).trans rfl) la st M
theorem e21_76 (X : aX) (la : aLs) (st : List aV) (M : aM) : go X 21 76 la st M = kC X 21 (i_bin (fun x y => x + y) 77 la st M) := evC ((pm21 X 76).trans rfl) la st M
theorem e21_77 (X : aX) (la : aLs) (st : List aV) (M : aM) : go X 21 77 la st M = i_irt st M := evR ((pm21 X 77).trans rfl) la st M
theorem e21_78 (X : aX) (la : aLs) (st : List aV) (M : aM) : go X 21 78 la st M = kC X 21 (i_ldi 2 79 la st M) := evC ((pm21 X 78).trans rfl) la st M
theorem e21_79 (X : aX) (la : aLs) (st : List aV) (M : aM) : go X 21 79 la st M = i_irt st M := evR ((pm21 X 79).trans rfl) la st M
theorem e21_80 (X : aX) (la : aLs) (st : List aV) (M : aM) : go X 21 80 la st M = kC X 21 (i_ldi 2 81 la st M) := evC ((pm21 X 80).trans rfl) la st M
theorem e21_81 (X : aX) (la : aLs) (st : List aV) (M : aM) : go X 21 81 la st M = kC X 21 (i_ci (nI 2) 82 la st M) := evC ((pm21 X 81).trans rfl) la st M
theorem e21_82 (X : aX) (la : aLs) (st : List aV) (M : aM) : go X 21 82 la st M = kC X 21 (i_bin (fun x y => x + y) 83 la st M) := evC ((pm21 X 82).trans rfl) la st M
theorem e21_83 (X : aX) (la : aLs) (st : List aV) (M : aM) : go X 21 83 la st M = i_irt st M := evR ((pm21 X 83).trans rfl) la st M
theorem e21_84 (X : aX) (la : aLs) (st : List aV) (M : aM) : go X 21 84 la st M = kC X 21 (i_ci (nI 1) 85 la st M) := evC ((pm21 X 84).trans rfl) la st M
theorem e21_85 (X : aX) (la : aLs) (st : List aV) (M : aM) : go X 21 85 la st M = i_irt st M := evR ((pm21 X 85).trans rfl) la st M
theorem e21_86 (X : aX) (la : aLs) (st : List aV) (M : aM) : go X 21 86 la st M = kC X 21 (i_lda 0 87 la st M) := evC ((pm21 X 86).trans rfl) la st M
theorem e21_87 (X : aX) (la : aLs) (st : List aV) (M : aM) : go X 21 87 la st M = kC X 21 (i_get 2 0 90 la st M) := evC ((pm21 X 87).trans rfl) la st M
theorem e21_90 (X : aX) (la : aLs) (st : List aV) (M : aM) : go X 21 90 la st M = kC X 21 (i_ci (nI 5) 91 la st M) := evC ((pm21 X 90).trans rfl) la st M
theorem e21_91 (X : aX) (la : aLs) (st : List aV) (M : aM) : go X 21 91 la st M = kC X 21 (i_ial X 92 la st M) := evC ((pm21 X 91).trans rfl) la st M
theorem e21_92 (X : aX) (la : aLs) (st : List aV) (M : aM) : go X 21 92 la st M = i_irt st M := evR ((pm21 X 92).trans rfl) la st M
theorem c21 (X : aX) (as : List aV) (M : aM) : cl X 21 as M = if cs as ≤ 3 then go X 21 0 (ent 3 as) [] M else none := rfl
theorem pm22 (X : aX) (pc : Nat) : pg X 22 pc = lk pc (tb22 X) := rfl
theorem e22_0 (X : aX) (la : aLs) (st : List aV) (M : aM) : go X 22 0 la st M = kC X 22 (i_lda 0 1 la st M) := evC ((pm22 X 0).trans rfl) la st M
theorem e22_1 (X : aX) (la : aLs) (st : List aV) (M : aM) : go X 22 1 la st M = kC X 22 (i_get 2 0 4 la st M) := evC ((pm22 X 1).trans rfl) la st M
theorem e22_4 (X : aX) (la : aLs) (st : List aV) (M : aM) : go X 22 4 la st M = kC X 22 (i_ci (nI 3) 5 la st M) := evC ((pm22 X 4).trans rfl) la st M
theorem e22_5 (X : aX) (la : aLs) (st : List aV) (M : aM) : go X 22 5 la st M = kC X 22 (i_ial X 6 la st M) := evC ((pm22 X 5).trans rfl) la st M
theorem e22_6 (X : aX) (la : aLs) (st : List aV) (M : aM) : go X 22 6 la st M = kC X 22 (i_ci (nI 10) 8 la st M) := evC ((pm22 X 6).trans rfl) la st M
theorem e22_8 (X : aX) (la : aLs) (st : List aV) (M : aM) : go X 22 8 la st M = kC X 22 (i_div (fun x y => x / y) 9 la st M) := evC ((pm22 X 8).trans rfl) la st M
theorem e22_9 (X : aX) (la : aLs) (st : List aV) (M : aM) : go X 22 9 la st M = kC X 22 (i_sti 3 10 la st M) := evC ((pm22 X 9).trans rfl) la st M
theorem e22_10 (X : aX) (la : aLs) (st : List aV) (M : aM) : go X 22 10 la st M = kC X 22 (i_ldi 1 11 la st M) := evC ((pm22 X 10).trans rfl) la st M
theorem e22_11 (X : aX) (la : aLs) (st : List aV) (M : aM) : go X 22 11 la st M = kC X 22 (i_ife 20 14 la st M) := evC ((pm22 X 11).trans rfl) la st M
theorem e22_14 (X : aX) (la : aLs) (st : List aV) (M : aM) : go X 22 14 la st M = kC X 22 (i_ldi 3 15 la st M) := evC ((pm22 X 14).trans rfl) la st M
theorem e22_15 (X : aX) (la : aLs) (st : List aV) (M : aM) : go X 22 15 la st M = kC X 22 (i_ci (nI 1) 16 la st M) := evC ((pm22 X 15).trans rfl) la st M
theorem e22_16 (X : aX) (la : aLs) (st : List aV) (M : aM) : go X 22 16 la st M = kC X 22 (i_bin (fun x y => x + y) 17 la st M) := evC ((pm22 X 16).trans rfl) la st M
theorem e22_17 (X : aX) (la : aLs) (st : List aV) (M : aM) : go X 22 17 la st M = kC X 22 (i_go 21 la st M) := evC ((pm22 X 17).trans rfl) la st M
theorem e22_20 (X : aX) (la : aLs) (st : List aV) (M : aM) : go X 22 20 la st M = kC X 22 (i_ldi 3 21 la st M) := evC ((pm22 X 20).trans rfl) la st M
theorem e22_21 (X : aX) (la : aLs) (st : List aV) (M : aM) : go X 22 21 la st M = kC X 22 (i_sti 4 23 la st M) := evC ((pm22 X 21).trans rfl) la st M
theorem e22_23 (X : aX) (la : aLs) (st : List aV) (M : aM) : go X 22 23 la st M = kC X 22 (i_lda 0 24 la st M) := evC ((pm22 X 23).trans rfl) la st M
theorem e22_24 (X : aX) (la : aLs) (st : List aV) (M : aM) : go X 22 24 la st M = kC X 22 (i_get 2 0 27 la st M) := evC ((pm22 X 24).trans rfl) la st M
theorem e22_27 (X : aX) (la : aLs) (st : List aV) (M : aM) : go X 22 27 la st M = kC X 22 (i_ci (nI 0) 28 la st M) := evC ((pm22 X 27).trans rfl) la st M
theorem e22_28 (X : aX) (la : aLs) (st : List aV) (M : aM) : go X 22 28 la st M = kC X 22 (i_ial X 29 la st M) := evC ((pm22 X 28).trans rfl) la st M
theorem e22_29 (X : aX) (la : aLs) (st : List aV) (M : aM) : go X 22 29 la st M = kC X 22 (i_sw [(nI 1, 68), (nI 2, 83), (nI 3, 68), (nI 4, 71), (nI 5, 87), (nI 6, 85)] 91 la st M) := evC ((pm22 X 29).trans rfl) la st M
theorem e22_68 (X : aX) (la : aLs) (st : List aV) (M : aM) : go X 22 68 la st M = kC X 22 (i_ldi 4 70 la st M) := evC ((pm22 X 68).trans rfl) la st M
theorem e22_70 (X : aX) (la : aLs) (st : List aV) (M : aM) : go X 22 70 la st M = i_irt st M := evR ((pm22 X 70).trans rfl) la st M
theorem e22_71 (X : aX) (la : aLs) (st : List aV) (M : aM) : go X 22 71 la st M = kC X 22 (i_ldi 2 72 la st M) := evC ((pm22 X 71).trans rfl) la st M
theorem e22_72 (X : aX) (la : aLs) (st : List aV) (M : aM) : go X 22 72 la st M = kC X 22 (i_ife 80 75 la st M) := evC ((pm22 X 72).trans rfl) la st M
theorem e22_75 (X : aX) (la : aLs) (st : List aV) (M : aM) : go X 22 75 la st M = kC X 22 (i_ci (nI 16) 77 la st M) := evC ((pm22 X 75).trans rfl) la st M
theorem e22_77 (X : aX) (la : aLs) (st : List aV) (M : aM) : go X 22 77 la st M = kC X 22 (i_go 82 la st M) := evC ((pm22 X 77).trans rfl) la st M
theorem e22_80 (X : aX) (la : aLs) (st : List aV) (M : aM) : go X 22 80 la st M = kC X 22 (i_ldi 4 82 la st M) := evC ((pm22 X 80).trans rfl) la st M
theorem e22_82 (X : aX) (la : aLs) (st : List aV) (M : aM) : go X 22 82 la st M = i_irt st M := evR ((pm22 X 82).trans rfl) la st M
theorem e22_83 (X : aX) (la : aLs) (st : List aV) (M : aM) : go X 22 83 la st M = kC X 22 (i_ci (nI 1) 84 la st M) := evC ((pm22 X 83).trans rfl) la st M
theorem e22_84 (X : aX) (la : aLs) (st : List aV) (M : aM) : go X 22 84 la st M = i_irt st M := evR ((pm22 X 84).trans rfl) la st M
theorem e22_85 (X : aX) (la : aLs) (st : List aV) (M : aM) : go X 22 85 la st M = kC X 22 (i_ci (nI 3) 86 la st M) := evC ((pm22 X 85).trans rfl) la st M
theorem e22_86 (X : aX) (la : aLs) (st : List aV) (M : aM) : go X 22 86 la st M = i_irt st M := evR ((pm22 X 86).trans rfl) la st M
theorem e22_87 (X : aX) (la : aLs) (st : List aV) (M : aM) : go X 22 87 la st M = kC X 22 (i_ldi 3 88 la st M) := evC ((pm22 X 87).trans rfl) la st M
theorem e22_88 (X : aX) (la : aLs) (st : List aV) (M : aM) : go X 22 88 la st M = kC X 22 (i_ci (nI 3) 89 la st M) := evC ((pm22 X 88).trans rfl) la st M
theorem e22_89 (X : aX) (la : aLs) (st : List aV) (M : aM) : go X 22 89 la st M = kC X 22 (i_bin (fun x y => x + y) 90 la st M) := evC ((pm22 X 89).trans rfl) la st M
theorem e22_90 (X : aX) (la : aLs) (st : List aV) (M : aM) : go X 22 90 la st M = i_irt st M := evR ((pm22 X 90).trans rfl) la st M
theorem e22_91 (X : aX) (la : aLs) (st : List aV) (M : aM) : go X 22 91 la st M = kC X 22 (i_ldi 3 92 la st M) := evC ((pm22 X 91).trans rfl) la st M
theorem e22_92 (X : aX) (la : aLs) (st : List aV) (M : aM) : go X 22 92 la st M = i_irt st M := evR ((pm22 X 92).trans rfl) la st M
theorem c22 (X : aX) (as : List aV) (M : aM) : cl X 22 as M = if cs as ≤ 5 then go X 22 0 (ent 5 as) [] M else none := rfl
theorem pm23 (X : aX) (pc : Nat) : pg X 23 pc = lk pc (tb23 X) := rfl
theorem e23_0 (X : aX) (la : aLs) (st : List aV) (M : aM) : go X 23 0 la st M = kC X 23 (i_lda 0 1 la st M) := evC ((pm23 X 0).trans rfl) la st M
theorem e23_1 (X : aX) (la : aLs) (st : List aV) (M : aM) : go X 23 1 la st M = kC X 23 (i_get 2 0 4 la st M) := evC ((pm23 X 1).trans rfl) la st M
theorem e23_4 (X : aX) (la : aLs) (st : List aV) (M : aM) : go X 23 4 la st M = kC X 23 (i_ci (nI 0) 5 la st M) := evC ((pm23 X 4).trans rfl) la st M
theorem e23_5 (X : aX) (la : aLs) (st : List aV) (M : aM) : go X 23 5 la st M = kC X 23 (i_ial X 6 la st M) := evC ((pm23 X 5).trans rfl) la st M
theorem e23_6 (X : aX) (la : aLs) (st : List aV) (M : aM) : go X 23 6 la st M = kC X 23 (i_sw [(nI 2, 44), (nI 3, 40), (nI 4, 42), (nI 5, 48), (nI 6, 46)] 66 la st M) := evC ((pm23 X 6).trans rfl) la st M
theorem e23_40 (X : aX) (la : aLs) (st : List aV) (M : aM) : go X 23 40 la st M = kC X 23 (i_ci (nI 4) 41 la st M) := evC ((pm23 X 40).trans rfl) la st M
theorem e23_41 (X : aX) (la : aLs) (st : List aV) (M : aM) : go X 23 41 la st M = i_irt st M := evR ((pm23 X 41).trans rfl) la st M
theorem e23_42 (X : aX) (la : aLs) (st : List aV) (M : aM) : go X 23 42 la st M = kC X 23 (i_ci (nI 3) 43 la st M) := evC ((pm23 X 42).trans rfl) la st M
theorem e23_43 (X : aX) (la : aLs) (st : List aV) (M : aM) : go X 23 43 la st M = i_irt st M := evR ((pm23 X 43).trans rfl) la st M
theorem e23_44 (X : aX) (la : aLs) (st : List aV) (M : aM) : go X 23 44 la st M = kC X 23 (i_ci (nI 0) 45 la st M) := evC ((pm23 X 44).trans rfl) la st M
theorem e23_45 (X : aX) (la : aLs) (st : List aV) (M : aM) : go X 23 45 la st M = i_irt st M := evR ((pm23 X 45).trans rfl) la st M
theorem e23_46 (X : aX) (la : aLs) (st : List aV) (M : aM) : go X 23 46 la st M = kC X 23 (i_ci (nI 1) 47 la st M) := evC ((pm23 X 46).trans rfl) la st M
theorem e23_47 (X : aX) (la : aLs) (st : List aV) (M : aM) : go X 23 47 la st M = i_irt st M := evR ((pm23 X 47).trans rfl) la st M
theorem e23_48 (X : aX) (la : aLs) (st : List aV) (M : aM) : go X 23 48 la st M = kC X 23 (i_lda 0 49 la st M) := evC ((pm23 X 48).trans rfl) la st M
theorem e23_49 (X : aX) (la : aLs) (st : List aV) (M : aM) : go X 23 49 la st M = kC X 23 (i_get 2 0 52 la st M) := evC ((pm23 X 49).trans rfl) la st M
theorem e23_52 (X : aX) (la : aLs) (st : List aV) (M : aM) : go X 23 52 la st M = kC X 23 (i_ci (nI 4) 53 la st M) := evC ((pm23 X 52).trans rfl) la st M
theorem e23_53 (X : aX) (la : aLs) (st : List aV) (M : aM) : go X 23 53 la st M = kC X 23 (i_ial X 54 la st M) := evC ((pm23 X 53).trans rfl) la st M
theorem e23_54 (X : aX) (la : aLs) (st : List aV) (M : aM) : go X 23 54 la st M = kC X 23 (i_ci (nI 15) 56 la st M) := evC ((pm23 X 54).trans rfl) la st M
theorem e23_56 (X : aX) (la : aLs) (st : List aV) (M : aM) : go X 23 56 la st M = kC X 23 (i_cml 63 59 la st M) := evC ((pm23 X 56).trans rfl) la st M
theorem e23_59 (X : aX) (la : aLs) (st : List aV) (M : aM) : go X 23 59 la st M = kC X 23 (i_ci (nI 0) 60 la st M) := evC ((pm23 X 59).trans rfl) la st M
theorem e23_60 (X : aX) (la : aLs) (st : List aV) (M : aM) : go X 23 60 la st M = kC X 23 (i_go 65 la st M) := evC ((pm23 X 60).trans rfl) la st M
theorem e23_63 (X : aX) (la : aLs) (st : List aV) (M : aM) : go X 23 63 la st M = kC X 23 (i_ci (-5) 65 la st M) := evC ((pm23 X 63).trans rfl) la st M
theorem e23_65 (X : aX) (la : aLs) (st : List aV) (M : aM) : go X 23 65 la st M = i_irt st M := evR ((pm23 X 65).trans rfl) la st M
theorem e23_66 (X : aX) (la : aLs) (st : List aV) (M : aM) : go X 23 66 la st M = kC X 23 (i_ci (nI 2) 67 la st M) := evC ((pm23 X 66).trans rfl) la st M
theorem e23_67 (X : aX) (la : aLs) (st : List aV) (M : aM) : go X 23 67 la st M = i_irt st M := evR ((pm23 X 67).trans rfl) la st M
theorem c23 (X : aX) (as : List aV) (M : aM) : cl X 23 as M = if cs as ≤ 1 then go X 23 0 (ent 1 as) [] M else none := rfl
theorem pm24 (X : aX) (pc : Nat) : pg X 24 pc = lk pc (tb24 X) := rfl
theorem e24_0 (X : aX) (la : aLs) (st : List aV) (M : aM) : go X 24 0 la st M = kC X 24 (i_lda 0 1 la st M) := evC ((pm24 X 0).trans rfl) la st M
theorem e24_1 (X : aX) (la : aLs) (st : List aV) (M : aM) : go X 24 1 la st M = kC X 24 (i_get 2 0 4 la st M) := evC ((pm24 X 1).trans rfl) la st M
theorem e24_4 (X : aX) (la : aLs) (st : List aV) (M : aM) : go X 24 4 la st M = kC X 24 (i_ci (nI 3) 5 la st M) := evC ((pm24 X 4).trans rfl) la st M
theorem e24_5 (X : aX) (la : aLs) (st : List aV) (M : aM) : go X 24 5 la st M = kC X 24 (i_ci (nI 0) 6 la st M) := evC ((pm24 X 5).trans rfl) la st M
theorem e24_6 (X : aX) (la : aLs) (st : List aV) (M : aM) : go X 24 6 la st M = kC X 24 (i_lda 0 7 la st M) := evC ((pm24 X 6).trans rfl) la st M
theorem e24_7 (X : aX) (la : aLs) (st : List aV) (M : aM) : go X 24 7 la st M = kC X 24 (i_get 2 0 10 la st M) := evC ((pm24 X 7).trans rfl) la st M
theorem e24_10 (X : aX) (la : aLs) (st : List aV) (M : aM) : go X 24 10 la st M = kC X 24 (i_ci (nI 3) 11 la st M) := evC ((pm24 X 10).trans rfl) la st M
theorem e24_11 (X : aX) (la : aLs) (st : List aV) (M : aM) : go X 24 11 la st M = kC X 24 (i_ial X 12 la st M) := evC ((pm24 X 11).trans rfl) la st M
theorem e24_12 (X : aX) (la : aLs) (st : List aV) (M : aM) : go X 24 12 la st M = kC X 24 (i_lda 0 13 la st M) := evC ((pm24 X 12).trans rfl) la st M
theorem e24_13 (X : aX) (la : aLs) (st : List aV) (M : aM) : go X 24 13 la st M = kK X 24 23 1 16 3 la st M := evK ((pm24 X 13).trans rfl) la st M
theorem e24_16 (X : aX) (la : aLs) (st : List aV) (M : aM) : go X 24 16 la st M = kC X 24 (i_bin (fun x y => x - y) 17 la st M) := evC ((pm24 X 16).trans rfl) la st M
theorem e24_17 (X : aX) (la : aLs) (st : List aV) (M : aM) : go X 24 17 la st M = kC X 24 (i_ci (nI 99) 19 la st M) := evC ((pm24 X 17).trans rfl) la st M
theorem e24_19 (X : aX) (la : aLs) (st : List aV) (M : aM) : go X 24 19 la st M = kC X 24 (i_min 22 la st M) := evC ((pm24 X 19).trans rfl) la st M
theorem e24_22 (X : aX) (la : aLs) (st : List aV) (M : aM) : go X 24 22 la st M = kC X 24 (i_max 25 la st M) := evC ((pm24 X 22).trans rfl) la st M
theorem e24_25 (X : aX) (la : aLs) (st : List aV) (M : aM) : go X 24 25 la st M = kC X 24 (i_ias 26 la st M) := evC ((pm24 X 25).trans rfl) la st M
theorem e24_26 (X : aX) (la : aLs) (st : List aV) (M : aM) : go X 24 26 la st M = kC X 24 (i_lda 0 27 la st M) := evC ((pm24 X 26).trans rfl) la st M
theorem e24_27 (X : aX) (la : aLs) (st : List aV) (M : aM) : go X 24 27 la st M = kC X 24 (i_get 2 0 30 la st M) := evC ((pm24 X 27).trans rfl) la st M
theorem e24_30 (X : aX) (la : aLs) (st : List aV) (M : aM) : go X 24 30 la st M = kC X 24 (i_ci (nI 4) 31 la st M) := evC ((pm24 X 30).trans rfl) la st M
theorem e24_31 (X : aX) (la : aLs) (st : List aV) (M : aM) : go X 24 31 la st M = kC X 24 (i_lda 0 32 la st M) := evC ((pm24 X 31).trans rfl) la st M
theorem e24_32 (X : aX) (la : aLs) (st : List aV) (M : aM) : go X 24 32 la st M = kC X 24 (i_get 2 0 35 la st M) := evC ((pm24 X 32).trans rfl) la st M
theorem e24_35 (X : aX) (la : aLs) (st : List aV) (M : aM) : go X 24 35 la st M = kC X 24 (i_ci (nI 4) 36 la st M) := evC ((pm24 X 35).trans rfl) la st M
theorem e24_36 (X : aX) (la : aLs) (st : List aV) (M : aM) : go X 24 36 la st M = kC X 24 (i_ial X 37 la st M) := evC ((pm24 X 36).trans rfl) la st M
theorem e24_37 (X : aX) (la : aLs) (st : List aV) (M : aM) : go X 24 37 la st M = kC X 24 (i_ci (nI 1) 38 la st M) := evC ((pm24 X 37).trans rfl) la st M
theorem e24_38 (X : aX) (la : aLs) (st : List aV) (M : aM) : go X 24 38 la st M = kC X 24 (i_bin (fun x y => x + y) 39 la st M) := evC ((pm24 X 38).trans rfl) la st M
theorem e24_39 (X : aX) (la : aLs) (st : List aV) (M : aM) : go X 24 39 la st M = kC X 24 (i_ci (nI 120) 41 la st M) := evC ((pm24 X 39).trans rfl) la st M
theorem e24_41 (X : aX) (la : aLs) (st : List aV) (M : aM) : go X 24 41 la st M = kC X 24 (i_min 44 la st M) := evC ((pm24 X 41).trans rfl) la st M
theorem e24_44 (X : aX) (la : aLs) (st : List aV) (M : aM) : go X 24 44 la st M = kC X 24 (i_ias 45 la st M) := evC ((pm24 X 44).trans rfl) la st M
theorem e24_45 (X : aX) (la : aLs) (st : List aV) (M : aM) : go X 24 45 la st M = i_vrt st M := evR ((pm24 X 45).trans rfl) la st M
theorem c24 (X : aX) (as : List aV) (M : aM) : cl X 24 as M = if cs as ≤ 1 then go X 24 0 (ent 1 as) [] M else none := rfl
theorem pm25 (X : aX) (pc : Nat) : pg X 25 pc = lk pc (tb25 X) := rfl
theorem e25_0 (X : aX) (la : aLs) (st : List aV) (M : aM) : go X 25 0 la st M = kC X 25 (i_lda 0 1 la st M) := evC ((pm25 X 0).trans rfl) la st M
theorem e25_1 (X : aX) (la : aLs) (st : List aV) (M : aM) : go X 25 1 la st M = kC X 25 (i_oin 4 la st M) := evC ((pm25 X 1).trans rfl) la st M
theorem e25_4 (X : aX) (la : aLs) (st : List aV) (M : aM) : go X 25 4 la st M = kC X 25 (i_lda 0 5 la st M) := evC ((pm25 X 4).trans rfl) la st M
theorem e25_5 (X : aX) (la : aLs) (st : List aV) (M : aM) : go X 25 5 la st M = kC X 25 (i_ci (nI 8) 7 la st M) := evC ((pm25 X 5).trans rfl) la st M
theorem e25_7 (X : aX) (la : aLs) (st : List aV) (M : aM) : go X 25 7 la st M = kC X 25 (i_nwq 2 10 la st M) := evC ((pm25 X 7).trans rfl) la st M
theorem e25_10 (X : aX) (la : aLs) (st : List aV) (M : aM) : go X 25 10 la st M = kC X 25 (i_put 3 0 2 13 la st M) := evC ((pm25 X 10).trans rfl) la st M
theorem e25_13 (X : aX) (la : aLs) (st : List aV) (M : aM) : go X 25 13 la st M = kC X 25 (i_lda 0 14 la st M) := evC ((pm25 X 13).trans rfl) la st M
theorem e25_14 (X : aX) (la : aLs) (st : List aV) (M : aM) : go X 25 14 la st M = kC X 25 (i_ci (nI 10) 16 la st M) := evC ((pm25 X 14).trans rfl) la st M
theorem e25_16 (X : aX) (la : aLs) (st : List aV) (M : aM) : go X 25 16 la st M = kC X 25 (i_nwa 18 la st M) := evC ((pm25 X 16).trans rfl) la st M
theorem e25_18 (X : aX) (la : aLs) (st : List aV) (M : aM) : go X 25 18 la st M = kC X 25 (i_put 3 1 2 21 la st M) := evC ((pm25 X 18).trans rfl) la st M
theorem e25_21 (X : aX) (la : aLs) (st : List aV) (M : aM) : go X 25 21 la st M = kC X 25 (i_lda 0 22 la st M) := evC ((pm25 X 21).trans rfl) la st M
theorem e25_22 (X : aX) (la : aLs) (st : List aV) (M : aM) : go X 25 22 la st M = kC X 25 (i_ci (nI 0) 23 la st M) := evC ((pm25 X 22).trans rfl) la st M
theorem e25_23 (X : aX) (la : aLs) (st : List aV) (M : aM) : go X 25 23 la st M = kC X 25 (i_put 3 2 0 26 la st M) := evC ((pm25 X 23).trans rfl) la st M
theorem e25_26 (X : aX) (la : aLs) (st : List aV) (M : aM) : go X 25 26 la st M = kC X 25 (i_lda 0 27 la st M) := evC ((pm25 X 26).trans rfl) la st M
theorem e25_27 (X : aX) (la : aLs) (st : List aV) (M : aM) : go X 25 27 la st M = kC X 25 (i_ci (nI 0) 28 la st M) := evC ((pm25 X 27).trans rfl) la st M
theorem e25_28 (X : aX) (la : aLs) (st : List aV) (M : aM) : go X 25 28 la st M = kC X 25 (i_put 3 3 0 31 la st M) := evC ((pm25 X 28).trans rfl) la st M
theorem e25_31 (X : aX) (la : aLs) (st : List aV) (M : aM) : go X 25 31 la st M = kC X 25 (i_lda 0 32 la st M) := evC ((pm25 X 31).trans rfl) la st M
theorem e25_32 (X : aX) (la : aLs) (st : List aV) (M : aM) : go X 25 32 la st M = kC X 25 (i_ci (nI 0) 33 la st M) := evC ((pm25 X 32).trans rfl) la st M
theorem e25_33 (X : aX) (la : aLs) (st : List aV) (M : aM) : go X 25 33 la st M = kC X 25 (i_put 3 4 0 36 la st M) := evC ((pm25 X 33).trans rfl) la st M
theorem e25_36 (X : aX) (la : aLs) (st : List aV) (M : aM) : go X 25 36 la st M = kC X 25 (i_lda 0 37 la st M) := evC ((pm25 X 36).trans rfl) la st M
theorem e25_37 (X : aX) (la : aLs) (st : List aV) (M : aM) : go X 25 37 la st M = kC X 25 (i_ci (nI 1) 38 la st M) := evC ((pm25 X 37).trans rfl) la st M
theorem e25_38 (X : aX) (la : aLs) (st : List aV) (M : aM) : go X 25 38 la st M = kC X 25 (i_put 3 5 0 41 la st M) := evC ((pm25 X 38).trans rfl) la st M
theorem e25_41 (X : aX) (la : aLs) (st : List aV) (M : aM) : go X 25 41 la st M = kC X 25 (i_ci (nI 0) 42 la st M) := evC ((pm25 X 41).trans rfl) la st M
theorem e25_42 (X : aX) (la : aLs) (st : List aV) (M : aM) : go X 25 42 la st M = kC X 25 (i_sti 1 43 la st M) := evC ((pm25 X 42).trans rfl) la st M
theorem e25_43 (X : aX) (la : aLs) (st : List aV) (M : aM) : go X 25 43 la st M = kC X 25 (i_ldi 1 44 la st M) := evC ((pm25 X 43).trans rfl) la st M
theorem e25_44 (X : aX) (la : aLs) (st : List aV) (M : aM) : go X 25 44 la st M = kC X 25 (i_ci (nI 8) 46 la st M) := evC ((pm25 X 44).trans rfl) la st M
theorem e25_46 (X : aX) (la : aLs) (st : List aV) (M : aM) : go X 25 46 la st M = kC X 25 (i_cml 49 68 la st M) := evC ((pm25 X 46).trans rfl) la st M
theorem e25_49 (X : aX) (la : aLs) (st : List aV) (M : aM) : go X 25 49 la st M = kC X 25 (i_lda 0 50 la st M) := evC ((pm25 X 49).trans rfl) la st M
theorem e25_50 (X : aX) (la : aLs) (st : List aV) (M : aM) : go X 25 50 la st M = kC X 25 (i_get 3 0 53 la st M) := evC ((pm25 X 50).trans rfl) la st M
theorem e25_53 (X : aX) (la : aLs) (st : List aV) (M : aM) : go X 25 53 la st M = kC X 25 (i_ldi 1 54 la st M) := evC ((pm25 X 53).trans rfl) la st M
theorem e25_54 (X : aX) (la : aLs) (st : List aV) (M : aM) : go X 25 54 la st M = kC X 25 (i_new 2 57 la st M) := evC ((pm25 X 54).trans rfl) la st M
theorem e25_57 (X : aX) (la : aLs) (st : List aV) (M : aM) : go X 25 57 la st M = kC X 25 (i_dup 58 la st M) := evC ((pm25 X 57).trans rfl) la st M
theorem e25_58 (X : aX) (la : aLs) (st : List aV) (M : aM) : go X 25 58 la st M = kK X 25 13 1 61 3 la st M := evK ((pm25 X 58).trans rfl) la st M
theorem e25_61 (X : aX) (la : aLs) (st : List aV) (M : aM) : go X 25 61 la st M = kC X 25 (i_aas 62 la st M) := evC ((pm25 X 61).trans rfl) la st M
theorem e25_62 (X : aX) (la : aLs) (st : List aV) (M : aM) : go X 25 62 la st M = kC X 25 (i_inc 1 (nI 1) 65 la st M) := evC ((pm25 X 62).trans rfl) la st M
theorem e25_65 (X : aX) (la : aLs) (st : List aV) (M : aM) : go X 25 65 la st M = kC X 25 (i_go 43 la st M) := evC ((pm25 X 65).trans rfl) la st M
theorem e25_68 (X : aX) (la : aLs) (st : List aV) (M : aM) : go X 25 68 la st M = kC X 25 (i_ci (nI 0) 69 la st M) := evC ((pm25 X 68).trans rfl) la st M
theorem e25_69 (X : aX) (la : aLs) (st : List aV) (M : aM) : go X 25 69 la st M = kC X 25 (i_sti 1 70 la st M) := evC ((pm25 X 69).trans rfl) la st M
theorem e25_70 (X : aX) (la : aLs) (st : List aV) (M : aM) : go X 25 70 la st M = kC X 25 (i_ldi 1 71 la st M) := evC ((pm25 X 70).trans rfl) la st M
theorem e25_71 (X : aX) (la : aLs) (st : List aV) (M : aM) : go X 25 71 la st M = kC X 25 (i_ci (nI 10) 73 la st M) := evC ((pm25 X 71).trans rfl) la st M
theorem e25_73 (X : aX) (la : aLs) (st : List aV) (M : aM) : go X 25 73 la st M = kC X 25 (i_cml 76 89 la st M) := evC ((pm25 X 73).trans rfl) la st M
theorem e25_76 (X : aX) (la : aLs) (st : List aV) (M : aM) : go X 25 76 la st M = kC X 25 (i_lda 0 77 la st M) := evC ((pm25 X 76).trans rfl) la st M
theorem e25_77 (X : aX) (la : aLs) (st : List aV) (M : aM) : go X 25 77 la st M = kC X 25 (i_get 3 1 80 la st M) := evC ((pm25 X 77).trans rfl) la st M
theorem e25_80 (X : aX) (la : aLs) (st : List aV) (M : aM) : go X 25 80 la st M = kC X 25 (i_ldi 1 81 la st M) := evC ((pm25 X 80).trans rfl) la st M
theorem e25_81 (X : aX) (la : aLs) (st : List aV) (M : aM) : go X 25 81 la st M = kC X 25 (i_ci (-1) 82 la st M) := evC ((pm25 X 81).trans rfl) la st M
theorem e25_82 (X : aX) (la : aLs) (st : List aV) (M : aM) : go X 25 82 la st M = kC X 25 (i_ias 83 la st M) := evC ((pm25 X 82).trans rfl) la st M
theorem e25_83 (X : aX) (la : aLs) (st : List aV) (M : aM) : go X 25 83 la st M = kC X 25 (i_inc 1 (nI 1) 86 la st M) := evC ((pm25 X 83).trans rfl) la st M
theorem e25_86 (X : aX) (la : aLs) (st : List aV) (M : aM) : go X 25 86 la st M = kC X 25 (i_go 70 la st M) := evC ((pm25 X 86).trans rfl) la st M
theorem e25_89 (X : aX) (la : aLs) (st : List aV) (M : aM) : go X 25 89 la st M = i_vrt st M := evR ((pm25 X 89).trans rfl) la st M
theorem c25 (X : aX) (as : List aV) (M : aM) : cl X 25 as M = if cs as ≤ 2 then go X 25 0 (ent 2 as) [] M else none := rfl
theorem pm26 (X : aX) (pc : Nat) : pg X 26 pc = lk pc (tb26 X) := rfl
theorem e26_0 (X : aX) (la : aLs) (st : List aV) (M : aM) : go X 26 0 la st M = kC X 26 (i_lda 0 1 la st M) := evC ((pm26 X 0).trans rfl) la st M
theorem e26_1 (X : aX) (la : aLs) (st : List aV) (M : aM) : go X 26 1 la st M = kC X 26 (i_lda 1 2 la st M) := evC ((pm26 X 1).trans rfl) la st M
theorem e26_2 (X : aX) (la : aLs) (st : List aV) (M : aM) : go X 26 2 la st M = kC X 26 (i_get 3 2 5 la st M) := evC ((pm26 X 2).trans rfl) la st M
theorem e26_5 (X : aX) (la : aLs) (st : List aV) (M : aM) : go X 26 5 la st M = kC X 26 (i_put 3 2 0 8 la st M) := evC ((pm26 X 5).trans rfl) la st M
theorem e26_8 (X : aX) (la : aLs) (st : List aV) (M : aM) : go X 26 8 la st M = kC X 26 (i_lda 0 9 la st M) := evC ((pm26 X 8).trans rfl) la st M
theorem e26_9 (X : aX) (la : aLs) (st : List aV) (M : aM) : go X 26 9 la st M = kC X 26 (i_lda 1 10 la st M) := evC ((pm26 X 9).trans rfl) la st M
theorem e26_10 (X : aX) (la : aLs) (st : List aV) (M : aM) : go X 26 10 la st M = kC X 26 (i_get 3 3 13 la st M) := evC ((pm26 X 10).trans rfl) la st M
theorem e26_13 (X : aX) (la : aLs) (st : List aV) (M : aM) : go X 26 13 la st M = kC X 26 (i_put 3 3 0 16 la st M) := evC ((pm26 X 13).trans rfl) la st M
theorem e26_16 (X : aX) (la : aLs) (st : List aV) (M : aM) : go X 26 16 la st M = kC X 26 (i_lda 0 17 la st M) := evC ((pm26 X 16).trans rfl) la st M
theorem e26_17 (X : aX) (la : aLs) (st : List aV) (M : aM) : go X 26 17 la st M = kC X 26 (i_lda 1 18 la st M) := evC ((pm26 X 17).trans rfl) la st M
theorem e26_18 (X : aX) (la : aLs) (st : List aV) (M : aM) : go X 26 18 la st M = kC X 26 (i_get 3 4 21 la st M) := evC ((pm26 X 18).trans rfl) la st M
theorem e26_21 (X : aX) (la : aLs) (st : List aV) (M : aM) : go X 26 21 la st M = kC X 26 (i_put 3 4 0 24 la st M) := evC ((pm26 X 21).trans rfl) la st M
theorem e26_24 (X : aX) (la : aLs) (st : List aV) (M : aM) : go X 26 24 la st M = kC X 26 (i_lda 0 25 la st M) := evC ((pm26 X 24).trans rfl) la st M
theorem e26_25 (X : aX) (la : aLs) (st : List aV) (M : aM) : go X 26 25 la st M = kC X 26 (i_lda 1 26 la st M) := evC ((pm26 X 25).trans rfl) la st M
theorem e26_26 (X : aX) (la : aLs) (st : List aV) (M : aM) : go X 26 26 la st M = kC X 26 (i_get 3 5 29 la st M) := evC ((pm26 X 26).trans rfl) la st M
theorem e26_29 (X : aX) (la : aLs) (st : List aV) (M : aM) : go X 26 29 la st M = kC X 26 (i_put 3 5 0 32 la st M) := evC ((pm26 X 29).trans rfl) la st M
theorem e26_32 (X : aX) (la : aLs) (st : List aV) (M : aM) : go X 26 32 la st M = kC X 26 (i_ci (nI 0) 33 la st M) := evC ((pm26 X 32).trans rfl) la st M
theorem e26_33 (X : aX) (la : aLs) (st : List aV) (M : aM) : go X 26 33 la st M = kC X 26 (i_sti 2 34 la st M) := evC ((pm26 X 33).trans rfl) la st M
theorem e26_34 (X : aX) (la : aLs) (st : List aV) (M : aM) : go X 26 34 la st M = kC X 26 (i_ldi 2 35 la st M) := evC ((pm26 X 34).trans rfl) la st M
theorem e26_35 (X : aX) (la : aLs) (st : List aV) (M : aM) : go X 26 35 la st M = kC X 26 (i_lda 0 36 la st M) := evC ((pm26 X 35).trans rfl) la st M
theorem e26_36 (X : aX) (la : aLs) (st : List aV) (M : aM) : go X 26 36 la st M = kC X 26 (i_get 3 2 39 la st M) := evC ((pm26 X 36).trans rfl) la st M
theorem e26_39 (X : aX) (la : aLs) (st : List aV) (M : aM) : go X 26 39 la st M = kC X 26 (i_cml 42 63 la st M) := evC ((pm26 X 39).trans rfl) la st M
theorem e26_42 (X : aX) (la : aLs) (st : List aV) (M : aM) : go X 26 42 la st M = kC X 26 (i_lda 0 43 la st M) := evC ((pm26 X 42).trans rfl) la st M
theorem e26_43 (X : aX) (la : aLs) (st : List aV) (M : aM) : go X 26 43 la st M = kC X 26 (i_get 3 0 46 la st M) := evC ((pm26 X 43).trans rfl) la st M
theorem e26_46 (X : aX) (la : aLs) (st : List aV) (M : aM) : go X 26 46 la st M = kC X 26 (i_ldi 2 47 la st M) := evC ((pm26 X 46).trans rfl) la st M
theorem e26_47 (X : aX) (la : aLs) (st : List aV) (M : aM) : go X 26 47 la st M = kC X 26 (i_aal 48 la st M) := evC ((pm26 X 47).trans rfl) la st M
theorem e26_48 (X : aX) (la : aLs) (st : List aV) (M : aM) : go X 26 48 la st M = kC X 26 (i_lda 1 49 la st M) := evC ((pm26 X 48).trans rfl) la st M
theorem e26_49 (X : aX) (la : aLs) (st : List aV) (M : aM) : go X 26 49 la st M = kC X 26 (i_get 3 0 52 la st M) := evC ((pm26 X 49).trans rfl) la st M
theorem e26_52 (X : aX) (la : aLs) (st : List aV) (M : aM) : go X 26 52 la st M = kC X 26 (i_ldi 2 53 la st M) := evC ((pm26 X 52).trans rfl) la st M
theorem e26_53 (X : aX) (la : aLs) (st : List aV) (M : aM) : go X 26 53 la st M = kC X 26 (i_aal 54 la st M) := evC ((pm26 X 53).trans rfl) la st M
theorem e26_54 (X : aX) (la : aLs) (st : List aV) (M : aM) : go X 26 54 la st M = kK X 26 15 2 57 3 la st M := evK ((pm26 X 54).trans rfl) la st M
theorem e26_57 (X : aX) (la : aLs) (st : List aV) (M : aM) : go X 26 57 la st M = kC X 26 (i_inc 2 (nI 1) 60 la st M) := evC ((pm26 X 57).trans rfl) la st M
theorem e26_60 (X : aX) (la : aLs) (st : List aV) (M : aM) : go X 26 60 la st M = kC X 26 (i_go 34 la st M) := evC ((pm26 X 60).trans rfl) la st M
theorem e26_63 (X : aX) (la : aLs) (st : List aV) (M : aM) : go X 26 63 la st M = kC X 26 (i_lda 1 64 la st M) := evC ((pm26 X 63).trans rfl) la st M
theorem e26_64 (X : aX) (la : aLs) (st : List aV) (M : aM) : go X 26 64 la st M = kC X 26 (i_get 3 1 67 la st M) := evC ((pm26 X 64).trans rfl) la st M
theorem e26_67 (X : aX) (la : aLs) (st : List aV) (M : aM) : go X 26 67 la st M = kC X 26 (i_ci (nI 0) 68 la st M) := evC ((pm26 X 67).trans rfl) la st M
theorem e26_68 (X : aX) (la : aLs) (st : List aV) (M : aM) : go X 26 68 la st M = kC X 26 (i_lda 0 69 la st M) := evC ((pm26 X 68).trans rfl) la st M
theorem e26_69 (X : aX) (la : aLs) (st : List aV) (M : aM) : go X 26 69 la st M = kC X 26 (i_get 3 1 72 la st M) := evC ((pm26 X 69).trans rfl) la st M
theorem e26_72 (X : aX) (la : aLs) (st : List aV) (M : aM) : go X 26 72 la st M = kC X 26 (i_ci (nI 0) 73 la st M) := evC ((pm26 X 72).trans rfl) la st M
theorem e26_73 (X : aX) (la : aLs) (st : List aV) (M : aM) : go X 26 73 la st M = kC X 26 (i_ci (nI 10) 75 la st M) := evC ((pm26 X 73).trans rfl) la st M
theorem e26_75 (X : aX) (la : aLs) (st : List aV) (M : aM) : go X 26 75 la st M = kC X 26 (i_acp X 78 la st M) := evC ((pm26 X 75).trans rfl) la st M
theorem e26_78 (X : aX) (la : aLs) (st : List aV) (M : aM) : go X 26 78 la st M = i_vrt st M := evR ((pm26 X 78).trans rfl) la st M
theorem c26 (X : aX) (as : List aV) (M : aM) : cl X 26 as M = if cs as ≤ 3 then go X 26 0 (ent 3 as) [] M else none := rfl
theorem pm27 (X : aX) (pc : Nat) : pg X 27 pc = lk pc (tb27 X) := rfl
theorem e27_0 (X : aX) (la : aLs) (st : List aV) (M : aM) : go X 27 0 la st M = kC X 27 (i_ldi 1 1 la st M) := evC ((pm27 X 0).trans rfl) la st M
theorem e27_1 (X : aX) (la : aLs) (st : List aV) (M : aM) : go X 27 1 la st M = kC X 27 (i_ifl 16 4 la st M) := evC ((pm27 X 1).trans rfl) la st M
theorem e27_4 (X : aX) (la : aLs) (st : List aV) (M : aM) : go X 27 4 la st M = kC X 27 (i_ldi 1 5 la st M) := evC ((pm27 X 4).trans rfl) la st M
theorem e27_5 (X : aX) (la : aLs) (st : List aV) (M : aM) : go X 27 5 la st M = kC X 27 (i_lda 0 6 la st M) := evC ((pm27 X 5).trans rfl) la st M
theorem e27_6 (X : aX) (la : aLs) (st : List aV) (M : aM) : go X 27 6 la st M = kC X 27 (i_get 3 2 9 la st M) := evC ((pm27 X 6).trans rfl) la st M
theorem e27_9 (X : aX) (la : aLs) (st : List aV) (M : aM) : go X 27 9 la st M = kC X 27 (i_cml 12 16 la st M) := evC ((pm27 X 9).trans rfl) la st M
theorem e27_12 (X : aX) (la : aLs) (st : List aV) (M : aM) : go X 27 12 la st M = kC X 27 (i_ci (nI 1) 13 la st M) := evC ((pm27 X 12).trans rfl) la st M
theorem e27_13 (X : aX) (la : aLs) (st : List aV) (M : aM) : go X 27 13 la st M = kC X 27 (i_go 17 la st M) := evC ((pm27 X 13).trans rfl) la st M
theorem e27_16 (X : aX) (la : aLs) (st : List aV) (M : aM) : go X 27 16 la st M = kC X 27 (i_ci (nI 0) 17 la st M) := evC ((pm27 X 16).trans rfl) la st M
theorem e27_17 (X : aX) (la : aLs) (st : List aV) (M : aM) : go X 27 17 la st M = i_zrt st M := evR ((pm27 X 17).trans rfl) la st M
theorem c27 (X : aX) (as : List aV) (M : aM) : cl X 27 as M = if cs as ≤ 2 then go X 27 0 (ent 2 as) [] M else none := rfl
theorem pm28 (X : aX) (pc : Nat) : pg X 28 pc = lk pc (tb28 X) := rfl
theorem e28_0 (X : aX) (la : aLs) (st : List aV) (M : aM) : go X 28 0 la st M = kC X 28 (i_lda 0 1 la st M) := evC ((pm28 X 0).trans rfl) la st M
theorem e28_1 (X : aX) (la : aLs) (st : List aV) (M : aM) : go X 28 1 la st M = kC X 28 (i_get 3 2 4 la st M) := evC ((pm28 X 1).trans rfl) la st M
theorem e28_4 (X : aX) (la : aLs) (st : List aV) (M : aM) : go X 28 4 la st M = kC X 28 (i_ci (nI 8) 6 la st M) := evC ((pm28 X 4).trans rfl) la st M
theorem e28_6 (X : aX) (la : aLs) (st : List aV) (M : aM) : go X 28 6 la st M = kC X 28 (i_cml 13 9 la st M) := evC ((pm28 X 6).trans rfl) la st M
theorem e28_9 (X : aX) (la : aLs) (st : List aV) (M : aM) : go X 28 9 la st M = kC X 28 (i_ci (nI 1) 10 la st M) := evC ((pm28 X 9).trans rfl) la st M
theorem e28_10 (X : aX) (la : aLs) (st : List aV) (M : aM) : go X 28 10 la st M = kC X 28 (i_go 14 la st M) := evC ((pm28 X 10).trans rfl) la st M
theorem e28_13 (X : aX) (la : aLs) (st : List aV) (M : aM) : go X 28 13 la st M = kC X 28 (i_ci (nI 0) 14 la st M) := evC ((pm28 X 13).trans rfl) la st M
theorem e28_14 (X : aX) (la : aLs) (st : List aV) (M : aM) : go X 28 14 la st M = i_zrt st M := evR ((pm28 X 14).trans rfl) la st M
theorem c28 (X : aX) (as : List aV) (M : aM) : cl X 28 as M = if cs as ≤ 1 then go X 28 0 (ent 1 as) [] M else none := rfl
theorem pm29 (X : aX) (pc : Nat) : pg X 29 pc = lk pc (tb29 X) := rfl
theorem e29_0 (X : aX) (la : aLs) (st : List aV) (M : aM) : go X 29 0 la st M = kC X 29 (i_lda 0 1 la st M) := evC ((pm29 X 0).trans rfl) la st M
theorem e29_1 (X : aX) (la : aLs) (st : List aV) (M : aM) : go X 29 1 la st M = kK X 29 28 1 4 4 la st M := evK ((pm29 X 1).trans rfl) la st M
theorem e29_4 (X : aX) (la : aLs) (st : List aV) (M : aM) : go X 29 4 la st M = kC X 29 (i_ife 9 7 la st M) := evC ((pm29 X 4).trans rfl) la st M
theorem e29_7 (X : aX) (la : aLs) (st : List aV) (M : aM) : go X 29 7 la st M = kC X 29 (i_ci (-1) 8 la st M) := evC ((pm29 X 7).trans rfl) la st M
theorem e29_8 (X : aX) (la : aLs) (st : List aV) (M : aM) : go X 29 8 la st M = i_irt st M := evR ((pm29 X 8).trans rfl) la st M
theorem e29_9 (X : aX) (la : aLs) (st : List aV) (M : aM) : go X 29 9 la st M = kC X 29 (i_lda 0 10 la st M) := evC ((pm29 X 9).trans rfl) la st M
theorem e29_10 (X : aX) (la : aLs) (st : List aV) (M : aM) : go X 29 10 la st M = kC X 29 (i_get 3 0 13 la st M) := evC ((pm29 X 10).trans rfl) la st M
theorem e29_13 (X : aX) (la : aLs) (st : List aV) (M : aM) : go X 29 13 la st M = kC X 29 (i_lda 0 14 la st M) := evC ((pm29 X 13).trans rfl) la st M
theorem e29_14 (X : aX) (la : aLs) (st : List aV) (M : aM) : go X 29 14 la st M = kC X 29 (i_get 3 2 17 la st M) := evC ((pm29 X 14).trans rfl) la st M
theorem e29_17 (X : aX) (la : aLs) (st : List aV) (M : aM) : go X 29 17 la st M = kC X 29 (i_aal 18 la st M) := evC ((pm29 X 17).trans rfl) la st M
theorem e29_18 (X : aX) (la : aLs) (st : List aV) (M : aM) : go X 29 18 la st M = kK X 29 14 1 21 3 la st M := evK ((pm29 X 18).trans rfl) la st M
theorem e29_21 (X : aX) (la : aLs) (st : List aV) (M : aM) : go X 29 21 la st M = kC X 29 (i_lda 0 22 la st M) := evC ((pm29 X 21).trans rfl) la st M
theorem e29_22 (X : aX) (la : aLs) (st : List aV) (M : aM) : go X 29 22 la st M = kC X 29 (i_get 3 0 25 la st M) := evC ((pm29 X 22).trans rfl) la st M
theorem e29_25 (X : aX) (la : aLs) (st : List aV) (M : aM) : go X 29 25 la st M = kC X 29 (i_lda 0 26 la st M) := evC ((pm29 X 25).trans rfl) la st M
theorem e29_26 (X : aX) (la : aLs) (st : List aV) (M : aM) : go X 29 26 la st M = kC X 29 (i_get 3 2 29 la st M) := evC ((pm29 X 26).trans rfl) la st M
theorem e29_29 (X : aX) (la : aLs) (st : List aV) (M : aM) : go X 29 29 la st M = kC X 29 (i_aal 30 la st M) := evC ((pm29 X 29).trans rfl) la st M
theorem e29_30 (X : aX) (la : aLs) (st : List aV) (M : aM) : go X 29 30 la st M = kC X 29 (i_get 2 0 33 la st M) := evC ((pm29 X 30).trans rfl) la st M
theorem e29_33 (X : aX) (la : aLs) (st : List aV) (M : aM) : go X 29 33 la st M = kC X 29 (i_ci (nI 0) 34 la st M) := evC ((pm29 X 33).trans rfl) la st M
theorem e29_34 (X : aX) (la : aLs) (st : List aV) (M : aM) : go X 29 34 la st M = kC X 29 (i_ldi 1 35 la st M) := evC ((pm29 X 34).trans rfl) la st M
theorem e29_35 (X : aX) (la : aLs) (st : List aV) (M : aM) : go X 29 35 la st M = kC X 29 (i_ias 36 la st M) := evC ((pm29 X 35).trans rfl) la st M
theorem e29_36 (X : aX) (la : aLs) (st : List aV) (M : aM) : go X 29 36 la st M = kC X 29 (i_lda 0 37 la st M) := evC ((pm29 X 36).trans rfl) la st M
theorem e29_37 (X : aX) (la : aLs) (st : List aV) (M : aM) : go X 29 37 la st M = kC X 29 (i_get 3 0 40 la st M) := evC ((pm29 X 37).trans rfl) la st M
theorem e29_40 (X : aX) (la : aLs) (st : List aV) (M : aM) : go X 29 40 la st M = kC X 29 (i_lda 0 41 la st M) := evC ((pm29 X 40).trans rfl) la st M
theorem e29_41 (X : aX) (la : aLs) (st : List aV) (M : aM) : go X 29 41 la st M = kC X 29 (i_get 3 2 44 la st M) := evC ((pm29 X 41).trans rfl) la st M
theorem e29_44 (X : aX) (la : aLs) (st : List aV) (M : aM) : go X 29 44 la st M = kC X 29 (i_aal 45 la st M) := evC ((pm29 X 44).trans rfl) la st M
theorem e29_45 (X : aX) (la : aLs) (st : List aV) (M : aM) : go X 29 45 la st M = kC X 29 (i_get 2 0 48 la st M) := evC ((pm29 X 45).trans rfl) la st M
theorem e29_48 (X : aX) (la : aLs) (st : List aV) (M : aM) : go X 29 48 la st M = kC X 29 (i_ci (nI 1) 49 la st M) := evC ((pm29 X 48).trans rfl) la st M
theorem e29_49 (X : aX) (la : aLs) (st : List aV) (M : aM) : go X 29 49 la st M = kC X 29 (i_ldi 2 50 la st M) := evC ((pm29 X 49).trans rfl) la st M
theorem e29_50 (X : aX) (la : aLs) (st : List aV) (M : aM) : go X 29 50 la st M = kC X 29 (i_ias 51 la st M) := evC ((pm29 X 50).trans rfl) la st M
theorem e29_51 (X : aX) (la : aLs) (st : List aV) (M : aM) : go X 29 51 la st M = kC X 29 (i_lda 0 52 la st M) := evC ((pm29 X 51).trans rfl) la st M
theorem e29_52 (X : aX) (la : aLs) (st : List aV) (M : aM) : go X 29 52 la st M = kC X 29 (i_dup 53 la st M) := evC ((pm29 X 52).trans rfl) la st M
theorem e29_53 (X : aX) (la : aLs) (st : List aV) (M : aM) : go X 29 53 la st M = kC X 29 (i_get 3 2 56 la st M) := evC ((pm29 X 53).trans rfl) la st M
theorem e29_56 (X : aX) (la : aLs) (st : List aV) (M : aM) : go X 29 56 la st M = kC X 29 (i_ci (nI 1) 57 la st M) := evC ((pm29 X 56).trans rfl) la st M
theorem e29_57 (X : aX) (la : aLs) (st : List aV) (M : aM) : go X 29 57 la st M = kC X 29 (i_bin (fun x y => x + y) 58 la st M) := evC ((pm29 X 57).trans rfl) la st M
theorem e29_58 (X : aX) (la : aLs) (st : List aV) (M : aM) : go X 29 58 la st M = kC X 29 (i_put 3 2 0 61 la st M) := evC ((pm29 X 58).trans rfl) la st M
theorem e29_61 (X : aX) (la : aLs) (st : List aV) (M : aM) : go X 29 61 la st M = kC X 29 (i_lda 0 62 la st M) := evC ((pm29 X 61).trans rfl) la st M
theorem e29_62 (X : aX) (la : aLs) (st : List aV) (M : aM) : go X 29 62 la st M = kC X 29 (i_get 3 2 65 la st M) := evC ((pm29 X 62).trans rfl) la st M
theorem e29_65 (X : aX) (la : aLs) (st : List aV) (M : aM) : go X 29 65 la st M = kC X 29 (i_ci (nI 1) 66 la st M) := evC ((pm29 X 65).trans rfl) la st M
theorem e29_66 (X : aX) (la : aLs) (st : List aV) (M : aM) : go X 29 66 la st M = kC X 29 (i_bin (fun x y => x - y) 67 la st M) := evC ((pm29 X 66).trans rfl) la st M
theorem e29_67 (X : aX) (la : aLs) (st : List aV) (M : aM) : go X 29 67 la st M = i_irt st M := evR ((pm29 X 67).trans rfl) la st M
theorem c29 (X : aX) (as : List aV) (M : aM) : cl X 29 as M = if cs as ≤ 3 then go X 29 0 (ent 3 as) [] M else none := rfl
theorem pm30 (X : aX) (pc : Nat) : pg X 30 pc = lk pc (tb30 X) := rfl
theorem e30_0 (X : aX) (la : aLs) (st : List aV) (M : aM) : go X 30 0 la st M = kC X 30 (i_lda 0 1 la st M) := evC ((pm30 X 0).trans rfl) la st M
theorem e30_1 (X : aX) (la : aLs) (st : List aV) (M : aM) : go X 30 1 la st M = kC X 30 (i_ldi 1 2 la st M) := evC ((pm30 X 1).trans rfl) la st M
theorem e30_2 (X : aX) (la : aLs) (st : List aV) (M : aM) : go X 30 2 la st M = kK X 30 27 2 5 4 la st M := evK ((pm30 X 2).trans rfl) la st M
theorem e30_5 (X : aX) (la : aLs) (st : List aV) (M : aM) : go X 30 5 la st M = kC X 30 (i_ife 8 10 la st M) := evC ((pm30 X 5).trans rfl) la st M
theorem e30_8 (X : aX) (la : aLs) (st : List aV) (M : aM) : go X 30 8 la st M = kC X 30 (i_ci (nI 0) 9 la st M) := evC ((pm30 X 8).trans rfl) la st M
theorem e30_9 (X : aX) (la : aLs) (st : List aV) (M : aM) : go X 30 9 la st M = i_irt st M := evR ((pm30 X 9).trans rfl) la st M
theorem e30_10 (X : aX) (la : aLs) (st : List aV) (M : aM) : go X 30 10 la st M = kC X 30 (i_ldi 2 11 la st M) := evC ((pm30 X 10).trans rfl) la st M
theorem e30_11 (X : aX) (la : aLs) (st : List aV) (M : aM) : go X 30 11 la st M = kC X 30 (i_sw [(nI 10, 40), (nI 11, 50), (nI 12, 60), (nI 13, 70)] 80 la st M) := evC ((pm30 X 11).trans rfl) la st M
theorem e30_40 (X : aX) (la : aLs) (st : List aV) (M : aM) : go X 30 40 la st M = kC X 30 (i_lda 0 41 la st M) := evC ((pm30 X 40).trans rfl) la st M
theorem e30_41 (X : aX) (la : aLs) (st : List aV) (M : aM) : go X 30 41 la st M = kC X 30 (i_get 3 0 44 la st M) := evC ((pm30 X 41).trans rfl) la st M
theorem e30_44 (X : aX) (la : aLs) (st : List aV) (M : aM) : go X 30 44 la st M = kC X 30 (i_ldi 1 45 la st M) := evC ((pm30 X 44).trans rfl) la st M
theorem e30_45 (X : aX) (la : aLs) (st : List aV) (M : aM) : go X 30 45 la st M = kC X 30 (i_aal 46 la st M) := evC ((pm30 X 45).trans rfl) la st M
theorem e30_46 (X : aX) (la : aLs) (st : List aV) (M : aM) : go X 30 46 la st M = kK X 30 20 1 49 3 la st M := evK ((pm30 X 46).trans rfl) la st M
theorem e30_49 (X : aX) (la : aLs) (st : List aV) (M : aM) : go X 30 49 la st M = i_irt st M := evR ((pm30 X 49).trans rfl) la st M
theorem e30_50 (X : aX) (la : aLs) (st : List aV) (M : aM) : go X 30 50 la st M = kC X 30 (i_lda 0 51 la st M) := evC ((pm30 X 50).trans rfl) la st M
theorem e30_51 (X : aX) (la : aLs) (st : List aV) (M : aM) : go X 30 51 la st M = kC X 30 (i_get 3 0 54 la st M) := evC ((pm30 X 51).trans rfl) la st M
theorem e30_54 (X : aX) (la : aLs) (st : List aV) (M : aM) : go X 30 54 la st M = kC X 30 (i_ldi 1 55 la st M) := evC ((pm30 X 54).trans rfl) la st M
theorem e30_55 (X : aX) (la : aLs) (st : List aV) (M : aM) : go X 30 55 la st M = kC X 30 (i_aal 56 la st M) := evC ((pm30 X 55).trans rfl) la st M
theorem e30_56 (X : aX) (la : aLs) (st : List aV) (M : aM) : go X 30 56 la st M = kK X 30 21 1 59 3 la st M := evK ((pm30 X 56).trans rfl) la st M
theorem e30_59 (X : aX) (la : aLs) (st : List aV) (M : aM) : go X 30 59 la st M = i_irt st M := evR ((pm30 X 59).trans rfl) la st M
theorem e30_60 (X : aX) (la : aLs) (st : List aV) (M : aM) : go X 30 60 la st M = kC X 30 (i_lda 0 61 la st M) := evC ((pm30 X 60).trans rfl) la st M
theorem e30_61 (X : aX) (la : aLs) (st : List aV) (M : aM) : go X 30 61 la st M = kC X 30 (i_ldi 1 62 la st M) := evC ((pm30 X 61).trans rfl) la st M
theorem e30_62 (X : aX) (la : aLs) (st : List aV) (M : aM) : go X 30 62 la st M = kC X 30 (i_lda 0 63 la st M) := evC ((pm30 X 62).trans rfl) la st M
theorem e30_63 (X : aX) (la : aLs) (st : List aV) (M : aM) : go X 30 63 la st M = kK X 30 35 1 66 4 la st M := evK ((pm30 X 63).trans rfl) la st M
theorem e30_66 (X : aX) (la : aLs) (st : List aV) (M : aM) : go X 30 66 la st M = kK X 30 51 3 69 4 la st M := evK ((pm30 X 66).trans rfl) la st M
theorem e30_69 (X : aX) (la : aLs) (st : List aV) (M : aM) : go X 30 69 la st M = i_irt st M := evR ((pm30 X 69).trans rfl) la st M
theorem e30_70 (X : aX) (la : aLs) (st : List aV) (M : aM) : go X 30 70 la st M = kC X 30 (i_lda 0 71 la st M) := evC ((pm30 X 70).trans rfl) la st M
theorem e30_71 (X : aX) (la : aLs) (st : List aV) (M : aM) : go X 30 71 la st M = kC X 30 (i_get 3 0 74 la st M) := evC ((pm30 X 71).trans rfl) la st M
theorem e30_74 (X : aX) (la : aLs) (st : List aV) (M : aM) : go X 30 74 la st M = kC X 30 (i_ldi 1 75 la st M) := evC ((pm30 X 74).trans rfl) la st M
theorem e30_75 (X : aX) (la : aLs) (st : List aV) (M : aM) : go X 30 75 la st M = kC X 30 (i_aal 76 la st M) := evC ((pm30 X 75).trans rfl) la st M
theorem e30_76 (X : aX) (la : aLs) (st : List aV) (M : aM) : go X 30 76 la st M = kK X 30 23 1 79 3 la st M := evK ((pm30 X 76).trans rfl) la st M
theorem e30_79 (X : aX) (la : aLs) (st : List aV) (M : aM) : go X 30 79 la st M = i_irt st M := evR ((pm30 X 79).trans rfl) la st M
theorem e30_80 (X : aX) (la : aLs) (st : List aV) (M : aM) : go X 30 80 la st M = kC X 30 (i_ldi 2 81 la st M) := evC ((pm30 X 80).trans rfl) la st M
theorem e30_81 (X : aX) (la : aLs) (st : List aV) (M : aM) : go X 30 81 la st M = kC X 30 (i_ci (nI 0) 82 la st M) := evC ((pm30 X 81).trans rfl) la st M
theorem e30_82 (X : aX) (la : aLs) (st : List aV) (M : aM) : go X 30 82 la st M = kC X 30 (i_ci (nI 9) 84 la st M) := evC ((pm30 X 82).trans rfl) la st M
theorem e30_84 (X : aX) (la : aLs) (st : List aV) (M : aM) : go X 30 84 la st M = kK X 30 102 3 87 0 la st M := evK ((pm30 X 84).trans rfl) la st M
theorem e30_87 (X : aX) (la : aLs) (st : List aV) (M : aM) : go X 30 87 la st M = kC X 30 (i_ife 104 90 la st M) := evC ((pm30 X 87).trans rfl) la st M
theorem e30_90 (X : aX) (la : aLs) (st : List aV) (M : aM) : go X 30 90 la st M = kC X 30 (i_lda 0 91 la st M) := evC ((pm30 X 90).trans rfl) la st M
theorem e30_91 (X : aX) (la : aLs) (st : List aV) (M : aM) : go X 30 91 la st M = kC X 30 (i_get 3 0 94 la st M) := evC ((pm30 X 91).trans rfl) la st M
theorem e30_94 (X : aX) (la : aLs) (st : List aV) (M : aM) : go X 30 94 la st M = kC X 30 (i_ldi 1 95 la st M) := evC ((pm30 X 94).trans rfl) la st M
theorem e30_95 (X : aX) (la : aLs) (st : List aV) (M : aM) : go X 30 95 la st M = kC X 30 (i_aal 96 la st M) := evC ((pm30 X 95).trans rfl) la st M
theorem e30_96 (X : aX) (la : aLs) (st : List aV) (M : aM) : go X 30 96 la st M = kC X 30 (i_get 2 0 99 la st M) := evC ((pm30 X 96).trans rfl) la st M
theorem e30_99 (X : aX) (la : aLs) (st : List aV) (M : aM) : go X 30 99 la st M = kC X 30 (i_ldi 2 100 la st M) := evC ((pm30 X 99).trans rfl) la st M
theorem e30_100 (X : aX) (la : aLs) (st : List aV) (M : aM) : go X 30 100 la st M = kC X 30 (i_ial X 101 la st M) := evC ((pm30 X 100).trans rfl) la st M
theorem e30_101 (X : aX) (la : aLs) (st : List aV) (M : aM) : go X 30 101 la st M = kC X 30 (i_go 105 la st M) := evC ((pm30 X 101).trans rfl) la st M
theorem e30_104 (X : aX) (la : aLs) (st : List aV) (M : aM) : go X 30 104 la st M = kC X 30 (i_ci (nI 0) 105 la st M) := evC ((pm30 X 104).trans rfl) la st M
theorem e30_105 (X : aX) (la : aLs) (st : List aV) (M : aM) : go X 30 105 la st M = i_irt st M := evR ((pm30 X 105).trans rfl) la st M
theorem c30 (X : aX) (as : List aV) (M : aM) : cl X 30 as M = if cs as ≤ 3 then go X 30 0 (ent 3 as) [] M else none := rfl
theorem pm31 (X : aX) (pc : Nat) : pg X 31 pc = lk pc (tb31 X) := rfl
theorem e31_0 (X : aX) (la : aLs) (st : List aV) (M : aM) : go X 31 0 la st M = kC X 31 (i_ldi 2 1 la st M) := evC ((pm31 X 0).trans rfl) la st M
theorem e31_1 (X : aX) (la : aLs) (st : List aV) (M : aM) : go X 31 1 la st M = kC X 31 (i_ldi 3 2 la st M) := evC ((pm31 X 1).trans rfl) la st M
theorem e31_2 (X : aX) (la : aLs) (st : List aV) (M : aM) : go X 31 2 la st M = kK X 31 16 2 5 0 la st M := evK ((pm31 X 2).trans rfl) la st M
theorem e31_5 (X : aX) (la : aLs) (st : List aV) (M : aM) : go X 31 5 la st M = kC X 31 (i_ife 8 10 la st M) := evC ((pm31 X 5).trans rfl) la st M
theorem e31_8 (X : aX) (la : aLs) (st : List aV) (M : aM) : go X 31 8 la st M = kC X 31 (i_ci (nI 0) 9 la st M) := evC ((pm31 X 8).trans rfl) la st M
theorem e31_9 (X : aX) (la : aLs) (st : List aV) (M : aM) : go X 31 9 la st M = i_zrt st M := evR ((pm31 X 9).trans rfl) la st M
theorem e31_10 (X : aX) (la : aLs) (st : List aV) (M : aM) : go X 31 10 la st M = kC X 31 (i_ldi 2 11 la st M) := evC ((pm31 X 10).trans rfl) la st M
theorem e31_11 (X : aX) (la : aLs) (st : List aV) (M : aM) : go X 31 11 la st M = kC X 31 (i_ci (nI 2) 12 la st M) := evC ((pm31 X 11).trans rfl) la st M
theorem e31_12 (X : aX) (la : aLs) (st : List aV) (M : aM) : go X 31 12 la st M = kC X 31 (i_cme 15 33 la st M) := evC ((pm31 X 12).trans rfl) la st M
theorem e31_15 (X : aX) (la : aLs) (st : List aV) (M : aM) : go X 31 15 la st M = kC X 31 (i_ldi 3 16 la st M) := evC ((pm31 X 15).trans rfl) la st M
theorem e31_16 (X : aX) (la : aLs) (st : List aV) (M : aM) : go X 31 16 la st M = kC X 31 (i_ci (-1) 17 la st M) := evC ((pm31 X 16).trans rfl) la st M
theorem e31_17 (X : aX) (la : aLs) (st : List aV) (M : aM) : go X 31 17 la st M = kC X 31 (i_cme 33 20 la st M) := evC ((pm31 X 17).trans rfl) la st M
theorem e31_20 (X : aX) (la : aLs) (st : List aV) (M : aM) : go X 31 20 la st M = kC X 31 (i_lda 0 21 la st M) := evC ((pm31 X 20).trans rfl) la st M
theorem e31_21 (X : aX) (la : aLs) (st : List aV) (M : aM) : go X 31 21 la st M = kC X 31 (i_ldi 3 22 la st M) := evC ((pm31 X 21).trans rfl) la st M
theorem e31_22 (X : aX) (la : aLs) (st : List aV) (M : aM) : go X 31 22 la st M = kK X 31 27 2 25 4 la st M := evK ((pm31 X 22).trans rfl) la st M
theorem e31_25 (X : aX) (la : aLs) (st : List aV) (M : aM) : go X 31 25 la st M = kC X 31 (i_ife 37 28 la st M) := evC ((pm31 X 25).trans rfl) la st M
theorem e31_28 (X : aX) (la : aLs) (st : List aV) (M : aM) : go X 31 28 la st M = kC X 31 (i_ldi 3 29 la st M) := evC ((pm31 X 28).trans rfl) la st M
theorem e31_29 (X : aX) (la : aLs) (st : List aV) (M : aM) : go X 31 29 la st M = kC X 31 (i_ldi 1 30 la st M) := evC ((pm31 X 29).trans rfl) la st M
theorem e31_30 (X : aX) (la : aLs) (st : List aV) (M : aM) : go X 31 30 la st M = kC X 31 (i_cme 37 33 la st M) := evC ((pm31 X 30).trans rfl) la st M
theorem e31_33 (X : aX) (la : aLs) (st : List aV) (M : aM) : go X 31 33 la st M = kC X 31 (i_ci (nI 1) 34 la st M) := evC ((pm31 X 33).trans rfl) la st M
theorem e31_34 (X : aX) (la : aLs) (st : List aV) (M : aM) : go X 31 34 la st M = kC X 31 (i_go 38 la st M) := evC ((pm31 X 34).trans rfl) la st M
theorem e31_37 (X : aX) (la : aLs) (st : List aV) (M : aM) : go X 31 37 la st M = kC X 31 (i_ci (nI 0) 38 la st M) := evC ((pm31 X 37).trans rfl) la st M
theorem e31_38 (X : aX) (la : aLs) (st : List aV) (M : aM) : go X 31 38 la st M = i_zrt st M := evR ((pm31 X 38).trans rfl) la st M
theorem c31 (X : aX) (as : List aV) (M : aM) : cl X 31 as M = if cs as ≤ 4 then go X 31 0 (ent 4 as) [] M else none := rfl
theorem pm32 (X : aX) (pc : Nat) : pg X 32 pc = lk pc (tb32 X) := rfl
theorem e32_0 (X : aX) (la : aLs) (st : List aV) (M : aM) : go X 32 0 la st M = kC X 32 (i_lda 0 1 la st M) := evC ((pm32 X 0).trans rfl) la st M
theorem e32_1 (X : aX) (la : aLs) (st : List aV) (M : aM) : go X 32 1 la st M = kC X 32 (i_ldi 1 2 la st M) := evC ((pm32 X 1).trans rfl) la st M
theorem e32_2 (X : aX) (la : aLs) (st : List aV) (M : aM) : go X 32 2 la st M = kK X 32 27 2 5 4 la st M := evK ((pm32 X 2).trans rfl) la st M
theorem e32_5 (X : aX) (la : aLs) (st : List aV) (M : aM) : go X 32 5 la st M = kC X 32 (i_ife 30 8 la st M) := evC ((pm32 X 5).trans rfl) la st M
theorem e32_8 (X : aX) (la : aLs) (st : List aV) (M : aM) : go X 32 8 la st M = kC X 32 (i_ldi 2 9 la st M) := evC ((pm32 X 8).trans rfl) la st M
theorem e32_9 (X : aX) (la : aLs) (st : List aV) (M : aM) : go X 32 9 la st M = kC X 32 (i_ci (nI 0) 10 la st M) := evC ((pm32 X 9).trans rfl) la st M
theorem e32_10 (X : aX) (la : aLs) (st : List aV) (M : aM) : go X 32 10 la st M = kC X 32 (i_ci (nI 9) 12 la st M) := evC ((pm32 X 10).trans rfl) la st M
theorem e32_12 (X : aX) (la : aLs) (st : List aV) (M : aM) : go X 32 12 la st M = kK X 32 102 3 15 0 la st M := evK ((pm32 X 12).trans rfl) la st M
theorem e32_15 (X : aX) (la : aLs) (st : List aV) (M : aM) : go X 32 15 la st M = kC X 32 (i_ife 30 18 la st M) := evC ((pm32 X 15).trans rfl) la st M
theorem e32_18 (X : aX) (la : aLs) (st : List aV) (M : aM) : go X 32 18 la st M = kC X 32 (i_lda 0 19 la st M) := evC ((pm32 X 18).trans rfl) la st M
theorem e32_19 (X : aX) (la : aLs) (st : List aV) (M : aM) : go X 32 19 la st M = kC X 32 (i_get 3 0 22 la st M) := evC ((pm32 X 19).trans rfl) la st M
theorem e32_22 (X : aX) (la : aLs) (st : List aV) (M : aM) : go X 32 22 la st M = kC X 32 (i_ldi 1 23 la st M) := evC ((pm32 X 22).trans rfl) la st M
theorem e32_23 (X : aX) (la : aLs) (st : List aV) (M : aM) : go X 32 23 la st M = kC X 32 (i_aal 24 la st M) := evC ((pm32 X 23).trans rfl) la st M
theorem e32_24 (X : aX) (la : aLs) (st : List aV) (M : aM) : go X 32 24 la st M = kC X 32 (i_get 2 0 27 la st M) := evC ((pm32 X 24).trans rfl) la st M
theorem e32_27 (X : aX) (la : aLs) (st : List aV) (M : aM) : go X 32 27 la st M = kC X 32 (i_ldi 2 28 la st M) := evC ((pm32 X 27).trans rfl) la st M
theorem e32_28 (X : aX) (la : aLs) (st : List aV) (M : aM) : go X 32 28 la st M = kC X 32 (i_ldi 3 29 la st M) := evC ((pm32 X 28).trans rfl) la st M
theorem e32_29 (X : aX) (la : aLs) (st : List aV) (M : aM) : go X 32 29 la st M = kC X 32 (i_ias 30 la st M) := evC ((pm32 X 29).trans rfl) la st M
theorem e32_30 (X : aX) (la : aLs) (st : List aV) (M : aM) : go X 32 30 la st M = i_vrt st M := evR ((pm32 X 30).trans rfl) la st M
theorem c32 (X : aX) (as : List aV) (M : aM) : cl X 32 as M = if cs as ≤ 4 then go X 32 0 (ent 4 as) [] M else none := rfl
theorem pm33 (X : aX) (pc : Nat) : pg X 33 pc = lk pc (tb33 X) := rfl
theorem e33_0 (X : aX) (la : aLs) (st : List aV) (M : aM) : go X 33 0 la st M = kC X 33 (i_lda 0 1 la st M) := evC ((pm33 X 0).trans rfl) la st M
theorem e33_1 (X : aX) (la : aLs) (st : List aV) (M : aM) : go X 33 1 la st M = kC X 33 (i_ldi 1 2 la st M) := evC ((pm33 X 1).trans rfl) la st M
theorem e33_2 (X : aX) (la : aLs) (st : List aV) (M : aM) : go X 33 2 la st M = kK X 33 27 2 5 4 la st M := evK ((pm33 X 2).trans rfl) la st M
theorem e33_5 (X : aX) (la : aLs) (st : List aV) (M : aM) : go X 33 5 la st M = kC X 33 (i_ife 17 8 la st M) := evC ((pm33 X 5).trans rfl) la st M
theorem e33_8 (X : aX) (la : aLs) (st : List aV) (M : aM) : go X 33 8 la st M = kC X 33 (i_lda 0 9 la st M) := evC ((pm33 X 8).trans rfl) la st M
theorem e33_9 (X : aX) (la : aLs) (st : List aV) (M : aM) : go X 33 9 la st M = kC X 33 (i_get 3 0 12 la st M) := evC ((pm33 X 9).trans rfl) la st M
theorem e33_12 (X : aX) (la : aLs) (st : List aV) (M : aM) : go X 33 12 la st M = kC X 33 (i_ldi 1 13 la st M) := evC ((pm33 X 12).trans rfl) la st M
theorem e33_13 (X : aX) (la : aLs) (st : List aV) (M : aM) : go X 33 13 la st M = kC X 33 (i_aal 14 la st M) := evC ((pm33 X 13).trans rfl) la st M
theorem e33_14 (X : aX) (la : aLs) (st : List aV) (M : aM) : go X 33 14 la st M = kK X 33 19 1 17 3 la st M := evK ((pm33 X 14).trans rfl) la st M
theorem e33_17 (X : aX) (la : aLs) (st : List aV) (M : aM) : go X 33 17 la st M = i_vrt st M := evR ((pm33 X 17).trans rfl) la st M
theorem c33 (X : aX) (as : List aV) (M : aM) : cl X 33 as M = if cs as ≤ 2 then go X 33 0 (ent 2 as) [] M else none := rfl
theorem pm34 (X : aX) (pc : Nat) : pg X 34 pc = lk pc (tb34 X) := rfl
theorem e34_0 (X : aX) (la : aLs) (st : List aV) (M : aM) : go X 34 0 la st M = kC X 34 (i_ci (nI 0) 1 la st M) := evC ((pm34 X 0).trans rfl) la st M
theorem e34_1 (X : aX) (la : aLs) (st : List aV) (M : aM) : go X 34 1 la st M = kC X 34 (i_sti 2 2 la st M) := evC ((pm34 X 1).trans rfl) la st M
theorem e34_2 (X : aX) (la : aLs) (st : List aV) (M : aM) : go X 34 2 la st M = kC X 34 (i_ldi 2 3 la st M) := evC ((pm34 X 2).trans rfl) la st M
theorem e34_3 (X : aX) (la : aLs) (st : List aV) (M : aM) : go X 34 3 la st M = kC X 34 (i_lda 0 4 la st M) := evC ((pm34 X 3).trans rfl) la st M
theorem e34_4 (X : aX) (la : aLs) (st : List aV) (M : aM) : go X 34 4 la st M = kC X 34 (i_get 3 2 7 la st M) := evC ((pm34 X 4).trans rfl) la st M
theorem e34_7 (X : aX) (la : aLs) (st : List aV) (M : aM) : go X 34 7 la st M = kC X 34 (i_cml 10 37 la st M) := evC ((pm34 X 7).trans rfl) la st M
theorem e34_10 (X : aX) (la : aLs) (st : List aV) (M : aM) : go X 34 10 la st M = kC X 34 (i_ldi 1 11 la st M) := evC ((pm34 X 10).trans rfl) la st M
theorem e34_11 (X : aX) (la : aLs) (st : List aV) (M : aM) : go X 34 11 la st M = kC X 34 (i_ldi 2 12 la st M) := evC ((pm34 X 11).trans rfl) la st M
theorem e34_12 (X : aX) (la : aLs) (st : List aV) (M : aM) : go X 34 12 la st M = kC X 34 (i_bin (fun x y => x >>> (y &&& 31)) 13 la st M) := evC ((pm34 X 12).trans rfl) la st M
theorem e34_13 (X : aX) (la : aLs) (st : List aV) (M : aM) : go X 34 13 la st M = kC X 34 (i_ci (nI 1) 14 la st M) := evC ((pm34 X 13).trans rfl) la st M
theorem e34_14 (X : aX) (la : aLs) (st : List aV) (M : aM) : go X 34 14 la st M = kC X 34 (i_bin (fun x y => x &&& y) 15 la st M) := evC ((pm34 X 14).trans rfl) la st M
theorem e34_15 (X : aX) (la : aLs) (st : List aV) (M : aM) : go X 34 15 la st M = kC X 34 (i_ife 31 18 la st M) := evC ((pm34 X 15).trans rfl) la st M
theorem e34_18 (X : aX) (la : aLs) (st : List aV) (M : aM) : go X 34 18 la st M = kC X 34 (i_lda 0 19 la st M) := evC ((pm34 X 18).trans rfl) la st M
theorem e34_19 (X : aX) (la : aLs) (st : List aV) (M : aM) : go X 34 19 la st M = kC X 34 (i_get 3 0 22 la st M) := evC ((pm34 X 19).trans rfl) la st M
theorem e34_22 (X : aX) (la : aLs) (st : List aV) (M : aM) : go X 34 22 la st M = kC X 34 (i_ldi 2 23 la st M) := evC ((pm34 X 22).trans rfl) la st M
theorem e34_23 (X : aX) (la : aLs) (st : List aV) (M : aM) : go X 34 23 la st M = kC X 34 (i_aal 24 la st M) := evC ((pm34 X 23).trans rfl) la st M
theorem e34_24 (X : aX) (la : aLs) (st : List aV) (M : aM) : go X 34 24 la st M = kC X 34 (i_get 2 0 27 la st M) := evC ((pm34 X 24).trans rfl) la st M
theorem e34_27 (X : aX) (la : aLs) (st : List aV) (M : aM) : go X 34 27 la st M = kC X 34 (i_ci (nI 6) 29 la st M) := evC ((pm34 X 27).trans rfl) la st M
theorem e34_29 (X : aX) (la : aLs) (st : List aV) (M : aM) : go X 34 29 la st M = kC X 34 (i_ci (nI 1) 30 la st M) := evC ((pm34 X 29).trans rfl) la st M
theorem e34_30 (X : aX) (la : aLs) (st : List aV) (M : aM) : go X 34 30 la st M = kC X 34 (i_ias 31 la st M) := evC ((pm34 X 30).trans rfl) la st M
theorem e34_31 (X : aX) (la : aLs) (st : List aV) (M : aM) : go X 34 31 la st M = kC X 34 (i_inc 2 (nI 1) 34 la st M) := evC ((pm34 X 31).trans rfl) la st M
theorem e34_34 (X : aX) (la : aLs) (st : List aV) (M : aM) : go X 34 34 la st M = kC X 34 (i_go 2 la st M) := evC ((pm34 X 34).trans rfl) la st M
theorem e34_37 (X : aX) (la : aLs) (st : List aV) (M : aM) : go X 34 37 la st M = i_vrt st M := evR ((pm34 X 37).trans rfl) la st M
theorem c34 (X : aX) (as : List aV) (M : aM) : cl X 34 as M = if cs as ≤ 3 then go X 34 0 (ent 3 as) [] M else none := rfl
theorem pm35 (X : aX) (pc : Nat) : pg X 35 pc = lk pc (tb35 X) := rfl
theorem e35_0 (X : aX) (la : aLs) (st : List aV) (M : aM) : go X 35 0 la st M = kC X 35 (i_ci (nI 0) 1 la st M) := evC ((pm35 X 0).trans rfl) la st M
theorem e35_1 (X : aX) (la : aLs) (st : List aV) (M : aM) : go X 35 1 la st M = kC X 35 (i_sti 1 2 la st M) := evC ((pm35 X 1).trans rfl) la st M
theorem e35_2 (X : aX) (la : aLs) (st : List aV) (M : aM) : go X 35 2 la st M = kC X 35 (i_ci (nI 0) 3 la st M) := evC ((pm35 X 2).trans rfl) la st M
theorem e35_3 (X : aX) (la : aLs) (st : List aV) (M : aM) : go X 35 3 la st M = kC X 35 (i_sti 2 4 la st M) := evC ((pm35 X 3).trans rfl) la st M
theorem e35_4 (X : aX) (la : aLs) (st : List aV) (M : aM) : go X 35 4 la st M = kC X 35 (i_ldi 2 5 la st M) := evC ((pm35 X 4).trans rfl) la st M
theorem e35_5 (X : aX) (la : aLs) (st : List aV) (M : aM) : go X 35 5 la st M = kC X 35 (i_lda 0 6 la st M) := evC ((pm35 X 5).trans rfl) la st M
theorem e35_6 (X : aX) (la : aLs) (st : List aV) (M : aM) : go X 35 6 la st M = kC X 35 (i_get 3 2 9 la st M) := evC ((pm35 X 6).trans rfl) la st M
theorem e35_9 (X : aX) (la : aLs) (st : List aV) (M : aM) : go X 35 9 la st M = kC X 35 (i_cml 12 36 la st M) := evC ((pm35 X 9).trans rfl) la st M
theorem e35_12 (X : aX) (la : aLs) (st : List aV) (M : aM) : go X 35 12 la st M = kC X 35 (i_lda 0 13 la st M) := evC ((pm35 X 12).trans rfl) la st M
theorem e35_13 (X : aX) (la : aLs) (st : List aV) (M : aM) : go X 35 13 la st M = kC X 35 (i_get 3 0 16 la st M) := evC ((pm35 X 13).trans rfl) la st M
theorem e35_16 (X : aX) (la : aLs) (st : List aV) (M : aM) : go X 35 16 la st M = kC X 35 (i_ldi 2 17 la st M) := evC ((pm35 X 16).trans rfl) la st M
theorem e35_17 (X : aX) (la : aLs) (st : List aV) (M : aM) : go X 35 17 la st M = kC X 35 (i_aal 18 la st M) := evC ((pm35 X 17).trans rfl) la st M
theorem e35_18 (X : aX) (la : aLs) (st : List aV) (M : aM) : go X 35 18 la st M = kK X 35 18 1 21 3 la st M := evK ((pm35 X 18).trans rfl) la st M
theorem e35_21 (X : aX) (la : aLs) (st : List aV) (M : aM) : go X 35 21 la st M = kC X 35 (i_ife 30 24 la st M) := evC ((pm35 X 21).trans rfl) la st M
theorem e35_24 (X : aX) (la : aLs) (st : List aV) (M : aM) : go X 35 24 la st M = kC X 35 (i_ldi 1 25 la st M) := evC ((pm35 X 24).trans rfl) la st M
theorem e35_25 (X : aX) (la : aLs) (st : List aV) (M : aM) : go X 35 25 la st M = kC X 35 (i_ci (nI 1) 26 la st M) := evC ((pm35 X 25).trans rfl) la st M
theorem e35_26 (X : aX) (la : aLs) (st : List aV) (M : aM) : go X 35 26 la st M = kC X 35 (i_ldi 2 27 la st M) := evC ((pm35 X 26).trans rfl) la st M
theorem e35_27 (X : aX) (la : aLs) (st : List aV) (M : aM) : go X 35 27 la st M = kC X 35 (i_bin (fun x y => x <<< (y &&& 31)) 28 la st M) := evC ((pm35 X 27).trans rfl) la st M
theorem e35_28 (X : aX) (la : aLs) (st : List aV) (M : aM) : go X 35 28 la st M = kC X 35 (i_bin (fun x y => x ||| y) 29 la st M) := evC ((pm35 X 28).trans rfl) la st M
theorem e35_29 (X : aX) (la : aLs) (st : List aV) (M : aM) : go X 35 29 la st M = kC X 35 (i_sti 1 30 la st M) := evC ((pm35 X 29).trans rfl) la st M
theorem e35_30 (X : aX) (la : aLs) (st : List aV) (M : aM) : go X 35 30 la st M = kC X 35 (i_inc 2 (nI 1) 33 la st M) := evC ((pm35 X 30).trans rfl) la st M
theorem e35_33 (X : aX) (la : aLs) (st : List aV) (M : aM) : go X 35 33 la st M = kC X 35 (i_go 4 la st M) := evC ((pm35 X 33).trans rfl) la st M
theorem e35_36 (X : aX) (la : aLs) (st : List aV) (M : aM) : go X 35 36 la st M = kC X 35 (i_ldi 1 37 la st M) := evC ((pm35 X 36).trans rfl) la st M
theorem e35_37 (X : aX) (la : aLs) (st : List aV) (M : aM) : go X 35 37 la st M = i_irt st M := evR ((pm35 X 37).trans rfl) la st M
theorem c35 (X : aX) (as : List aV) (M : aM) : cl X 35 as M = if cs as ≤ 3 then go X 35 0 (ent 3 as) [] M else none := rfl
theorem pm36 (X : aX) (pc : Nat) : pg X 36 pc = lk pc (tb36 X) := rfl
theorem e36_0 (X : aX) (la : aLs) (st : List aV) (M : aM) : go X 36 0 la st M = kC X 36 (i_ci (nI 0) 1 la st M) := evC ((pm36 X 0).trans rfl) la st M
theorem e36_1 (X : aX) (la : aLs) (st : List aV) (M : aM) : go X 36 1 la st M = kC X 36 (i_sti 1 2 la st M) := evC ((pm36 X 1).trans rfl) la st M
theorem e36_2 (X : aX) (la : aLs) (st : List aV) (M : aM) : go X 36 2 la st M = kC X 36 (i_ci (nI 0) 3 la st M) := evC ((pm36 X 2).trans rfl) la st M
theorem e36_3 (X : aX) (la : aLs) (st : List aV) (M : aM) : go X 36 3 la st M = kC X 36 (i_sti 2 4 la st M) := evC ((pm36 X 3).trans rfl) la st M
theorem e36_4 (X : aX) (la : aLs) (st : List aV) (M : aM) : go X 36 4 la st M = kC X 36 (i_ldi 2 5 la st M) := evC ((pm36 X 4).trans rfl) la st M
theorem e36_5 (X : aX) (la : aLs) (st : List aV) (M : aM) : go X 36 5 la st M = kC X 36 (i_lda 0 6 la st M) := evC ((pm36 X 5).trans rfl) la st M
theorem e36_6 (X : aX) (la : aLs) (st : List aV) (M : aM) : go X 36 6 la st M = kC X 36 (i_get 3 2 9 la st M) := evC ((pm36 X 6).trans rfl) la st M
theorem e36_9 (X : aX) (la : aLs) (st : List aV) (M : aM) : go X 36 9 la st M = kC X 36 (i_cml 12 54 la st M) := evC ((pm36 X 9).trans rfl) la st M
theorem e36_12 (X : aX) (la : aLs) (st : List aV) (M : aM) : go X 36 12 la st M = kC X 36 (i_lda 0 13 la st M) := evC ((pm36 X 12).trans rfl) la st M
theorem e36_13 (X : aX) (la : aLs) (st : List aV) (M : aM) : go X 36 13 la st M = kC X 36 (i_get 3 0 16 la st M) := evC ((pm36 X 13).trans rfl) la st M
theorem e36_16 (X : aX) (la : aLs) (st : List aV) (M : aM) : go X 36 16 la st M = kC X 36 (i_ldi 2 17 la st M) := evC ((pm36 X 16).trans rfl) la st M
theorem e36_17 (X : aX) (la : aLs) (st : List aV) (M : aM) : go X 36 17 la st M = kC X 36 (i_aal 18 la st M) := evC ((pm36 X 17).trans rfl) la st M
theorem e36_18 (X : aX) (la : aLs) (st : List aV) (M : aM) : go X 36 18 la st M = kC X 36 (i_get 2 0 21 la st M) := evC ((pm36 X 18).trans rfl) la st M
theorem e36_21 (X : aX) (la : aLs) (st : List aV) (M : aM) : go X 36 21 la st M = kC X 36 (i_ci (nI 8) 23 la st M) := evC ((pm36 X 21).trans rfl) la st M
theorem e36_23 (X : aX) (la : aLs) (st : List aV) (M : aM) : go X 36 23 la st M = kC X 36 (i_ial X 24 la st M) := evC ((pm36 X 23).trans rfl) la st M
theorem e36_24 (X : aX) (la : aLs) (st : List aV) (M : aM) : go X 36 24 la st M = kC X 36 (i_ifg 27 48 la st M) := evC ((pm36 X 24).trans rfl) la st M
theorem e36_27 (X : aX) (la : aLs) (st : List aV) (M : aM) : go X 36 27 la st M = kC X 36 (i_lda 0 28 la st M) := evC ((pm36 X 27).trans rfl) la st M
theorem e36_28 (X : aX) (la : aLs) (st : List aV) (M : aM) : go X 36 28 la st M = kC X 36 (i_get 3 0 31 la st M) := evC ((pm36 X 28).trans rfl) la st M
theorem e36_31 (X : aX) (la : aLs) (st : List aV) (M : aM) : go X 36 31 la st M = kC X 36 (i_ldi 2 32 la st M) := evC ((pm36 X 31).trans rfl) la st M
theorem e36_32 (X : aX) (la : aLs) (st : List aV) (M : aM) : go X 36 32 la st M = kC X 36 (i_aal 33 la st M) := evC ((pm36 X 32).trans rfl) la st M
theorem e36_33 (X : aX) (la : aLs) (st : List aV) (M : aM) : go X 36 33 la st M = kC X 36 (i_get 2 0 36 la st M) := evC ((pm36 X 33).trans rfl) la st M
theorem e36_36 (X : aX) (la : aLs) (st : List aV) (M : aM) : go X 36 36 la st M = kC X 36 (i_ci (nI 6) 38 la st M) := evC ((pm36 X 36).trans rfl) la st M
theorem e36_38 (X : aX) (la : aLs) (st : List aV) (M : aM) : go X 36 38 la st M = kC X 36 (i_ial X 39 la st M) := evC ((pm36 X 38).trans rfl) la st M
theorem e36_39 (X : aX) (la : aLs) (st : List aV) (M : aM) : go X 36 39 la st M = kC X 36 (i_ife 42 48 la st M) := evC ((pm36 X 39).trans rfl) la st M
theorem e36_42 (X : aX) (la : aLs) (st : List aV) (M : aM) : go X 36 42 la st M = kC X 36 (i_ldi 1 43 la st M) := evC ((pm36 X 42).trans rfl) la st M
theorem e36_43 (X : aX) (la : aLs) (st : List aV) (M : aM) : go X 36 43 la st M = kC X 36 (i_ci (nI 1) 44 la st M) := evC ((pm36 X 43).trans rfl) la st M
theorem e36_44 (X : aX) (la : aLs) (st : List aV) (M : aM) : go X 36 44 la st M = kC X 36 (i_ldi 2 45 la st M) := evC ((pm36 X 44).trans rfl) la st M
theorem e36_45 (X : aX) (la : aLs) (st : List aV) (M : aM) : go X 36 45 la st M = kC X 36 (i_bin (fun x y => x <<< (y &&& 31)) 46 la st M) := evC ((pm36 X 45).trans rfl) la st M
theorem e36_46 (X : aX) (la : aLs) (st : List aV) (M : aM) : go X 36 46 la st M = kC X 36 (i_bin (fun x y => x ||| y) 47 la st M) := evC ((pm36 X 46).trans rfl) la st M
theorem e36_47 (X : aX) (la : aLs) (st : List aV) (M : aM) : go X 36 47 la st M = kC X 36 (i_sti 1 48 la st M) := evC ((pm36 X 47).trans rfl) la st M
theorem e36_48 (X : aX) (la : aLs) (st : List aV) (M : aM) : go X 36 48 la st M = kC X 36 (i_inc 2 (nI 1) 51 la st M) := evC ((pm36 X 48).trans rfl) la st M
theorem e36_51 (X : aX) (la : aLs) (st : List aV) (M : aM) : go X 36 51 la st M = kC X 36 (i_go 4 la st M) := evC ((pm36 X 51).trans rfl) la st M
theorem e36_54 (X : aX) (la : aLs) (st : List aV) (M : aM) : go X 36 54 la st M = kC X 36 (i_ldi 1 55 la st M) := evC ((pm36 X 54).trans rfl) la st M
theorem e36_55 (X : aX) (la : aLs) (st : List aV) (M : aM) : go X 36 55 la st M = i_irt st M := evR ((pm36 X 55).trans rfl) la st M
theorem c36 (X : aX) (as : List aV) (M : aM) : cl X 36 as M = if cs as ≤ 3 then go X 36 0 (ent 3 as) [] M else none := rfl
theorem pm37 (X : aX) (pc : Nat) : pg X 37 pc = lk pc (tb37 X) := rfl
theorem e37_0 (X : aX) (la : aLs) (st : List aV) (M : aM) : go X 37 0 la st M = kC X 37 (i_lda 0 1 la st M) := evC ((pm37 X 0).trans rfl) la st M
theorem e37_1 (X : aX) (la : aLs) (st : List aV) (M : aM) : go X 37 1 la st M = kC X 37 (i_ci (nI 6) 3 la st M) := evC ((pm37 X 1).trans rfl) la st M
theorem e37_3 (X : aX) (la : aLs) (st : List aV) (M : aM) : go X 37 3 la st M = kC X 37 (i_ci (nI 1) 4 la st M) := evC ((pm37 X 3).trans rfl) la st M
theorem e37_4 (X : aX) (la : aLs) (st : List aV) (M : aM) : go X 37 4 la st M = kK X 37 39 3 7 4 la st M := evK ((pm37 X 4).trans rfl) la st M
theorem e37_7 (X : aX) (la : aLs) (st : List aV) (M : aM) : go X 37 7 la st M = i_irt st M := evR ((pm37 X 7).trans rfl) la st M
theorem c37 (X : aX) (as : List aV) (M : aM) : cl X 37 as M = if cs as ≤ 1 then go X 37 0 (ent 1 as) [] M else none := rfl
theorem pm38 (X : aX) (pc : Nat) : pg X 38 pc = lk pc (tb38 X) := rfl
theorem e38_0 (X : aX) (la : aLs) (st : List aV) (M : aM) : go X 38 0 la st M = kC X 38 (i_lda 0 1 la st M) := evC ((pm38 X 0).trans rfl) la st M
theorem e38_1 (X : aX) (la : aLs) (st : List aV) (M : aM) : go X 38 1 la st M = kC X 38 (i_ci (nI 2) 2 la st M) := evC ((pm38 X 1).trans rfl) la st M
theorem e38_2 (X : aX) (la : aLs) (st : List aV) (M : aM) : go X 38 2 la st M = kC X 38 (i_ldi 1 3 la st M) := evC ((pm38 X 2).trans rfl) la st M
theorem e38_3 (X : aX) (la : aLs) (st : List aV) (M : aM) : go X 38 3 la st M = kK X 38 39 3 6 4 la st M := evK ((pm38 X 3).trans rfl) la st M
theorem e38_6 (X : aX) (la : aLs) (st : List aV) (M : aM) : go X 38 6 la st M = i_irt st M := evR ((pm38 X 6).trans rfl) la st M
theorem c38 (X : aX) (as : List aV) (M : aM) : cl X 38 as M = if cs as ≤ 2 then go X 38 0 (ent 2 as) [] M else none := rfl
theorem pm39 (X : aX) (pc : Nat) : pg X 39 pc = lk pc (tb39 X) := rfl
theorem e39_0 (X : aX) (la : aLs) (st : List aV) (M : aM) : go X 39 0 la st M = kC X 39 (i_ci (nI 0) 1 la st M) := evC ((pm39 X 0).trans rfl) la st M
theorem e39_1 (X : aX) (la : aLs) (st : List aV) (M : aM) : go X 39 1 la st M = kC X 39 (i_sti 3 2 la st M) := evC ((pm39 X 1).trans rfl) la st M
theorem e39_2 (X : aX) (la : aLs) (st : List aV) (M : aM) : go X 39 2 la st M = kC X 39 (i_ci (nI 0) 3 la st M) := evC ((pm39 X 2).trans rfl) la st M
theorem e39_3 (X : aX) (la : aLs) (st : List aV) (M : aM) : go X 39 3 la st M = kC X 39 (i_sti 4 5 la st M) := evC ((pm39 X 3).trans rfl) la st M
theorem e39_5 (X : aX) (la : aLs) (st : List aV) (M : aM) : go X 39 5 la st M = kC X 39 (i_ldi 4 7 la st M) := evC ((pm39 X 5).trans rfl) la st M
theorem e39_7 (X : aX) (la : aLs) (st : List aV) (M : aM) : go X 39 7 la st M = kC X 39 (i_lda 0 8 la st M) := evC ((pm39 X 7).trans rfl) la st M
theorem e39_8 (X : aX) (la : aLs) (st : List aV) (M : aM) : go X 39 8 la st M = kC X 39 (i_get 3 2 11 la st M) := evC ((pm39 X 8).trans rfl) la st M
theorem e39_11 (X : aX) (la : aLs) (st : List aV) (M : aM) : go X 39 11 la st M = kC X 39 (i_cml 14 38 la st M) := evC ((pm39 X 11).trans rfl) la st M
theorem e39_14 (X : aX) (la : aLs) (st : List aV) (M : aM) : go X 39 14 la st M = kC X 39 (i_lda 0 15 la st M) := evC ((pm39 X 14).trans rfl) la st M
theorem e39_15 (X : aX) (la : aLs) (st : List aV) (M : aM) : go X 39 15 la st M = kC X 39 (i_ldi 4 17 la st M) := evC ((pm39 X 15).trans rfl) la st M
theorem e39_17 (X : aX) (la : aLs) (st : List aV) (M : aM) : go X 39 17 la st M = kC X 39 (i_ldi 1 18 la st M) := evC ((pm39 X 17).trans rfl) la st M
theorem e39_18 (X : aX) (la : aLs) (st : List aV) (M : aM) : go X 39 18 la st M = kK X 39 30 3 21 4 la st M := evK ((pm39 X 18).trans rfl) la st M
theorem e39_21 (X : aX) (la : aLs) (st : List aV) (M : aM) : go X 39 21 la st M = kC X 39 (i_ldi 2 22 la st M) := evC ((pm39 X 21).trans rfl) la st M
theorem e39_22 (X : aX) (la : aLs) (st : List aV) (M : aM) : go X 39 22 la st M = kC X 39 (i_cme 25 32 la st M) := evC ((pm39 X 22).trans rfl) la st M
theorem e39_25 (X : aX) (la : aLs) (st : List aV) (M : aM) : go X 39 25 la st M = kC X 39 (i_ldi 3 26 la st M) := evC ((pm39 X 25).trans rfl) la st M
theorem e39_26 (X : aX) (la : aLs) (st : List aV) (M : aM) : go X 39 26 la st M = kC X 39 (i_ci (nI 1) 27 la st M) := evC ((pm39 X 26).trans rfl) la st M
theorem e39_27 (X : aX) (la : aLs) (st : List aV) (M : aM) : go X 39 27 la st M = kC X 39 (i_ldi 4 29 la st M) := evC ((pm39 X 27).trans rfl) la st M
theorem e39_29 (X : aX) (la : aLs) (st : List aV) (M : aM) : go X 39 29 la st M = kC X 39 (i_bin (fun x y => x <<< (y &&& 31)) 30 la st M) := evC ((pm39 X 29).trans rfl) la st M
theorem e39_30 (X : aX) (la : aLs) (st : List aV) (M : aM) : go X 39 30 la st M = kC X 39 (i_bin (fun x y => x ||| y) 31 la st M) := evC ((pm39 X 30).trans rfl) la st M
theorem e39_31 (X : aX) (la : aLs) (st : List aV) (M : aM) : go X 39 31 la st M = kC X 39 (i_sti 3 32 la st M) := evC ((pm39 X 31).trans rfl) la st M
theorem e39_32 (X : aX) (la : aLs) (st : List aV) (M : aM) : go X 39 32 la st M = kC X 39 (i_inc 4 (nI 1) 35 la st M) := evC ((pm39 X 32).trans rfl) la st M
theorem e39_35 (X : aX) (la : aLs) (st : List aV) (M : aM) : go X 39 35 la st M = kC X 39 (i_go 5 la st M) := evC ((pm39 X 35).trans rfl) la st M
theorem e39_38 (X : aX) (la : aLs) (st : List aV) (M : aM) : go X 39 38 la st M = kC X 39 (i_ldi 3 39 la st M) := evC ((pm39 X 38).trans rfl) la st M
theorem e39_39 (X : aX) (la : aLs) (st : List aV) (M : aM) : go X 39 39 la st M = i_irt st M := evR ((pm39 X 39).trans rfl) la st M
theorem c39 (X : aX) (as : List aV) (M : aM) : cl X 39 as M = if cs as ≤ 5 then go X 39 0 (ent 5 as) [] M else none := rfl
theorem pm40 (X : aX) (pc : Nat) : pg X 40 pc = lk pc (tb40 X) := rfl
theorem e40_0 (X : aX) (la : aLs) (st : List aV) (M : aM) : go X 40 0 la st M = kC X 40 (i_ci (nI 0) 1 la st M) := evC ((pm40 X 0).trans rfl) la st M
theorem e40_1 (X : aX) (la : aLs) (st : List aV) (M : aM) : go X 40 1 la st M = kC X 40 (i_sti 2 2 la st M) := evC ((pm40 X 1).trans rfl) la st M
theorem e40_2 (X : aX) (la : aLs) (st : List aV) (M : aM) : go X 40 2 la st M = kC X 40 (i_ci (nI 0) 3 la st M) := evC ((pm40 X 2).trans rfl) la st M
theorem e40_3 (X : aX) (la : aLs) (st : List aV) (M : aM) : go X 40 3 la st M = kC X 40 (i_sti 3 4 la st M) := evC ((pm40 X 3).trans rfl) la st M
theorem e40_4 (X : aX) (la : aLs) (st : List aV) (M : aM) : go X 40 4 la st M = kC X 40 (i_ldi 3 5 la st M) := evC ((pm40 X 4).trans rfl) la st M
theorem e40_5 (X : aX) (la : aLs) (st : List aV) (M : aM) : go X 40 5 la st M = kC X 40 (i_lda 0 6 la st M) := evC ((pm40 X 5).trans rfl) la st M
theorem e40_6 (X : aX) (la : aLs) (st : List aV) (M : aM) : go X 40 6 la st M = kC X 40 (i_get 3 2 9 la st M) := evC ((pm40 X 6).trans rfl) la st M
theorem e40_9 (X : aX) (la : aLs) (st : List aV) (M : aM) : go X 40 9 la st M = kC X 40 (i_cml 12 27 la st M) := evC ((pm40 X 9).trans rfl) la st M
theorem e40_12 (X : aX) (la : aLs) (st : List aV) (M : aM) : go X 40 12 la st M = kC X 40 (i_ldi 2 13 la st M) := evC ((pm40 X 12).trans rfl) la st M
theorem e40_13 (X : aX) (la : aLs) (st : List aV) (M : aM) : go X 40 13 la st M = kC X 40 (i_lda 0 14 la st M) := evC ((pm40 X 13).trans rfl) la st M
theorem e40_14 (X : aX) (la : aLs) (st : List aV) (M : aM) : go X 40 14 la st M = kC X 40 (i_ldi 3 15 la st M) := evC ((pm40 X 14).trans rfl) la st M
theorem e40_15 (X : aX) (la : aLs) (st : List aV) (M : aM) : go X 40 15 la st M = kC X 40 (i_ldi 1 16 la st M) := evC ((pm40 X 15).trans rfl) la st M
theorem e40_16 (X : aX) (la : aLs) (st : List aV) (M : aM) : go X 40 16 la st M = kK X 40 30 3 19 4 la st M := evK ((pm40 X 16).trans rfl) la st M
theorem e40_19 (X : aX) (la : aLs) (st : List aV) (M : aM) : go X 40 19 la st M = kC X 40 (i_bin (fun x y => x + y) 20 la st M) := evC ((pm40 X 19).trans rfl) la st M
theorem e40_20 (X : aX) (la : aLs) (st : List aV) (M : aM) : go X 40 20 la st M = kC X 40 (i_sti 2 21 la st M) := evC ((pm40 X 20).trans rfl) la st M
theorem e40_21 (X : aX) (la : aLs) (st : List aV) (M : aM) : go X 40 21 la st M = kC X 40 (i_inc 3 (nI 1) 24 la st M) := evC ((pm40 X 21).trans rfl) la st M
theorem e40_24 (X : aX) (la : aLs) (st : List aV) (M : aM) : go X 40 24 la st M = kC X 40 (i_go 4 la st M) := evC ((pm40 X 24).trans rfl) la st M
theorem e40_27 (X : aX) (la : aLs) (st : List aV) (M : aM) : go X 40 27 la st M = kC X 40 (i_ldi 2 28 la st M) := evC ((pm40 X 27).trans rfl) la st M
theorem e40_28 (X : aX) (la : aLs) (st : List aV) (M : aM) : go X 40 28 la st M = i_irt st M := evR ((pm40 X 28).trans rfl) la st M
theorem c40 (X : aX) (as : List aV) (M : aM) : cl X 40 as M = if cs as ≤ 4 then go X 40 0 (ent 4 as) [] M else none := rfl
theorem pm41 (X : aX) (pc : Nat) : pg X 41 pc = lk pc (tb41 X) := rfl
theorem e41_0 (X : aX) (la : aLs) (st : List aV) (M : aM) : go X 41 0 la st M = kC X 41 (i_ci (nI 0) 1 la st M) := evC ((pm41 X 0).trans rfl) la st M
theorem e41_1 (X : aX) (la : aLs) (st : List aV) (M : aM) : go X 41 1 la st M = kC X 41 (i_sti 1 2 la st M) := evC ((pm41 X 1).trans rfl) la st M
theorem e41_2 (X : aX) (la : aLs) (st : List aV) (M : aM) : go X 41 2 la st M = kC X 41 (i_ci (nI 0) 3 la st M) := evC ((pm41 X 2).trans rfl) la st M
theorem e41_3 (X : aX) (la : aLs) (st : List aV) (M : aM) : go X 41 3 la st M = kC X 41 (i_sti 2 4 la st M) := evC ((pm41 X 3).trans rfl) la st M
theorem e41_4 (X : aX) (la : aLs) (st : List aV) (M : aM) : go X 41 4 la st M = kC X 41 (i_ldi 2 5 la st M) := evC ((pm41 X 4).trans rfl) la st M
theorem e41_5 (X : aX) (la : aLs) (st : List aV) (M : aM) : go X 41 5 la st M = kC X 41 (i_ci (nI 10) 7 la st M) := evC ((pm41 X 5).trans rfl) la st M
theorem e41_7 (X : aX) (la : aLs) (st : List aV) (M : aM) : go X 41 7 la st M = kC X 41 (i_cml 10 29 la st M) := evC ((pm41 X 7).trans rfl) la st M
theorem e41_10 (X : aX) (la : aLs) (st : List aV) (M : aM) : go X 41 10 la st M = kC X 41 (i_lda 0 11 la st M) := evC ((pm41 X 10).trans rfl) la st M
theorem e41_11 (X : aX) (la : aLs) (st : List aV) (M : aM) : go X 41 11 la st M = kC X 41 (i_get 3 1 14 la st M) := evC ((pm41 X 11).trans rfl) la st M
theorem e41_14 (X : aX) (la : aLs) (st : List aV) (M : aM) : go X 41 14 la st M = kC X 41 (i_ldi 2 15 la st M) := evC ((pm41 X 14).trans rfl) la st M
theorem e41_15 (X : aX) (la : aLs) (st : List aV) (M : aM) : go X 41 15 la st M = kC X 41 (i_ial X 16 la st M) := evC ((pm41 X 15).trans rfl) la st M
theorem e41_16 (X : aX) (la : aLs) (st : List aV) (M : aM) : go X 41 16 la st M = kC X 41 (i_ci (-1) 17 la st M) := evC ((pm41 X 16).trans rfl) la st M
theorem e41_17 (X : aX) (la : aLs) (st : List aV) (M : aM) : go X 41 17 la st M = kC X 41 (i_cme 23 20 la st M) := evC ((pm41 X 17).trans rfl) la st M
theorem e41_20 (X : aX) (la : aLs) (st : List aV) (M : aM) : go X 41 20 la st M = kC X 41 (i_inc 1 (nI 1) 23 la st M) := evC ((pm41 X 20).trans rfl) la st M
theorem e41_23 (X : aX) (la : aLs) (st : List aV) (M : aM) : go X 41 23 la st M = kC X 41 (i_inc 2 (nI 1) 26 la st M) := evC ((pm41 X 23).trans rfl) la st M
theorem e41_26 (X : aX) (la : aLs) (st : List aV) (M : aM) : go X 41 26 la st M = kC X 41 (i_go 4 la st M) := evC ((pm41 X 26).trans rfl) la st M
theorem e41_29 (X : aX) (la : aLs) (st : List aV) (M : aM) : go X 41 29 la st M = kC X 41 (i_ldi 1 30 la st M) := evC ((pm41 X 29).trans rfl) la st M
theorem e41_30 (X : aX) (la : aLs) (st : List aV) (M : aM) : go X 41 30 la st M = i_irt st M := evR ((pm41 X 30).trans rfl) la st M
theorem c41 (X : aX) (as : List aV) (M : aM) : cl X 41 as M = if cs as ≤ 3 then go X 41 0 (ent 3 as) [] M else none := rfl
theorem pm42 (X : aX) (pc : Nat) : pg X 42 pc = lk pc (tb42 X) := rfl
theorem e42_0 (X : aX) (la : aLs) (st : List aV) (M : aM) : go X 42 0 la st M = kC X 42 (i_cj 0 1 la st M) := evC ((pm42 X 0).trans rfl) la st M
theorem e42_1 (X : aX) (la : aLs) (st : List aV) (M : aM) : go X 42 1 la st M = kC X 42 (i_stj 1 2 la st M) := evC ((pm42 X 1).trans rfl) la st M
theorem e42_2 (X : aX) (la : aLs) (st : List aV) (M : aM) : go X 42 2 la st M = kC X 42 (i_ci (nI 0) 3 la st M) := evC ((pm42 X 2).trans rfl) la st M
theorem e42_3 (X : aX) (la : aLs) (st : List aV) (M : aM) : go X 42 3 la st M = kC X 42 (i_sti 3 4 la st M) := evC ((pm42 X 3).trans rfl) la st M
theorem e42_4 (X : aX) (la : aLs) (st : List aV) (M : aM) : go X 42 4 la st M = kC X 42 (i_ldi 3 5 la st M) := evC ((pm42 X 4).trans rfl) la st M
theorem e42_5 (X : aX) (la : aLs) (st : List aV) (M : aM) : go X 42 5 la st M = kC X 42 (i_lda 0 6 la st M) := evC ((pm42 X 5).trans rfl) la st M
theorem e42_6 (X : aX) (la : aLs) (st : List aV) (M : aM) : go X 42 6 la st M = kC X 42 (i_get 3 2 9 la st M) := evC ((pm42 X 6).trans rfl) la st M
theorem e42_9 (X : aX) (la : aLs) (st : List aV) (M : aM) : go X 42 9 la st M = kC X 42 (i_cml 12 54 la st M) := evC ((pm42 X 9).trans rfl) la st M
theorem e42_12 (X : aX) (la : aLs) (st : List aV) (M : aM) : go X 42 12 la st M = kC X 42 (i_lda 0 13 la st M) := evC ((pm42 X 12).trans rfl) la st M
theorem e42_13 (X : aX) (la : aLs) (st : List aV) (M : aM) : go X 42 13 la st M = kC X 42 (i_get 3 0 16 la st M) := evC ((pm42 X 13).trans rfl) la st M
theorem e42_16 (X : aX) (la : aLs) (st : List aV) (M : aM) : go X 42 16 la st M = kC X 42 (i_ldi 3 17 la st M) := evC ((pm42 X 16).trans rfl) la st M
theorem e42_17 (X : aX) (la : aLs) (st : List aV) (M : aM) : go X 42 17 la st M = kC X 42 (i_aal 18 la st M) := evC ((pm42 X 17).trans rfl) la st M
theorem e42_18 (X : aX) (la : aLs) (st : List aV) (M : aM) : go X 42 18 la st M = kC X 42 (i_get 2 0 21 la st M) := evC ((pm42 X 18).trans rfl) la st M
theorem e42_21 (X : aX) (la : aLs) (st : List aV) (M : aM) : go X 42 21 la st M = kC X 42 (i_sta 4 23 la st M) := evC ((pm42 X 21).trans rfl) la st M
theorem e42_23 (X : aX) (la : aLs) (st : List aV) (M : aM) : go X 42 23 la st M = kC X 42 (i_lda 4 25 la st M) := evC ((pm42 X 23).trans rfl) la st M
theorem e42_25 (X : aX) (la : aLs) (st : List aV) (M : aM) : go X 42 25 la st M = kC X 42 (i_ci (nI 6) 27 la st M) := evC ((pm42 X 25).trans rfl) la st M
theorem e42_27 (X : aX) (la : aLs) (st : List aV) (M : aM) : go X 42 27 la st M = kC X 42 (i_ial X 28 la st M) := evC ((pm42 X 27).trans rfl) la st M
theorem e42_28 (X : aX) (la : aLs) (st : List aV) (M : aM) : go X 42 28 la st M = kC X 42 (i_ife 31 48 la st M) := evC ((pm42 X 28).trans rfl) la st M
theorem e42_31 (X : aX) (la : aLs) (st : List aV) (M : aM) : go X 42 31 la st M = kC X 42 (i_lda 4 33 la st M) := evC ((pm42 X 31).trans rfl) la st M
theorem e42_33 (X : aX) (la : aLs) (st : List aV) (M : aM) : go X 42 33 la st M = kC X 42 (i_ci (nI 2) 34 la st M) := evC ((pm42 X 33).trans rfl) la st M
theorem e42_34 (X : aX) (la : aLs) (st : List aV) (M : aM) : go X 42 34 la st M = kC X 42 (i_ial X 35 la st M) := evC ((pm42 X 34).trans rfl) la st M
theorem e42_35 (X : aX) (la : aLs) (st : List aV) (M : aM) : go X 42 35 la st M = kC X 42 (i_ci (-1) 36 la st M) := evC ((pm42 X 35).trans rfl) la st M
theorem e42_36 (X : aX) (la : aLs) (st : List aV) (M : aM) : go X 42 36 la st M = kC X 42 (i_cme 39 48 la st M) := evC ((pm42 X 36).trans rfl) la st M
theorem e42_39 (X : aX) (la : aLs) (st : List aV) (M : aM) : go X 42 39 la st M = kC X 42 (i_ldj 1 40 la st M) := evC ((pm42 X 39).trans rfl) la st M
theorem e42_40 (X : aX) (la : aLs) (st : List aV) (M : aM) : go X 42 40 la st M = kC X 42 (i_cj 1 41 la st M) := evC ((pm42 X 40).trans rfl) la st M
theorem e42_41 (X : aX) (la : aLs) (st : List aV) (M : aM) : go X 42 41 la st M = kC X 42 (i_lda 4 43 la st M) := evC ((pm42 X 41).trans rfl) la st M
theorem e42_43 (X : aX) (la : aLs) (st : List aV) (M : aM) : go X 42 43 la st M = kC X 42 (i_ci (nI 1) 44 la st M) := evC ((pm42 X 43).trans rfl) la st M
theorem e42_44 (X : aX) (la : aLs) (st : List aV) (M : aM) : go X 42 44 la st M = kC X 42 (i_ial X 45 la st M) := evC ((pm42 X 44).trans rfl) la st M
theorem e42_45 (X : aX) (la : aLs) (st : List aV) (M : aM) : go X 42 45 la st M = kC X 42 (i_shj (fun x y => x <<< (y.toInt64 &&& 63)) 46 la st M) := evC ((pm42 X 45).trans rfl) la st M
theorem e42_46 (X : aX) (la : aLs) (st : List aV) (M : aM) : go X 42 46 la st M = kC X 42 (i_bnj (fun x y => x ||| y) 47 la st M) := evC ((pm42 X 46).trans rfl) la st M
theorem e42_47 (X : aX) (la : aLs) (st : List aV) (M : aM) : go X 42 47 la st M = kC X 42 (i_stj 1 48 la st M) := evC ((pm42 X 47).trans rfl) la st M
theorem e42_48 (X : aX) (la : aLs) (st : List aV) (M : aM) : go X 42 48 la st M = kC X 42 (i_inc 3 (nI 1) 51 la st M) := evC ((pm42 X 48).trans rfl) la st M
theorem e42_51 (X : aX) (la : aLs) (st : List aV) (M : aM) : go X 42 51 la st M = kC X 42 (i_go 4 la st M) := evC ((pm42 X 51).trans rfl) la st M
theorem e42_54 (X : aX) (la : aLs) (st : List aV) (M : aM) : go X 42 54 la st M = kC X 42 (i_ldj 1 55 la st M) := evC ((pm42 X 54).trans rfl) la st M
theorem e42_55 (X : aX) (la : aLs) (st : List aV) (M : aM) : go X 42 55 la st M = kK X 42 214 1 58 0 la st M := evK ((pm42 X 55).trans rfl) la st M
theorem e42_58 (X : aX) (la : aLs) (st : List aV) (M : aM) : go X 42 58 la st M = i_irt st M := evR ((pm42 X 58).trans rfl) la st M
theorem c42 (X : aX) (as : List aV) (M : aM) : cl X 42 as M = if cs as ≤ 5 then go X 42 0 (ent 5 as) [] M else none := rfl
theorem pm43 (X : aX) (pc : Nat) : pg X 43 pc = lk pc (tb43 X) := rfl
theorem e43_0 (X : aX) (la : aLs) (st : List aV) (M : aM) : go X 43 0 la st M = kC X 43 (i_lda 0 1 la st M) := evC ((pm43 X 0).trans rfl) la st M
theorem e43_1 (X : aX) (la : aLs) (st : List aV) (M : aM) : go X 43 1 la st M = kC X 43 (i_get 3 3 4 la st M) := evC ((pm43 X 1).trans rfl) la st M
theorem e43_4 (X : aX) (la : aLs) (st : List aV) (M : aM) : go X 43 4 la st M = kC X 43 (i_ci (nI 60) 6 la st M) := evC ((pm43 X 4).trans rfl) la st M
theorem e43_6 (X : aX) (la : aLs) (st : List aV) (M : aM) : go X 43 6 la st M = kC X 43 (i_div (fun x y => x - x / y * y) 7 la st M) := evC ((pm43 X 6).trans rfl) la st M
theorem e43_7 (X : aX) (la : aLs) (st : List aV) (M : aM) : go X 43 7 la st M = i_irt st M := evR ((pm43 X 7).trans rfl) la st M
theorem c43 (X : aX) (as : List aV) (M : aM) : cl X 43 as M = if cs as ≤ 1 then go X 43 0 (ent 1 as) [] M else none := rfl
theorem pm44 (X : aX) (pc : Nat) : pg X 44 pc = lk pc (tb44 X) := rfl
theorem e44_0 (X : aX) (la : aLs) (st : List aV) (M : aM) : go X 44 0 la st M = kC X 44 (i_lda 0 1 la st M) := evC ((pm44 X 0).trans rfl) la st M
theorem e44_1 (X : aX) (la : aLs) (st : List aV) (M : aM) : go X 44 1 la st M = kC X 44 (i_get 3 3 4 la st M) := evC ((pm44 X 1).trans rfl) la st M
theorem e44_4 (X : aX) (la : aLs) (st : List aV) (M : aM) : go X 44 4 la st M = kC X 44 (i_ci (nI 99999) 6 la st M) := evC ((pm44 X 4).trans rfl) la st M
theorem e44_6 (X : aX) (la : aLs) (st : List aV) (M : aM) : go X 44 6 la st M = kC X 44 (i_ldi 1 7 la st M) := evC ((pm44 X 6).trans rfl) la st M
theorem e44_7 (X : aX) (la : aLs) (st : List aV) (M : aM) : go X 44 7 la st M = kC X 44 (i_bin (fun x y => x - y) 8 la st M) := evC ((pm44 X 7).trans rfl) la st M
theorem e44_8 (X : aX) (la : aLs) (st : List aV) (M : aM) : go X 44 8 la st M = kC X 44 (i_cmg 15 11 la st M) := evC ((pm44 X 8).trans rfl) la st M
theorem e44_11 (X : aX) (la : aLs) (st : List aV) (M : aM) : go X 44 11 la st M = kC X 44 (i_ci (nI 1) 12 la st M) := evC ((pm44 X 11).trans rfl) la st M
theorem e44_12 (X : aX) (la : aLs) (st : List aV) (M : aM) : go X 44 12 la st M = kC X 44 (i_go 16 la st M) := evC ((pm44 X 12).trans rfl) la st M
theorem e44_15 (X : aX) (la : aLs) (st : List aV) (M : aM) : go X 44 15 la st M = kC X 44 (i_ci (nI 0) 16 la st M) := evC ((pm44 X 15).trans rfl) la st M
theorem e44_16 (X : aX) (la : aLs) (st : List aV) (M : aM) : go X 44 16 la st M = i_zrt st M := evR ((pm44 X 16).trans rfl) la st M
theorem c44 (X : aX) (as : List aV) (M : aM) : cl X 44 as M = if cs as ≤ 2 then go X 44 0 (ent 2 as) [] M else none := rfl
theorem pm45 (X : aX) (pc : Nat) : pg X 45 pc = lk pc (tb45 X) := rfl
theorem e45_0 (X : aX) (la : aLs) (st : List aV) (M : aM) : go X 45 0 la st M = kC X 45 (i_lda 0 1 la st M) := evC ((pm45 X 0).trans rfl) la st M
theorem e45_1 (X : aX) (la : aLs) (st : List aV) (M : aM) : go X 45 1 la st M = kC X 45 (i_lda 0 2 la st M) := evC ((pm45 X 1).trans rfl) la st M
theorem e45_2 (X : aX) (la : aLs) (st : List aV) (M : aM) : go X 45 2 la st M = kC X 45 (i_get 3 5 5 la st M) := evC ((pm45 X 2).trans rfl) la st M
theorem e45_5 (X : aX) (la : aLs) (st : List aV) (M : aM) : go X 45 5 la st M = kC X 45 (i_ci (nI 1103515245) 7 la st M) := evC ((pm45 X 5).trans rfl) la st M
theorem e45_7 (X : aX) (la : aLs) (st : List aV) (M : aM) : go X 45 7 la st M = kC X 45 (i_bin (fun x y => x * y) 8 la st M) := evC ((pm45 X 7).trans rfl) la st M
theorem e45_8 (X : aX) (la : aLs) (st : List aV) (M : aM) : go X 45 8 la st M = kC X 45 (i_ci (nI 12345) 11 la st M) := evC ((pm45 X 8).trans rfl) la st M
theorem e45_11 (X : aX) (la : aLs) (st : List aV) (M : aM) : go X 45 11 la st M = kC X 45 (i_bin (fun x y => x + y) 12 la st M) := evC ((pm45 X 11).trans rfl) la st M
theorem e45_12 (X : aX) (la : aLs) (st : List aV) (M : aM) : go X 45 12 la st M = kC X 45 (i_put 3 5 0 15 la st M) := evC ((pm45 X 12).trans rfl) la st M
theorem e45_15 (X : aX) (la : aLs) (st : List aV) (M : aM) : go X 45 15 la st M = kC X 45 (i_lda 0 16 la st M) := evC ((pm45 X 15).trans rfl) la st M
theorem e45_16 (X : aX) (la : aLs) (st : List aV) (M : aM) : go X 45 16 la st M = kC X 45 (i_get 3 5 19 la st M) := evC ((pm45 X 16).trans rfl) la st M
theorem e45_19 (X : aX) (la : aLs) (st : List aV) (M : aM) : go X 45 19 la st M = kC X 45 (i_ci (nI 8) 21 la st M) := evC ((pm45 X 19).trans rfl) la st M
theorem e45_21 (X : aX) (la : aLs) (st : List aV) (M : aM) : go X 45 21 la st M = kC X 45 (i_bin (fun x y => (x.toUInt32 >>> (y.toUInt32 &&& Int32.toUInt32 31)).toInt32) 22 la st M) := evC ((pm45 X 21).trans rfl) la st M
theorem e45_22 (X : aX) (la : aLs) (st : List aV) (M : aM) : go X 45 22 la st M = i_irt st M := evR ((pm45 X 22).trans rfl) la st M
theorem c45 (X : aX) (as : List aV) (M : aM) : cl X 45 as M = if cs as ≤ 1 then go X 45 0 (ent 1 as) [] M else none := rfl
theorem pm46 (X : aX) (pc : Nat) : pg X 46 pc = lk pc (tb46 X) := rfl
theorem e46_0 (X : aX) (la : aLs) (st : List aV) (M : aM) : go X 46 0 la st M = kC X 46 (i_ci (nI 0) 1 la st M) := evC ((pm46 X 0).trans rfl) la st M
theorem e46_1 (X : aX) (la : aLs) (st : List aV) (M : aM) : go X 46 1 la st M = kC X 46 (i_sti 2 2 la st M) := evC ((pm46 X 1).trans rfl) la st M
theorem e46_2 (X : aX) (la : aLs) (st : List aV) (M : aM) : go X 46 2 la st M = kC X 46 (i_ldi 2 3 la st M) := evC ((pm46 X 2).trans rfl) la st M
theorem e46_3 (X : aX) (la : aLs) (st : List aV) (M : aM) : go X 46 3 la st M = kC X 46 (i_ldi 1 4 la st M) := evC ((pm46 X 3).trans rfl) la st M
theorem e46_4 (X : aX) (la : aLs) (st : List aV) (M : aM) : go X 46 4 la st M = kC X 46 (i_cml 7 53 la st M) := evC ((pm46 X 4).trans rfl) la st M
theorem e46_7 (X : aX) (la : aLs) (st : List aV) (M : aM) : go X 46 7 la st M = kC X 46 (i_lda 0 8 la st M) := evC ((pm46 X 7).trans rfl) la st M
theorem e46_8 (X : aX) (la : aLs) (st : List aV) (M : aM) : go X 46 8 la st M = kK X 46 47 1 11 4 la st M := evK ((pm46 X 8).trans rfl) la st M
theorem e46_11 (X : aX) (la : aLs) (st : List aV) (M : aM) : go X 46 11 la st M = kC X 46 (i_lda 0 12 la st M) := evC ((pm46 X 11).trans rfl) la st M
theorem e46_12 (X : aX) (la : aLs) (st : List aV) (M : aM) : go X 46 12 la st M = kK X 46 48 1 15 4 la st M := evK ((pm46 X 12).trans rfl) la st M
theorem e46_15 (X : aX) (la : aLs) (st : List aV) (M : aM) : go X 46 15 la st M = kC X 46 (i_lda 0 16 la st M) := evC ((pm46 X 15).trans rfl) la st M
theorem e46_16 (X : aX) (la : aLs) (st : List aV) (M : aM) : go X 46 16 la st M = kK X 46 50 1 19 4 la st M := evK ((pm46 X 16).trans rfl) la st M
theorem e46_19 (X : aX) (la : aLs) (st : List aV) (M : aM) : go X 46 19 la st M = kC X 46 (i_lda 0 20 la st M) := evC ((pm46 X 19).trans rfl) la st M
theorem e46_20 (X : aX) (la : aLs) (st : List aV) (M : aM) : go X 46 20 la st M = kK X 46 43 1 23 4 la st M := evK ((pm46 X 20).trans rfl) la st M
theorem e46_23 (X : aX) (la : aLs) (st : List aV) (M : aM) : go X 46 23 la st M = kC X 46 (i_ci (nI 59) 25 la st M) := evC ((pm46 X 23).trans rfl) la st M
theorem e46_25 (X : aX) (la : aLs) (st : List aV) (M : aM) : go X 46 25 la st M = kC X 46 (i_cme 28 32 la st M) := evC ((pm46 X 25).trans rfl) la st M
theorem e46_28 (X : aX) (la : aLs) (st : List aV) (M : aM) : go X 46 28 la st M = kC X 46 (i_lda 0 29 la st M) := evC ((pm46 X 28).trans rfl) la st M
theorem e46_29 (X : aX) (la : aLs) (st : List aV) (M : aM) : go X 46 29 la st M = kK X 46 52 1 32 4 la st M := evK ((pm46 X 29).trans rfl) la st M
theorem e46_32 (X : aX) (la : aLs) (st : List aV) (M : aM) : go X 46 32 la st M = kC X 46 (i_lda 0 33 la st M) := evC ((pm46 X 32).trans rfl) la st M
theorem e46_33 (X : aX) (la : aLs) (st : List aV) (M : aM) : go X 46 33 la st M = kC X 46 (i_lda 0 34 la st M) := evC ((pm46 X 33).trans rfl) la st M
theorem e46_34 (X : aX) (la : aLs) (st : List aV) (M : aM) : go X 46 34 la st M = kC X 46 (i_get 3 3 37 la st M) := evC ((pm46 X 34).trans rfl) la st M
theorem e46_37 (X : aX) (la : aLs) (st : List aV) (M : aM) : go X 46 37 la st M = kC X 46 (i_ci (nI 1) 38 la st M) := evC ((pm46 X 37).trans rfl) la st M
theorem e46_38 (X : aX) (la : aLs) (st : List aV) (M : aM) : go X 46 38 la st M = kC X 46 (i_bin (fun x y => x + y) 39 la st M) := evC ((pm46 X 38).trans rfl) la st M
theorem e46_39 (X : aX) (la : aLs) (st : List aV) (M : aM) : go X 46 39 la st M = kC X 46 (i_ci (nI 99999) 41 la st M) := evC ((pm46 X 39).trans rfl) la st M
theorem e46_41 (X : aX) (la : aLs) (st : List aV) (M : aM) : go X 46 41 la st M = kC X 46 (i_min 44 la st M) := evC ((pm46 X 41).trans rfl) la st M
theorem e46_44 (X : aX) (la : aLs) (st : List aV) (M : aM) : go X 46 44 la st M = kC X 46 (i_put 3 3 0 47 la st M) := evC ((pm46 X 44).trans rfl) la st M
theorem e46_47 (X : aX) (la : aLs) (st : List aV) (M : aM) : go X 46 47 la st M = kC X 46 (i_inc 2 (nI 1) 50 la st M) := evC ((pm46 X 47).trans rfl) la st M
theorem e46_50 (X : aX) (la : aLs) (st : List aV) (M : aM) : go X 46 50 la st M = kC X 46 (i_go 2 la st M) := evC ((pm46 X 50).trans rfl) la st M
theorem e46_53 (X : aX) (la : aLs) (st : List aV) (M : aM) : go X 46 53 la st M = i_vrt st M := evR ((pm46 X 53).trans rfl) la st M
theorem c46 (X : aX) (as : List aV) (M : aM) : cl X 46 as M = if cs as ≤ 3 then go X 46 0 (ent 3 as) [] M else none := rfl
theorem pm47 (X : aX) (pc : Nat) : pg X 47 pc = lk pc (tb47 X) := rfl
theorem e47_0 (X : aX) (la : aLs) (st : List aV) (M : aM) : go X 47 0 la st M = kC X 47 (i_ci (nI 0) 1 la st M) := evC ((pm47 X 0).trans rfl) la st M
theorem e47_1 (X : aX) (la : aLs) (st : List aV) (M : aM) : go X 47 1 la st M = kC X 47 (i_sti 1 2 la st M) := evC ((pm47 X 1).trans rfl) la st M
theorem e47_2 (X : aX) (la : aLs) (st : List aV) (M : aM) : go X 47 2 la st M = kC X 47 (i_ldi 1 3 la st M) := evC ((pm47 X 2).trans rfl) la st M
theorem e47_3 (X : aX) (la : aLs) (st : List aV) (M : aM) : go X 47 3 la st M = kC X 47 (i_lda 0 4 la st M) := evC ((pm47 X 3).trans rfl) la st M
theorem e47_4 (X : aX) (la : aLs) (st : List aV) (M : aM) : go X 47 4 la st M = kC X 47 (i_get 3 2 7 la st M) := evC ((pm47 X 4).trans rfl) la st M
theorem e47_7 (X : aX) (la : aLs) (st : List aV) (M : aM) : go X 47 7 la st M = kC X 47 (i_cml 10 65 la st M) := evC ((pm47 X 7).trans rfl) la st M
theorem e47_10 (X : aX) (la : aLs) (st : List aV) (M : aM) : go X 47 10 la st M = kC X 47 (i_lda 0 11 la st M) := evC ((pm47 X 10).trans rfl) la st M
theorem e47_11 (X : aX) (la : aLs) (st : List aV) (M : aM) : go X 47 11 la st M = kC X 47 (i_get 3 0 14 la st M) := evC ((pm47 X 11).trans rfl) la st M
theorem e47_14 (X : aX) (la : aLs) (st : List aV) (M : aM) : go X 47 14 la st M = kC X 47 (i_ldi 1 15 la st M) := evC ((pm47 X 14).trans rfl) la st M
theorem e47_15 (X : aX) (la : aLs) (st : List aV) (M : aM) : go X 47 15 la st M = kC X 47 (i_aal 16 la st M) := evC ((pm47 X 15).trans rfl) la st M
theorem e47_16 (X : aX) (la : aLs) (st : List aV) (M : aM) : go X 47 16 la st M = kC X 47 (i_sta 2 17 la st M) := evC ((pm47 X 16).trans rfl) la st M
theorem e47_17 (X : aX) (la : aLs) (st : List aV) (M : aM) : go X 47 17 la st M = kC X 47 (i_lda 2 18 la st M) := evC ((pm47 X 17).trans rfl) la st M
theorem e47_18 (X : aX) (la : aLs) (st : List aV) (M : aM) : go X 47 18 la st M = kC X 47 (i_ci (nI 0) 19 la st M) := evC ((pm47 X 18).trans rfl) la st M
theorem e47_19 (X : aX) (la : aLs) (st : List aV) (M : aM) : go X 47 19 la st M = kC X 47 (i_put 2 1 1 22 la st M) := evC ((pm47 X 19).trans rfl) la st M
theorem e47_22 (X : aX) (la : aLs) (st : List aV) (M : aM) : go X 47 22 la st M = kC X 47 (i_lda 2 23 la st M) := evC ((pm47 X 22).trans rfl) la st M
theorem e47_23 (X : aX) (la : aLs) (st : List aV) (M : aM) : go X 47 23 la st M = kK X 47 18 1 26 3 la st M := evK ((pm47 X 23).trans rfl) la st M
theorem e47_26 (X : aX) (la : aLs) (st : List aV) (M : aM) : go X 47 26 la st M = kC X 47 (i_ife 59 29 la st M) := evC ((pm47 X 26).trans rfl) la st M
theorem e47_29 (X : aX) (la : aLs) (st : List aV) (M : aM) : go X 47 29 la st M = kC X 47 (i_lda 2 30 la st M) := evC ((pm47 X 29).trans rfl) la st M
theorem e47_30 (X : aX) (la : aLs) (st : List aV) (M : aM) : go X 47 30 la st M = kC X 47 (i_get 2 0 33 la st M) := evC ((pm47 X 30).trans rfl) la st M
theorem e47_33 (X : aX) (la : aLs) (st : List aV) (M : aM) : go X 47 33 la st M = kC X 47 (i_ci (nI 7) 35 la st M) := evC ((pm47 X 33).trans rfl) la st M
theorem e47_35 (X : aX) (la : aLs) (st : List aV) (M : aM) : go X 47 35 la st M = kC X 47 (i_dp2 36 la st M) := evC ((pm47 X 35).trans rfl) la st M
theorem e47_36 (X : aX) (la : aLs) (st : List aV) (M : aM) : go X 47 36 la st M = kC X 47 (i_ial X 37 la st M) := evC ((pm47 X 36).trans rfl) la st M
theorem e47_37 (X : aX) (la : aLs) (st : List aV) (M : aM) : go X 47 37 la st M = kC X 47 (i_ci (nI 1) 38 la st M) := evC ((pm47 X 37).trans rfl) la st M
theorem e47_38 (X : aX) (la : aLs) (st : List aV) (M : aM) : go X 47 38 la st M = kC X 47 (i_bin (fun x y => x - y) 39 la st M) := evC ((pm47 X 38).trans rfl) la st M
theorem e47_39 (X : aX) (la : aLs) (st : List aV) (M : aM) : go X 47 39 la st M = kC X 47 (i_ias 40 la st M) := evC ((pm47 X 39).trans rfl) la st M
theorem e47_40 (X : aX) (la : aLs) (st : List aV) (M : aM) : go X 47 40 la st M = kC X 47 (i_lda 2 41 la st M) := evC ((pm47 X 40).trans rfl) la st M
theorem e47_41 (X : aX) (la : aLs) (st : List aV) (M : aM) : go X 47 41 la st M = kC X 47 (i_lda 2 42 la st M) := evC ((pm47 X 41).trans rfl) la st M
theorem e47_42 (X : aX) (la : aLs) (st : List aV) (M : aM) : go X 47 42 la st M = kC X 47 (i_get 2 0 45 la st M) := evC ((pm47 X 42).trans rfl) la st M
theorem e47_45 (X : aX) (la : aLs) (st : List aV) (M : aM) : go X 47 45 la st M = kC X 47 (i_ci (nI 7) 47 la st M) := evC ((pm47 X 45).trans rfl) la st M
theorem e47_47 (X : aX) (la : aLs) (st : List aV) (M : aM) : go X 47 47 la st M = kC X 47 (i_ial X 48 la st M) := evC ((pm47 X 47).trans rfl) la st M
theorem e47_48 (X : aX) (la : aLs) (st : List aV) (M : aM) : go X 47 48 la st M = kC X 47 (i_ife 51 55 la st M) := evC ((pm47 X 48).trans rfl) la st M
theorem e47_51 (X : aX) (la : aLs) (st : List aV) (M : aM) : go X 47 51 la st M = kC X 47 (i_ci (nI 1) 52 la st M) := evC ((pm47 X 51).trans rfl) la st M
theorem e47_52 (X : aX) (la : aLs) (st : List aV) (M : aM) : go X 47 52 la st M = kC X 47 (i_go 56 la st M) := evC ((pm47 X 52).trans rfl) la st M
theorem e47_55 (X : aX) (la : aLs) (st : List aV) (M : aM) : go X 47 55 la st M = kC X 47 (i_ci (nI 0) 56 la st M) := evC ((pm47 X 55).trans rfl) la st M
theorem e47_56 (X : aX) (la : aLs) (st : List aV) (M : aM) : go X 47 56 la st M = kC X 47 (i_put 2 1 1 59 la st M) := evC ((pm47 X 56).trans rfl) la st M
theorem e47_59 (X : aX) (la : aLs) (st : List aV) (M : aM) : go X 47 59 la st M = kC X 47 (i_inc 1 (nI 1) 62 la st M) := evC ((pm47 X 59).trans rfl) la st M
theorem e47_62 (X : aX) (la : aLs) (st : List aV) (M : aM) : go X 47 62 la st M = kC X 47 (i_go 2 la st M) := evC ((pm47 X 62).trans rfl) la st M
theorem e47_65 (X : aX) (la : aLs) (st : List aV) (M : aM) : go X 47 65 la st M = i_vrt st M := evR ((pm47 X 65).trans rfl) la st M
theorem c47 (X : aX) (as : List aV) (M : aM) : cl X 47 as M = if cs as ≤ 3 then go X 47 0 (ent 3 as) [] M else none := rfl
theorem pm48 (X : aX) (pc : Nat) : pg X 48 pc = lk pc (tb48 X) := rfl
theorem e48_0 (X : aX) (la : aLs) (st : List aV) (M : aM) : go X 48 0 la st M = kC X 48 (i_lda 0 1 la st M) := evC ((pm48 X 0).trans rfl) la st M
theorem e48_1 (X : aX) (la : aLs) (st : List aV) (M : aM) : go X 48 1 la st M = kK X 48 43 1 4 4 la st M := evK ((pm48 X 1).trans rfl) la st M
theorem e48_4 (X : aX) (la : aLs) (st : List aV) (M : aM) : go X 48 4 la st M = kC X 48 (i_sti 1 5 la st M) := evC ((pm48 X 4).trans rfl) la st M
theorem e48_5 (X : aX) (la : aLs) (st : List aV) (M : aM) : go X 48 5 la st M = kC X 48 (i_ci (nI 0) 6 la st M) := evC ((pm48 X 5).trans rfl) la st M
theorem e48_6 (X : aX) (la : aLs) (st : List aV) (M : aM) : go X 48 6 la st M = kC X 48 (i_sti 2 7 la st M) := evC ((pm48 X 6).trans rfl) la st M
theorem e48_7 (X : aX) (la : aLs) (st : List aV) (M : aM) : go X 48 7 la st M = kC X 48 (i_ldi 2 8 la st M) := evC ((pm48 X 7).trans rfl) la st M
theorem e48_8 (X : aX) (la : aLs) (st : List aV) (M : aM) : go X 48 8 la st M = kC X 48 (i_lda 0 9 la st M) := evC ((pm48 X 8).trans rfl) la st M
theorem e48_9 (X : aX) (la : aLs) (st : List aV) (M : aM) : go X 48 9 la st M = kC X 48 (i_get 3 2 12 la st M) := evC ((pm48 X 9).trans rfl) la st M
theorem e48_12 (X : aX) (la : aLs) (st : List aV) (M : aM) : go X 48 12 la st M = kC X 48 (i_cml 15 61 la st M) := evC ((pm48 X 12).trans rfl) la st M
theorem e48_15 (X : aX) (la : aLs) (st : List aV) (M : aM) : go X 48 15 la st M = kC X 48 (i_lda 0 16 la st M) := evC ((pm48 X 15).trans rfl) la st M
theorem e48_16 (X : aX) (la : aLs) (st : List aV) (M : aM) : go X 48 16 la st M = kC X 48 (i_get 3 0 19 la st M) := evC ((pm48 X 16).trans rfl) la st M
theorem e48_19 (X : aX) (la : aLs) (st : List aV) (M : aM) : go X 48 19 la st M = kC X 48 (i_ldi 2 20 la st M) := evC ((pm48 X 19).trans rfl) la st M
theorem e48_20 (X : aX) (la : aLs) (st : List aV) (M : aM) : go X 48 20 la st M = kC X 48 (i_aal 21 la st M) := evC ((pm48 X 20).trans rfl) la st M
theorem e48_21 (X : aX) (la : aLs) (st : List aV) (M : aM) : go X 48 21 la st M = kC X 48 (i_sta 3 22 la st M) := evC ((pm48 X 21).trans rfl) la st M
theorem e48_22 (X : aX) (la : aLs) (st : List aV) (M : aM) : go X 48 22 la st M = kC X 48 (i_lda 3 23 la st M) := evC ((pm48 X 22).trans rfl) la st M
theorem e48_23 (X : aX) (la : aLs) (st : List aV) (M : aM) : go X 48 23 la st M = kC X 48 (i_get 2 0 26 la st M) := evC ((pm48 X 23).trans rfl) la st M
theorem e48_26 (X : aX) (la : aLs) (st : List aV) (M : aM) : go X 48 26 la st M = kC X 48 (i_ci (nI 6) 28 la st M) := evC ((pm48 X 26).trans rfl) la st M
theorem e48_28 (X : aX) (la : aLs) (st : List aV) (M : aM) : go X 48 28 la st M = kC X 48 (i_ial X 29 la st M) := evC ((pm48 X 28).trans rfl) la st M
theorem e48_29 (X : aX) (la : aLs) (st : List aV) (M : aM) : go X 48 29 la st M = kC X 48 (i_ife 32 55 la st M) := evC ((pm48 X 29).trans rfl) la st M
theorem e48_32 (X : aX) (la : aLs) (st : List aV) (M : aM) : go X 48 32 la st M = kC X 48 (i_lda 3 33 la st M) := evC ((pm48 X 32).trans rfl) la st M
theorem e48_33 (X : aX) (la : aLs) (st : List aV) (M : aM) : go X 48 33 la st M = kC X 48 (i_get 2 0 36 la st M) := evC ((pm48 X 33).trans rfl) la st M
theorem e48_36 (X : aX) (la : aLs) (st : List aV) (M : aM) : go X 48 36 la st M = kC X 48 (i_ci (nI 7) 38 la st M) := evC ((pm48 X 36).trans rfl) la st M
theorem e48_38 (X : aX) (la : aLs) (st : List aV) (M : aM) : go X 48 38 la st M = kC X 48 (i_ial X 39 la st M) := evC ((pm48 X 38).trans rfl) la st M
theorem e48_39 (X : aX) (la : aLs) (st : List aV) (M : aM) : go X 48 39 la st M = kC X 48 (i_ife 42 55 la st M) := evC ((pm48 X 39).trans rfl) la st M
theorem e48_42 (X : aX) (la : aLs) (st : List aV) (M : aM) : go X 48 42 la st M = kC X 48 (i_lda 3 43 la st M) := evC ((pm48 X 42).trans rfl) la st M
theorem e48_43 (X : aX) (la : aLs) (st : List aV) (M : aM) : go X 48 43 la st M = kC X 48 (i_get 2 1 46 la st M) := evC ((pm48 X 43).trans rfl) la st M
theorem e48_46 (X : aX) (la : aLs) (st : List aV) (M : aM) : go X 48 46 la st M = kC X 48 (i_ife 49 55 la st M) := evC ((pm48 X 46).trans rfl) la st M
theorem e48_49 (X : aX) (la : aLs) (st : List aV) (M : aM) : go X 48 49 la st M = kC X 48 (i_lda 0 50 la st M) := evC ((pm48 X 49).trans rfl) la st M
theorem e48_50 (X : aX) (la : aLs) (st : List aV) (M : aM) : go X 48 50 la st M = kC X 48 (i_lda 3 51 la st M) := evC ((pm48 X 50).trans rfl) la st M
theorem e48_51 (X : aX) (la : aLs) (st : List aV) (M : aM) : go X 48 51 la st M = kC X 48 (i_ldi 1 52 la st M) := evC ((pm48 X 51).trans rfl) la st M
theorem e48_52 (X : aX) (la : aLs) (st : List aV) (M : aM) : go X 48 52 la st M = kK X 48 49 3 55 4 la st M := evK ((pm48 X 52).trans rfl) la st M
theorem e48_55 (X : aX) (la : aLs) (st : List aV) (M : aM) : go X 48 55 la st M = kC X 48 (i_inc 2 (nI 1) 58 la st M) := evC ((pm48 X 55).trans rfl) la st M
theorem e48_58 (X : aX) (la : aLs) (st : List aV) (M : aM) : go X 48 58 la st M = kC X 48 (i_go 7 la st M) := evC ((pm48 X 58).trans rfl) la st M
theorem e48_61 (X : aX) (la : aLs) (st : List aV) (M : aM) : go X 48 61 la st M = i_vrt st M := evR ((pm48 X 61).trans rfl) la st M
theorem c48 (X : aX) (as : List aV) (M : aM) : cl X 48 as M = if cs as ≤ 4 then go X 48 0 (ent 4 as) [] M else none := rfl
theorem pm49 (X : aX) (pc : Nat) : pg X 49 pc = lk pc (tb49 X) := rfl
theorem e49_0 (X : aX) (la : aLs) (st : List aV) (M : aM) : go X 49 0 la st M = kC X 49 (i_lda 1 1 la st M) := evC ((pm49 X 0).trans rfl) la st M
theorem e49_1 (X : aX) (la : aLs) (st : List aV) (M : aM) : go X 49 1 la st M = kC X 49 (i_get 2 0 4 la st M) := evC ((pm49 X 1).trans rfl) la st M
theorem e49_4 (X : aX) (la : aLs) (st : List aV) (M : aM) : go X 49 4 la st M = kC X 49 (i_ci (nI 2) 5 la st M) := evC ((pm49 X 4).trans rfl) la st M
theorem e49_5 (X : aX) (la : aLs) (st : List aV) (M : aM) : go X 49 5 la st M = kC X 49 (i_ial X 6 la st M) := evC ((pm49 X 5).trans rfl) la st M
theorem e49_6 (X : aX) (la : aLs) (st : List aV) (M : aM) : go X 49 6 la st M = kC X 49 (i_sti 3 7 la st M) := evC ((pm49 X 6).trans rfl) la st M
theorem e49_7 (X : aX) (la : aLs) (st : List aV) (M : aM) : go X 49 7 la st M = kC X 49 (i_lda 1 8 la st M) := evC ((pm49 X 7).trans rfl) la st M
theorem e49_8 (X : aX) (la : aLs) (st : List aV) (M : aM) : go X 49 8 la st M = kC X 49 (i_get 2 0 11 la st M) := evC ((pm49 X 8).trans rfl) la st M
theorem e49_11 (X : aX) (la : aLs) (st : List aV) (M : aM) : go X 49 11 la st M = kC X 49 (i_ci (nI 8) 13 la st M) := evC ((pm49 X 11).trans rfl) la st M
theorem e49_13 (X : aX) (la : aLs) (st : List aV) (M : aM) : go X 49 13 la st M = kC X 49 (i_ial X 14 la st M) := evC ((pm49 X 13).trans rfl) la st M
theorem e49_14 (X : aX) (la : aLs) (st : List aV) (M : aM) : go X 49 14 la st M = kC X 49 (i_ifg 17 45 la st M) := evC ((pm49 X 14).trans rfl) la st M
theorem e49_17 (X : aX) (la : aLs) (st : List aV) (M : aM) : go X 49 17 la st M = kC X 49 (i_lda 1 18 la st M) := evC ((pm49 X 17).trans rfl) la st M
theorem e49_18 (X : aX) (la : aLs) (st : List aV) (M : aM) : go X 49 18 la st M = kC X 49 (i_get 2 0 21 la st M) := evC ((pm49 X 18).trans rfl) la st M
theorem e49_21 (X : aX) (la : aLs) (st : List aV) (M : aM) : go X 49 21 la st M = kC X 49 (i_ci (nI 8) 23 la st M) := evC ((pm49 X 21).trans rfl) la st M
theorem e49_23 (X : aX) (la : aLs) (st : List aV) (M : aM) : go X 49 23 la st M = kC X 49 (i_dp2 24 la st M) := evC ((pm49 X 23).trans rfl) la st M
theorem e49_24 (X : aX) (la : aLs) (st : List aV) (M : aM) : go X 49 24 la st M = kC X 49 (i_ial X 25 la st M) := evC ((pm49 X 24).trans rfl) la st M
theorem e49_25 (X : aX) (la : aLs) (st : List aV) (M : aM) : go X 49 25 la st M = kC X 49 (i_ci (nI 1) 26 la st M) := evC ((pm49 X 25).trans rfl) la st M
theorem e49_26 (X : aX) (la : aLs) (st : List aV) (M : aM) : go X 49 26 la st M = kC X 49 (i_bin (fun x y => x - y) 27 la st M) := evC ((pm49 X 26).trans rfl) la st M
theorem e49_27 (X : aX) (la : aLs) (st : List aV) (M : aM) : go X 49 27 la st M = kC X 49 (i_ias 28 la st M) := evC ((pm49 X 27).trans rfl) la st M
theorem e49_28 (X : aX) (la : aLs) (st : List aV) (M : aM) : go X 49 28 la st M = kC X 49 (i_lda 1 29 la st M) := evC ((pm49 X 28).trans rfl) la st M
theorem e49_29 (X : aX) (la : aLs) (st : List aV) (M : aM) : go X 49 29 la st M = kC X 49 (i_get 2 0 32 la st M) := evC ((pm49 X 29).trans rfl) la st M
theorem e49_32 (X : aX) (la : aLs) (st : List aV) (M : aM) : go X 49 32 la st M = kC X 49 (i_ci (nI 8) 34 la st M) := evC ((pm49 X 32).trans rfl) la st M
theorem e49_34 (X : aX) (la : aLs) (st : List aV) (M : aM) : go X 49 34 la st M = kC X 49 (i_ial X 35 la st M) := evC ((pm49 X 34).trans rfl) la st M
theorem e49_35 (X : aX) (la : aLs) (st : List aV) (M : aM) : go X 49 35 la st M = kC X 49 (i_ife 38 98 la st M) := evC ((pm49 X 35).trans rfl) la st M
theorem e49_38 (X : aX) (la : aLs) (st : List aV) (M : aM) : go X 49 38 la st M = kC X 49 (i_lda 1 39 la st M) := evC ((pm49 X 38).trans rfl) la st M
theorem e49_39 (X : aX) (la : aLs) (st : List aV) (M : aM) : go X 49 39 la st M = kK X 49 19 1 42 3 la st M := evK ((pm49 X 39).trans rfl) la st M
theorem e49_42 (X : aX) (la : aLs) (st : List aV) (M : aM) : go X 49 42 la st M = kC X 49 (i_go 98 la st M) := evC ((pm49 X 42).trans rfl) la st M
theorem e49_45 (X : aX) (la : aLs) (st : List aV) (M : aM) : go X 49 45 la st M = kC X 49 (i_lda 0 46 la st M) := evC ((pm49 X 45).trans rfl) la st M
theorem e49_46 (X : aX) (la : aLs) (st : List aV) (M : aM) : go X 49 46 la st M = kC X 49 (i_ldi 3 47 la st M) := evC ((pm49 X 46).trans rfl) la st M
theorem e49_47 (X : aX) (la : aLs) (st : List aV) (M : aM) : go X 49 47 la st M = kK X 49 27 2 50 4 la st M := evK ((pm49 X 47).trans rfl) la st M
theorem e49_50 (X : aX) (la : aLs) (st : List aV) (M : aM) : go X 49 50 la st M = kC X 49 (i_ife 84 53 la st M) := evC ((pm49 X 50).trans rfl) la st M
theorem e49_53 (X : aX) (la : aLs) (st : List aV) (M : aM) : go X 49 53 la st M = kC X 49 (i_lda 0 54 la st M) := evC ((pm49 X 53).trans rfl) la st M
theorem e49_54 (X : aX) (la : aLs) (st : List aV) (M : aM) : go X 49 54 la st M = kC X 49 (i_get 3 0 57 la st M) := evC ((pm49 X 54).trans rfl) la st M
theorem e49_57 (X : aX) (la : aLs) (st : List aV) (M : aM) : go X 49 57 la st M = kC X 49 (i_ldi 3 58 la st M) := evC ((pm49 X 57).trans rfl) la st M
theorem e49_58 (X : aX) (la : aLs) (st : List aV) (M : aM) : go X 49 58 la st M = kC X 49 (i_aal 59 la st M) := evC ((pm49 X 58).trans rfl) la st M
theorem e49_59 (X : aX) (la : aLs) (st : List aV) (M : aM) : go X 49 59 la st M = kC X 49 (i_get 2 1 62 la st M) := evC ((pm49 X 59).trans rfl) la st M
theorem e49_62 (X : aX) (la : aLs) (st : List aV) (M : aM) : go X 49 62 la st M = kC X 49 (i_ife 98 65 la st M) := evC ((pm49 X 62).trans rfl) la st M
theorem e49_65 (X : aX) (la : aLs) (st : List aV) (M : aM) : go X 49 65 la st M = kC X 49 (i_lda 1 66 la st M) := evC ((pm49 X 65).trans rfl) la st M
theorem e49_66 (X : aX) (la : aLs) (st : List aV) (M : aM) : go X 49 66 la st M = kC X 49 (i_get 2 0 69 la st M) := evC ((pm49 X 66).trans rfl) la st M
theorem e49_69 (X : aX) (la : aLs) (st : List aV) (M : aM) : go X 49 69 la st M = kC X 49 (i_ci (nI 8) 71 la st M) := evC ((pm49 X 69).trans rfl) la st M
theorem e49_71 (X : aX) (la : aLs) (st : List aV) (M : aM) : go X 49 71 la st M = kC X 49 (i_lda 1 72 la st M) := evC ((pm49 X 71).trans rfl) la st M
theorem e49_72 (X : aX) (la : aLs) (st : List aV) (M : aM) : go X 49 72 la st M = kK X 49 20 1 75 3 la st M := evK ((pm49 X 72).trans rfl) la st M
theorem e49_75 (X : aX) (la : aLs) (st : List aV) (M : aM) : go X 49 75 la st M = kC X 49 (i_ci (nI 99) 77 la st M) := evC ((pm49 X 75).trans rfl) la st M
theorem e49_77 (X : aX) (la : aLs) (st : List aV) (M : aM) : go X 49 77 la st M = kC X 49 (i_min 80 la st M) := evC ((pm49 X 77).trans rfl) la st M
theorem e49_80 (X : aX) (la : aLs) (st : List aV) (M : aM) : go X 49 80 la st M = kC X 49 (i_ias 81 la st M) := evC ((pm49 X 80).trans rfl) la st M
theorem e49_81 (X : aX) (la : aLs) (st : List aV) (M : aM) : go X 49 81 la st M = kC X 49 (i_go 98 la st M) := evC ((pm49 X 81).trans rfl) la st M
theorem e49_84 (X : aX) (la : aLs) (st : List aV) (M : aM) : go X 49 84 la st M = kC X 49 (i_lda 1 85 la st M) := evC ((pm49 X 84).trans rfl) la st M
theorem e49_85 (X : aX) (la : aLs) (st : List aV) (M : aM) : go X 49 85 la st M = kC X 49 (i_get 2 0 88 la st M) := evC ((pm49 X 85).trans rfl) la st M
theorem e49_88 (X : aX) (la : aLs) (st : List aV) (M : aM) : go X 49 88 la st M = kC X 49 (i_ci (nI 1) 89 la st M) := evC ((pm49 X 88).trans rfl) la st M
theorem e49_89 (X : aX) (la : aLs) (st : List aV) (M : aM) : go X 49 89 la st M = kC X 49 (i_ial X 90 la st M) := evC ((pm49 X 89).trans rfl) la st M
theorem e49_90 (X : aX) (la : aLs) (st : List aV) (M : aM) : go X 49 90 la st M = kC X 49 (i_ldi 2 91 la st M) := evC ((pm49 X 90).trans rfl) la st M
theorem e49_91 (X : aX) (la : aLs) (st : List aV) (M : aM) : go X 49 91 la st M = kC X 49 (i_cme 94 98 la st M) := evC ((pm49 X 91).trans rfl) la st M
theorem e49_94 (X : aX) (la : aLs) (st : List aV) (M : aM) : go X 49 94 la st M = kC X 49 (i_lda 1 95 la st M) := evC ((pm49 X 94).trans rfl) la st M
theorem e49_95 (X : aX) (la : aLs) (st : List aV) (M : aM) : go X 49 95 la st M = kK X 49 19 1 98 3 la st M := evK ((pm49 X 95).trans rfl) la st M
theorem e49_98 (X : aX) (la : aLs) (st : List aV) (M : aM) : go X 49 98 la st M = i_vrt st M := evR ((pm49 X 98).trans rfl) la st M
theorem c49 (X : aX) (as : List aV) (M : aM) : cl X 49 as M = if cs as ≤ 4 then go X 49 0 (ent 4 as) [] M else none := rfl
theorem pm50 (X : aX) (pc : Nat) : pg X 50 pc = lk pc (tb50 X) := rfl
theorem e50_0 (X : aX) (la : aLs) (st : List aV) (M : aM) : go X 50 0 la st M = kC X 50 (i_lda 0 1 la st M) := evC ((pm50 X 0).trans rfl) la st M
theorem e50_1 (X : aX) (la : aLs) (st : List aV) (M : aM) : go X 50 1 la st M = kK X 50 35 1 4 4 la st M := evK ((pm50 X 1).trans rfl) la st M
theorem e50_4 (X : aX) (la : aLs) (st : List aV) (M : aM) : go X 50 4 la st M = kC X 50 (i_sti 1 5 la st M) := evC ((pm50 X 4).trans rfl) la st M
theorem e50_5 (X : aX) (la : aLs) (st : List aV) (M : aM) : go X 50 5 la st M = kC X 50 (i_ci (nI 0) 6 la st M) := evC ((pm50 X 5).trans rfl) la st M
theorem e50_6 (X : aX) (la : aLs) (st : List aV) (M : aM) : go X 50 6 la st M = kC X 50 (i_sti 2 7 la st M) := evC ((pm50 X 6).trans rfl) la st M
theorem e50_7 (X : aX) (la : aLs) (st : List aV) (M : aM) : go X 50 7 la st M = kC X 50 (i_ldi 2 8 la st M) := evC ((pm50 X 7).trans rfl) la st M
theorem e50_8 (X : aX) (la : aLs) (st : List aV) (M : aM) : go X 50 8 la st M = kC X 50 (i_lda 0 9 la st M) := evC ((pm50 X 8).trans rfl) la st M
theorem e50_9 (X : aX) (la : aLs) (st : List aV) (M : aM) : go X 50 9 la st M = kC X 50 (i_get 3 2 12 la st M) := evC ((pm50 X 9).trans rfl) la st M
theorem e50_12 (X : aX) (la : aLs) (st : List aV) (M : aM) : go X 50 12 la st M = kC X 50 (i_cml 15 68 la st M) := evC ((pm50 X 12).trans rfl) la st M
theorem e50_15 (X : aX) (la : aLs) (st : List aV) (M : aM) : go X 50 15 la st M = kC X 50 (i_ldi 1 16 la st M) := evC ((pm50 X 15).trans rfl) la st M
theorem e50_16 (X : aX) (la : aLs) (st : List aV) (M : aM) : go X 50 16 la st M = kC X 50 (i_ldi 2 17 la st M) := evC ((pm50 X 16).trans rfl) la st M
theorem e50_17 (X : aX) (la : aLs) (st : List aV) (M : aM) : go X 50 17 la st M = kC X 50 (i_bin (fun x y => x >>> (y &&& 31)) 18 la st M) := evC ((pm50 X 17).trans rfl) la st M
theorem e50_18 (X : aX) (la : aLs) (st : List aV) (M : aM) : go X 50 18 la st M = kC X 50 (i_ci (nI 1) 19 la st M) := evC ((pm50 X 18).trans rfl) la st M
theorem e50_19 (X : aX) (la : aLs) (st : List aV) (M : aM) : go X 50 19 la st M = kC X 50 (i_bin (fun x y => x &&& y) 20 la st M) := evC ((pm50 X 19).trans rfl) la st M
theorem e50_20 (X : aX) (la : aLs) (st : List aV) (M : aM) : go X 50 20 la st M = kC X 50 (i_ife 62 23 la st M) := evC ((pm50 X 20).trans rfl) la st M
theorem e50_23 (X : aX) (la : aLs) (st : List aV) (M : aM) : go X 50 23 la st M = kC X 50 (i_lda 0 24 la st M) := evC ((pm50 X 23).trans rfl) la st M
theorem e50_24 (X : aX) (la : aLs) (st : List aV) (M : aM) : go X 50 24 la st M = kC X 50 (i_get 3 0 27 la st M) := evC ((pm50 X 24).trans rfl) la st M
theorem e50_27 (X : aX) (la : aLs) (st : List aV) (M : aM) : go X 50 27 la st M = kC X 50 (i_ldi 2 28 la st M) := evC ((pm50 X 27).trans rfl) la st M
theorem e50_28 (X : aX) (la : aLs) (st : List aV) (M : aM) : go X 50 28 la st M = kC X 50 (i_aal 29 la st M) := evC ((pm50 X 28).trans rfl) la st M
theorem e50_29 (X : aX) (la : aLs) (st : List aV) (M : aM) : go X 50 29 la st M = kC X 50 (i_get 2 0 32 la st M) := evC ((pm50 X 29).trans rfl) la st M
theorem e50_32 (X : aX) (la : aLs) (st : List aV) (M : aM) : go X 50 32 la st M = kC X 50 (i_ci (nI 9) 34 la st M) := evC ((pm50 X 32).trans rfl) la st M
theorem e50_34 (X : aX) (la : aLs) (st : List aV) (M : aM) : go X 50 34 la st M = kC X 50 (i_ial X 35 la st M) := evC ((pm50 X 34).trans rfl) la st M
theorem e50_35 (X : aX) (la : aLs) (st : List aV) (M : aM) : go X 50 35 la st M = kC X 50 (i_lda 0 36 la st M) := evC ((pm50 X 35).trans rfl) la st M
theorem e50_36 (X : aX) (la : aLs) (st : List aV) (M : aM) : go X 50 36 la st M = kC X 50 (i_ldi 2 37 la st M) := evC ((pm50 X 36).trans rfl) la st M
theorem e50_37 (X : aX) (la : aLs) (st : List aV) (M : aM) : go X 50 37 la st M = kC X 50 (i_ldi 1 38 la st M) := evC ((pm50 X 37).trans rfl) la st M
theorem e50_38 (X : aX) (la : aLs) (st : List aV) (M : aM) : go X 50 38 la st M = kK X 50 51 3 41 4 la st M := evK ((pm50 X 38).trans rfl) la st M
theorem e50_41 (X : aX) (la : aLs) (st : List aV) (M : aM) : go X 50 41 la st M = kC X 50 (i_bin (fun x y => x + y) 42 la st M) := evC ((pm50 X 41).trans rfl) la st M
theorem e50_42 (X : aX) (la : aLs) (st : List aV) (M : aM) : go X 50 42 la st M = kC X 50 (i_sti 3 43 la st M) := evC ((pm50 X 42).trans rfl) la st M
theorem e50_43 (X : aX) (la : aLs) (st : List aV) (M : aM) : go X 50 43 la st M = kC X 50 (i_lda 0 44 la st M) := evC ((pm50 X 43).trans rfl) la st M
theorem e50_44 (X : aX) (la : aLs) (st : List aV) (M : aM) : go X 50 44 la st M = kC X 50 (i_get 3 0 47 la st M) := evC ((pm50 X 44).trans rfl) la st M
theorem e50_47 (X : aX) (la : aLs) (st : List aV) (M : aM) : go X 50 47 la st M = kC X 50 (i_ldi 2 48 la st M) := evC ((pm50 X 47).trans rfl) la st M
theorem e50_48 (X : aX) (la : aLs) (st : List aV) (M : aM) : go X 50 48 la st M = kC X 50 (i_aal 49 la st M) := evC ((pm50 X 48).trans rfl) la st M
theorem e50_49 (X : aX) (la : aLs) (st : List aV) (M : aM) : go X 50 49 la st M = kC X 50 (i_get 2 0 52 la st M) := evC ((pm50 X 49).trans rfl) la st M
theorem e50_52 (X : aX) (la : aLs) (st : List aV) (M : aM) : go X 50 52 la st M = kC X 50 (i_ci (nI 9) 54 la st M) := evC ((pm50 X 52).trans rfl) la st M
theorem e50_54 (X : aX) (la : aLs) (st : List aV) (M : aM) : go X 50 54 la st M = kC X 50 (i_ldi 3 55 la st M) := evC ((pm50 X 54).trans rfl) la st M
theorem e50_55 (X : aX) (la : aLs) (st : List aV) (M : aM) : go X 50 55 la st M = kC X 50 (i_ci (nI 9999) 58 la st M) := evC ((pm50 X 55).trans rfl) la st M
theorem e50_58 (X : aX) (la : aLs) (st : List aV) (M : aM) : go X 50 58 la st M = kC X 50 (i_min 61 la st M) := evC ((pm50 X 58).trans rfl) la st M
theorem e50_61 (X : aX) (la : aLs) (st : List aV) (M : aM) : go X 50 61 la st M = kC X 50 (i_ias 62 la st M) := evC ((pm50 X 61).trans rfl) la st M
theorem e50_62 (X : aX) (la : aLs) (st : List aV) (M : aM) : go X 50 62 la st M = kC X 50 (i_inc 2 (nI 1) 65 la st M) := evC ((pm50 X 62).trans rfl) la st M
theorem e50_65 (X : aX) (la : aLs) (st : List aV) (M : aM) : go X 50 65 la st M = kC X 50 (i_go 7 la st M) := evC ((pm50 X 65).trans rfl) la st M
theorem e50_68 (X : aX) (la : aLs) (st : List aV) (M : aM) : go X 50 68 la st M = kC X 50 (i_lda 0 69 la st M) := evC ((pm50 X 68).trans rfl) la st M
theorem e50_69 (X : aX) (la : aLs) (st : List aV) (M : aM) : go X 50 69 la st M = kC X 50 (i_ldi 1 70 la st M) := evC ((pm50 X 69).trans rfl) la st M
theorem e50_70 (X : aX) (la : aLs) (st : List aV) (M : aM) : go X 50 70 la st M = kC X 50 (i_ife 77 73 la st M) := evC ((pm50 X 70).trans rfl) la st M
theorem e50_73 (X : aX) (la : aLs) (st : List aV) (M : aM) : go X 50 73 la st M = kC X 50 (i_ci (nI 0) 74 la st M) := evC ((pm50 X 73).trans rfl) la st M
theorem e50_74 (X : aX) (la : aLs) (st : List aV) (M : aM) : go X 50 74 la st M = kC X 50 (i_go 88 la st M) := evC ((pm50 X 74).trans rfl) la st M
theorem e50_77 (X : aX) (la : aLs) (st : List aV) (M : aM) : go X 50 77 la st M = kC X 50 (i_lda 0 78 la st M) := evC ((pm50 X 77).trans rfl) la st M
theorem e50_78 (X : aX) (la : aLs) (st : List aV) (M : aM) : go X 50 78 la st M = kC X 50 (i_get 3 4 81 la st M) := evC ((pm50 X 78).trans rfl) la st M
theorem e50_81 (X : aX) (la : aLs) (st : List aV) (M : aM) : go X 50 81 la st M = kC X 50 (i_ci (nI 1) 82 la st M) := evC ((pm50 X 81).trans rfl) la st M
theorem e50_82 (X : aX) (la : aLs) (st : List aV) (M : aM) : go X 50 82 la st M = kC X 50 (i_bin (fun x y => x + y) 83 la st M) := evC ((pm50 X 82).trans rfl) la st M
theorem e50_83 (X : aX) (la : aLs) (st : List aV) (M : aM) : go X 50 83 la st M = kC X 50 (i_ci (nI 99999) 85 la st M) := evC ((pm50 X 83).trans rfl) la st M
theorem e50_85 (X : aX) (la : aLs) (st : List aV) (M : aM) : go X 50 85 la st M = kC X 50 (i_min 88 la st M) := evC ((pm50 X 85).trans rfl) la st M
theorem e50_88 (X : aX) (la : aLs) (st : List aV) (M : aM) : go X 50 88 la st M = kC X 50 (i_put 3 4 0 91 la st M) := evC ((pm50 X 88).trans rfl) la st M
theorem e50_91 (X : aX) (la : aLs) (st : List aV) (M : aM) : go X 50 91 la st M = i_vrt st M := evR ((pm50 X 91).trans rfl) la st M
theorem c50 (X : aX) (as : List aV) (M : aM) : cl X 50 as M = if cs as ≤ 4 then go X 50 0 (ent 4 as) [] M else none := rfl
theorem pm51 (X : aX) (pc : Nat) : pg X 51 pc = lk pc (tb51 X) := rfl
theorem e51_0 (X : aX) (la : aLs) (st : List aV) (M : aM) : go X 51 0 la st M = kC X 51 (i_lda 0 1 la st M) := evC ((pm51 X 0).trans rfl) la st M
theorem e51_1 (X : aX) (la : aLs) (st : List aV) (M : aM) : go X 51 1 la st M = kC X 51 (i_get 3 0 4 la st M) := evC ((pm51 X 1).trans rfl) la st M
theorem e51_4 (X : aX) (la : aLs) (st : List aV) (M : aM) : go X 51 4 la st M = kC X 51 (i_ldi 1 5 la st M) := evC ((pm51 X 4).trans rfl) la st M
theorem e51_5 (X : aX) (la : aLs) (st : List aV) (M : aM) : go X 51 5 la st M = kC X 51 (i_aal 6 la st M) := evC ((pm51 X 5).trans rfl) la st M
theorem e51_6 (X : aX) (la : aLs) (st : List aV) (M : aM) : go X 51 6 la st M = kC X 51 (i_get 2 0 9 la st M) := evC ((pm51 X 6).trans rfl) la st M
theorem e51_9 (X : aX) (la : aLs) (st : List aV) (M : aM) : go X 51 9 la st M = kC X 51 (i_ci (nI 2) 10 la st M) := evC ((pm51 X 9).trans rfl) la st M
theorem e51_10 (X : aX) (la : aLs) (st : List aV) (M : aM) : go X 51 10 la st M = kC X 51 (i_ial X 11 la st M) := evC ((pm51 X 10).trans rfl) la st M
theorem e51_11 (X : aX) (la : aLs) (st : List aV) (M : aM) : go X 51 11 la st M = kC X 51 (i_sti 3 12 la st M) := evC ((pm51 X 11).trans rfl) la st M
theorem e51_12 (X : aX) (la : aLs) (st : List aV) (M : aM) : go X 51 12 la st M = kC X 51 (i_lda 0 13 la st M) := evC ((pm51 X 12).trans rfl) la st M
theorem e51_13 (X : aX) (la : aLs) (st : List aV) (M : aM) : go X 51 13 la st M = kC X 51 (i_ldi 3 14 la st M) := evC ((pm51 X 13).trans rfl) la st M
theorem e51_14 (X : aX) (la : aLs) (st : List aV) (M : aM) : go X 51 14 la st M = kK X 51 27 2 17 4 la st M := evK ((pm51 X 14).trans rfl) la st M
theorem e51_17 (X : aX) (la : aLs) (st : List aV) (M : aM) : go X 51 17 la st M = kC X 51 (i_ife 39 20 la st M) := evC ((pm51 X 17).trans rfl) la st M
theorem e51_20 (X : aX) (la : aLs) (st : List aV) (M : aM) : go X 51 20 la st M = kC X 51 (i_lda 0 21 la st M) := evC ((pm51 X 20).trans rfl) la st M
theorem e51_21 (X : aX) (la : aLs) (st : List aV) (M : aM) : go X 51 21 la st M = kC X 51 (i_get 3 0 24 la st M) := evC ((pm51 X 21).trans rfl) la st M
theorem e51_24 (X : aX) (la : aLs) (st : List aV) (M : aM) : go X 51 24 la st M = kC X 51 (i_ldi 3 25 la st M) := evC ((pm51 X 24).trans rfl) la st M
theorem e51_25 (X : aX) (la : aLs) (st : List aV) (M : aM) : go X 51 25 la st M = kC X 51 (i_aal 26 la st M) := evC ((pm51 X 25).trans rfl) la st M
theorem e51_26 (X : aX) (la : aLs) (st : List aV) (M : aM) : go X 51 26 la st M = kC X 51 (i_get 2 0 29 la st M) := evC ((pm51 X 26).trans rfl) la st M
theorem e51_29 (X : aX) (la : aLs) (st : List aV) (M : aM) : go X 51 29 la st M = kC X 51 (i_ci (nI 6) 31 la st M) := evC ((pm51 X 29).trans rfl) la st M
theorem e51_31 (X : aX) (la : aLs) (st : List aV) (M : aM) : go X 51 31 la st M = kC X 51 (i_ial X 32 la st M) := evC ((pm51 X 31).trans rfl) la st M
theorem e51_32 (X : aX) (la : aLs) (st : List aV) (M : aM) : go X 51 32 la st M = kC X 51 (i_ife 35 39 la st M) := evC ((pm51 X 32).trans rfl) la st M
theorem e51_35 (X : aX) (la : aLs) (st : List aV) (M : aM) : go X 51 35 la st M = kC X 51 (i_ci (nI 1) 36 la st M) := evC ((pm51 X 35).trans rfl) la st M
theorem e51_36 (X : aX) (la : aLs) (st : List aV) (M : aM) : go X 51 36 la st M = kC X 51 (i_go 40 la st M) := evC ((pm51 X 36).trans rfl) la st M
theorem e51_39 (X : aX) (la : aLs) (st : List aV) (M : aM) : go X 51 39 la st M = kC X 51 (i_ci (nI 0) 40 la st M) := evC ((pm51 X 39).trans rfl) la st M
theorem e51_40 (X : aX) (la : aLs) (st : List aV) (M : aM) : go X 51 40 la st M = kC X 51 (i_sti 4 42 la st M) := evC ((pm51 X 40).trans rfl) la st M
theorem e51_42 (X : aX) (la : aLs) (st : List aV) (M : aM) : go X 51 42 la st M = kC X 51 (i_lda 0 43 la st M) := evC ((pm51 X 42).trans rfl) la st M
theorem e51_43 (X : aX) (la : aLs) (st : List aV) (M : aM) : go X 51 43 la st M = kC X 51 (i_get 3 0 46 la st M) := evC ((pm51 X 43).trans rfl) la st M
theorem e51_46 (X : aX) (la : aLs) (st : List aV) (M : aM) : go X 51 46 la st M = kC X 51 (i_ldi 1 47 la st M) := evC ((pm51 X 46).trans rfl) la st M
theorem e51_47 (X : aX) (la : aLs) (st : List aV) (M : aM) : go X 51 47 la st M = kC X 51 (i_aal 48 la st M) := evC ((pm51 X 47).trans rfl) la st M
theorem e51_48 (X : aX) (la : aLs) (st : List aV) (M : aM) : go X 51 48 la st M = kC X 51 (i_ldi 4 50 la st M) := evC ((pm51 X 48).trans rfl) la st M
theorem e51_50 (X : aX) (la : aLs) (st : List aV) (M : aM) : go X 51 50 la st M = kC X 51 (i_ldi 2 51 la st M) := evC ((pm51 X 50).trans rfl) la st M
theorem e51_51 (X : aX) (la : aLs) (st : List aV) (M : aM) : go X 51 51 la st M = kC X 51 (i_ci (nI 1) 52 la st M) := evC ((pm51 X 51).trans rfl) la st M
theorem e51_52 (X : aX) (la : aLs) (st : List aV) (M : aM) : go X 51 52 la st M = kC X 51 (i_ldi 1 53 la st M) := evC ((pm51 X 52).trans rfl) la st M
theorem e51_53 (X : aX) (la : aLs) (st : List aV) (M : aM) : go X 51 53 la st M = kC X 51 (i_bin (fun x y => x <<< (y &&& 31)) 54 la st M) := evC ((pm51 X 53).trans rfl) la st M
theorem e51_54 (X : aX) (la : aLs) (st : List aV) (M : aM) : go X 51 54 la st M = kC X 51 (i_ci (-1) 55 la st M) := evC ((pm51 X 54).trans rfl) la st M
theorem e51_55 (X : aX) (la : aLs) (st : List aV) (M : aM) : go X 51 55 la st M = kC X 51 (i_bin (fun x y => x ^^^ y) 56 la st M) := evC ((pm51 X 55).trans rfl) la st M
theorem e51_56 (X : aX) (la : aLs) (st : List aV) (M : aM) : go X 51 56 la st M = kC X 51 (i_bin (fun x y => x &&& y) 57 la st M) := evC ((pm51 X 56).trans rfl) la st M
theorem e51_57 (X : aX) (la : aLs) (st : List aV) (M : aM) : go X 51 57 la st M = kC X 51 (i_ife 60 64 la st M) := evC ((pm51 X 57).trans rfl) la st M
theorem e51_60 (X : aX) (la : aLs) (st : List aV) (M : aM) : go X 51 60 la st M = kC X 51 (i_ci (nI 1) 61 la st M) := evC ((pm51 X 60).trans rfl) la st M
theorem e51_61 (X : aX) (la : aLs) (st : List aV) (M : aM) : go X 51 61 la st M = kC X 51 (i_go 65 la st M) := evC ((pm51 X 61).trans rfl) la st M
theorem e51_64 (X : aX) (la : aLs) (st : List aV) (M : aM) : go X 51 64 la st M = kC X 51 (i_ci (nI 0) 65 la st M) := evC ((pm51 X 64).trans rfl) la st M
theorem e51_65 (X : aX) (la : aLs) (st : List aV) (M : aM) : go X 51 65 la st M = kK X 51 22 3 68 3 la st M := evK ((pm51 X 65).trans rfl) la st M
theorem e51_68 (X : aX) (la : aLs) (st : List aV) (M : aM) : go X 51 68 la st M = i_irt st M := evR ((pm51 X 68).trans rfl) la st M
theorem c51 (X : aX) (as : List aV) (M : aM) : cl X 51 as M = if cs as ≤ 5 then go X 51 0 (ent 5 as) [] M else none := rfl
theorem pm52 (X : aX) (pc : Nat) : pg X 52 pc = lk pc (tb52 X) := rfl
theorem e52_0 (X : aX) (la : aLs) (st : List aV) (M : aM) : go X 52 0 la st M = kC X 52 (i_ci (nI 0) 1 la st M) := evC ((pm52 X 0).trans rfl) la st M
theorem e52_1 (X : aX) (la : aLs) (st : List aV) (M : aM) : go X 52 1 la st M = kC X 52 (i_sti 1 2 la st M) := evC ((pm52 X 1).trans rfl) la st M
theorem e52_2 (X : aX) (la : aLs) (st : List aV) (M : aM) : go X 52 2 la st M = kC X 52 (i_ldi 1 3 la st M) := evC ((pm52 X 2).trans rfl) la st M
theorem e52_3 (X : aX) (la : aLs) (st : List aV) (M : aM) : go X 52 3 la st M = kC X 52 (i_lda 0 4 la st M) := evC ((pm52 X 3).trans rfl) la st M
theorem e52_4 (X : aX) (la : aLs) (st : List aV) (M : aM) : go X 52 4 la st M = kC X 52 (i_get 3 2 7 la st M) := evC ((pm52 X 4).trans rfl) la st M
theorem e52_7 (X : aX) (la : aLs) (st : List aV) (M : aM) : go X 52 7 la st M = kC X 52 (i_cml 10 40 la st M) := evC ((pm52 X 7).trans rfl) la st M
theorem e52_10 (X : aX) (la : aLs) (st : List aV) (M : aM) : go X 52 10 la st M = kC X 52 (i_lda 0 11 la st M) := evC ((pm52 X 10).trans rfl) la st M
theorem e52_11 (X : aX) (la : aLs) (st : List aV) (M : aM) : go X 52 11 la st M = kC X 52 (i_get 3 0 14 la st M) := evC ((pm52 X 11).trans rfl) la st M
theorem e52_14 (X : aX) (la : aLs) (st : List aV) (M : aM) : go X 52 14 la st M = kC X 52 (i_ldi 1 15 la st M) := evC ((pm52 X 14).trans rfl) la st M
theorem e52_15 (X : aX) (la : aLs) (st : List aV) (M : aM) : go X 52 15 la st M = kC X 52 (i_aal 16 la st M) := evC ((pm52 X 15).trans rfl) la st M
theorem e52_16 (X : aX) (la : aLs) (st : List aV) (M : aM) : go X 52 16 la st M = kC X 52 (i_get 2 0 19 la st M) := evC ((pm52 X 16).trans rfl) la st M
theorem e52_19 (X : aX) (la : aLs) (st : List aV) (M : aM) : go X 52 19 la st M = kC X 52 (i_ci (nI 6) 21 la st M) := evC ((pm52 X 19).trans rfl) la st M
theorem e52_21 (X : aX) (la : aLs) (st : List aV) (M : aM) : go X 52 21 la st M = kC X 52 (i_ial X 22 la st M) := evC ((pm52 X 21).trans rfl) la st M
theorem e52_22 (X : aX) (la : aLs) (st : List aV) (M : aM) : go X 52 22 la st M = kC X 52 (i_ife 25 34 la st M) := evC ((pm52 X 22).trans rfl) la st M
theorem e52_25 (X : aX) (la : aLs) (st : List aV) (M : aM) : go X 52 25 la st M = kC X 52 (i_lda 0 26 la st M) := evC ((pm52 X 25).trans rfl) la st M
theorem e52_26 (X : aX) (la : aLs) (st : List aV) (M : aM) : go X 52 26 la st M = kC X 52 (i_get 3 0 29 la st M) := evC ((pm52 X 26).trans rfl) la st M
theorem e52_29 (X : aX) (la : aLs) (st : List aV) (M : aM) : go X 52 29 la st M = kC X 52 (i_ldi 1 30 la st M) := evC ((pm52 X 29).trans rfl) la st M
theorem e52_30 (X : aX) (la : aLs) (st : List aV) (M : aM) : go X 52 30 la st M = kC X 52 (i_aal 31 la st M) := evC ((pm52 X 30).trans rfl) la st M
theorem e52_31 (X : aX) (la : aLs) (st : List aV) (M : aM) : go X 52 31 la st M = kK X 52 24 1 34 3 la st M := evK ((pm52 X 31).trans rfl) la st M
theorem e52_34 (X : aX) (la : aLs) (st : List aV) (M : aM) : go X 52 34 la st M = kC X 52 (i_inc 1 (nI 1) 37 la st M) := evC ((pm52 X 34).trans rfl) la st M
theorem e52_37 (X : aX) (la : aLs) (st : List aV) (M : aM) : go X 52 37 la st M = kC X 52 (i_go 2 la st M) := evC ((pm52 X 37).trans rfl) la st M
theorem e52_40 (X : aX) (la : aLs) (st : List aV) (M : aM) : go X 52 40 la st M = i_vrt st M := evR ((pm52 X 40).trans rfl) la st M
theorem c52 (X : aX) (as : List aV) (M : aM) : cl X 52 as M = if cs as ≤ 2 then go X 52 0 (ent 2 as) [] M else none := rfl
theorem pm53 (X : aX) (pc : Nat) : pg X 53 pc = lk pc (tb53 X) := rfl
theorem e53_0 (X : aX) (la : aLs) (st : List aV) (M : aM) : go X 53 0 la st M = kC X 53 (i_lda 0 1 la st M) := evC ((pm53 X 0).trans rfl) la st M
theorem e53_1 (X : aX) (la : aLs) (st : List aV) (M : aM) : go X 53 1 la st M = kC X 53 (i_oin 4 la st M) := evC ((pm53 X 1).trans rfl) la st M
theorem e53_4 (X : aX) (la : aLs) (st : List aV) (M : aM) : go X 53 4 la st M = kC X 53 (i_lda 0 5 la st M) := evC ((pm53 X 4).trans rfl) la st M
theorem e53_5 (X : aX) (la : aLs) (st : List aV) (M : aM) : go X 53 5 la st M = kC X 53 (i_ci (nI 120) 7 la st M) := evC ((pm53 X 5).trans rfl) la st M
theorem e53_7 (X : aX) (la : aLs) (st : List aV) (M : aM) : go X 53 7 la st M = kC X 53 (i_nwa 9 la st M) := evC ((pm53 X 7).trans rfl) la st M
theorem e53_9 (X : aX) (la : aLs) (st : List aV) (M : aM) : go X 53 9 la st M = kC X 53 (i_put 4 0 2 12 la st M) := evC ((pm53 X 9).trans rfl) la st M
theorem e53_12 (X : aX) (la : aLs) (st : List aV) (M : aM) : go X 53 12 la st M = kC X 53 (i_lda 0 13 la st M) := evC ((pm53 X 12).trans rfl) la st M
theorem e53_13 (X : aX) (la : aLs) (st : List aV) (M : aM) : go X 53 13 la st M = kC X 53 (i_ci (nI 0) 14 la st M) := evC ((pm53 X 13).trans rfl) la st M
theorem e53_14 (X : aX) (la : aLs) (st : List aV) (M : aM) : go X 53 14 la st M = kC X 53 (i_put 4 1 0 17 la st M) := evC ((pm53 X 14).trans rfl) la st M
theorem e53_17 (X : aX) (la : aLs) (st : List aV) (M : aM) : go X 53 17 la st M = kC X 53 (i_lda 0 18 la st M) := evC ((pm53 X 17).trans rfl) la st M
theorem e53_18 (X : aX) (la : aLs) (st : List aV) (M : aM) : go X 53 18 la st M = kC X 53 (i_ci (nI 0) 19 la st M) := evC ((pm53 X 18).trans rfl) la st M
theorem e53_19 (X : aX) (la : aLs) (st : List aV) (M : aM) : go X 53 19 la st M = kC X 53 (i_put 4 2 0 22 la st M) := evC ((pm53 X 19).trans rfl) la st M
theorem e53_22 (X : aX) (la : aLs) (st : List aV) (M : aM) : go X 53 22 la st M = kC X 53 (i_lda 0 23 la st M) := evC ((pm53 X 22).trans rfl) la st M
theorem e53_23 (X : aX) (la : aLs) (st : List aV) (M : aM) : go X 53 23 la st M = kC X 53 (i_ci (nI 0) 24 la st M) := evC ((pm53 X 23).trans rfl) la st M
theorem e53_24 (X : aX) (la : aLs) (st : List aV) (M : aM) : go X 53 24 la st M = kC X 53 (i_put 4 3 0 27 la st M) := evC ((pm53 X 24).trans rfl) la st M
theorem e53_27 (X : aX) (la : aLs) (st : List aV) (M : aM) : go X 53 27 la st M = kC X 53 (i_lda 0 28 la st M) := evC ((pm53 X 27).trans rfl) la st M
theorem e53_28 (X : aX) (la : aLs) (st : List aV) (M : aM) : go X 53 28 la st M = kC X 53 (i_ci (nI 0) 29 la st M) := evC ((pm53 X 28).trans rfl) la st M
theorem e53_29 (X : aX) (la : aLs) (st : List aV) (M : aM) : go X 53 29 la st M = kC X 53 (i_put 4 4 0 32 la st M) := evC ((pm53 X 29).trans rfl) la st M
theorem e53_32 (X : aX) (la : aLs) (st : List aV) (M : aM) : go X 53 32 la st M = kC X 53 (i_lda 0 33 la st M) := evC ((pm53 X 32).trans rfl) la st M
theorem e53_33 (X : aX) (la : aLs) (st : List aV) (M : aM) : go X 53 33 la st M = kC X 53 (i_ci (nI 0) 34 la st M) := evC ((pm53 X 33).trans rfl) la st M
theorem e53_34 (X : aX) (la : aLs) (st : List aV) (M : aM) : go X 53 34 la st M = kC X 53 (i_put 4 5 0 37 la st M) := evC ((pm53 X 34).trans rfl) la st M
theorem e53_37 (X : aX) (la : aLs) (st : List aV) (M : aM) : go X 53 37 la st M = i_vrt st M := evR ((pm53 X 37).trans rfl) la st M
theorem c53 (X : aX) (as : List aV) (M : aM) : cl X 53 as M = if cs as ≤ 1 then go X 53 0 (ent 1 as) [] M else none := rfl
theorem pm54 (X : aX) (pc : Nat) : pg X 54 pc = lk pc (tb54 X) := rfl
theorem e54_0 (X : aX) (la : aLs) (st : List aV) (M : aM) : go X 54 0 la st M = kC X 54 (i_lda 0 1 la st M) := evC ((pm54 X 0).trans rfl) la st M
theorem e54_1 (X : aX) (la : aLs) (st : List aV) (M : aM) : go X 54 1 la st M = kC X 54 (i_get 4 1 4 la st M) := evC ((pm54 X 1).trans rfl) la st M
theorem e54_4 (X : aX) (la : aLs) (st : List aV) (M : aM) : go X 54 4 la st M = kC X 54 (i_ldi 1 5 la st M) := evC ((pm54 X 4).trans rfl) la st M
theorem e54_5 (X : aX) (la : aLs) (st : List aV) (M : aM) : go X 54 5 la st M = kC X 54 (i_bin (fun x y => x + y) 6 la st M) := evC ((pm54 X 5).trans rfl) la st M
theorem e54_6 (X : aX) (la : aLs) (st : List aV) (M : aM) : go X 54 6 la st M = kC X 54 (i_ci (nI 120) 8 la st M) := evC ((pm54 X 6).trans rfl) la st M
theorem e54_8 (X : aX) (la : aLs) (st : List aV) (M : aM) : go X 54 8 la st M = kC X 54 (i_cmg 15 11 la st M) := evC ((pm54 X 8).trans rfl) la st M
theorem e54_11 (X : aX) (la : aLs) (st : List aV) (M : aM) : go X 54 11 la st M = kC X 54 (i_ci (nI 1) 12 la st M) := evC ((pm54 X 11).trans rfl) la st M
theorem e54_12 (X : aX) (la : aLs) (st : List aV) (M : aM) : go X 54 12 la st M = kC X 54 (i_go 16 la st M) := evC ((pm54 X 12).trans rfl) la st M
theorem e54_15 (X : aX) (la : aLs) (st : List aV) (M : aM) : go X 54 15 la st M = kC X 54 (i_ci (nI 0) 16 la st M) := evC ((pm54 X 15).trans rfl) la st M
theorem e54_16 (X : aX) (la : aLs) (st : List aV) (M : aM) : go X 54 16 la st M = i_zrt st M := evR ((pm54 X 16).trans rfl) la st M
theorem c54 (X : aX) (as : List aV) (M : aM) : cl X 54 as M = if cs as ≤ 2 then go X 54 0 (ent 2 as) [] M else none := rfl
theorem pm55 (X : aX) (pc : Nat) : pg X 55 pc = lk pc (tb55 X) := rfl
theorem e55_0 (X : aX) (la : aLs) (st : List aV) (M : aM) : go X 55 0 la st M = kC X 55 (i_lda 0 1 la st M) := evC ((pm55 X 0).trans rfl) la st M
theorem e55_1 (X : aX) (la : aLs) (st : List aV) (M : aM) : go X 55 1 la st M = kC X 55 (i_ci (nI 1) 2 la st M) := evC ((pm55 X 1).trans rfl) la st M
theorem e55_2 (X : aX) (la : aLs) (st : List aV) (M : aM) : go X 55 2 la st M = kK X 55 54 2 5 5 la st M := evK ((pm55 X 2).trans rfl) la st M
theorem e55_5 (X : aX) (la : aLs) (st : List aV) (M : aM) : go X 55 5 la st M = kC X 55 (i_ife 28 8 la st M) := evC ((pm55 X 5).trans rfl) la st M
theorem e55_8 (X : aX) (la : aLs) (st : List aV) (M : aM) : go X 55 8 la st M = kC X 55 (i_lda 0 9 la st M) := evC ((pm55 X 8).trans rfl) la st M
theorem e55_9 (X : aX) (la : aLs) (st : List aV) (M : aM) : go X 55 9 la st M = kC X 55 (i_get 4 0 12 la st M) := evC ((pm55 X 9).trans rfl) la st M
theorem e55_12 (X : aX) (la : aLs) (st : List aV) (M : aM) : go X 55 12 la st M = kC X 55 (i_lda 0 13 la st M) := evC ((pm55 X 12).trans rfl) la st M
theorem e55_13 (X : aX) (la : aLs) (st : List aV) (M : aM) : go X 55 13 la st M = kC X 55 (i_get 4 1 16 la st M) := evC ((pm55 X 13).trans rfl) la st M
theorem e55_16 (X : aX) (la : aLs) (st : List aV) (M : aM) : go X 55 16 la st M = kC X 55 (i_ldi 1 17 la st M) := evC ((pm55 X 16).trans rfl) la st M
theorem e55_17 (X : aX) (la : aLs) (st : List aV) (M : aM) : go X 55 17 la st M = kC X 55 (i_ias 18 la st M) := evC ((pm55 X 17).trans rfl) la st M
theorem e55_18 (X : aX) (la : aLs) (st : List aV) (M : aM) : go X 55 18 la st M = kC X 55 (i_lda 0 19 la st M) := evC ((pm55 X 18).trans rfl) la st M
theorem e55_19 (X : aX) (la : aLs) (st : List aV) (M : aM) : go X 55 19 la st M = kC X 55 (i_dup 20 la st M) := evC ((pm55 X 19).trans rfl) la st M
theorem e55_20 (X : aX) (la : aLs) (st : List aV) (M : aM) : go X 55 20 la st M = kC X 55 (i_get 4 1 23 la st M) := evC ((pm55 X 20).trans rfl) la st M
theorem e55_23 (X : aX) (la : aLs) (st : List aV) (M : aM) : go X 55 23 la st M = kC X 55 (i_ci (nI 1) 24 la st M) := evC ((pm55 X 23).trans rfl) la st M
theorem e55_24 (X : aX) (la : aLs) (st : List aV) (M : aM) : go X 55 24 la st M = kC X 55 (i_bin (fun x y => x + y) 25 la st M) := evC ((pm55 X 24).trans rfl) la st M
theorem e55_25 (X : aX) (la : aLs) (st : List aV) (M : aM) : go X 55 25 la st M = kC X 55 (i_put 4 1 0 28 la st M) := evC ((pm55 X 25).trans rfl) la st M
theorem e55_28 (X : aX) (la : aLs) (st : List aV) (M : aM) : go X 55 28 la st M = i_vrt st M := evR ((pm55 X 28).trans rfl) la st M
theorem c55 (X : aX) (as : List aV) (M : aM) : cl X 55 as M = if cs as ≤ 2 then go X 55 0 (ent 2 as) [] M else none := rfl
theorem pm56 (X : aX) (pc : Nat) : pg X 56 pc = lk pc (tb56 X) := rfl
theorem e56_0 (X : aX) (la : aLs) (st : List aV) (M : aM) : go X 56 0 la st M = kC X 56 (i_lda 0 1 la st M) := evC ((pm56 X 0).trans rfl) la st M
theorem e56_1 (X : aX) (la : aLs) (st : List aV) (M : aM) : go X 56 1 la st M = kC X 56 (i_ci (nI 0) 2 la st M) := evC ((pm56 X 1).trans rfl) la st M
theorem e56_2 (X : aX) (la : aLs) (st : List aV) (M : aM) : go X 56 2 la st M = kC X 56 (i_put 4 5 0 5 la st M) := evC ((pm56 X 2).trans rfl) la st M
theorem e56_5 (X : aX) (la : aLs) (st : List aV) (M : aM) : go X 56 5 la st M = kC X 56 (i_lda 0 6 la st M) := evC ((pm56 X 5).trans rfl) la st M
theorem e56_6 (X : aX) (la : aLs) (st : List aV) (M : aM) : go X 56 6 la st M = kK X 56 57 1 9 5 la st M := evK ((pm56 X 6).trans rfl) la st M
theorem e56_9 (X : aX) (la : aLs) (st : List aV) (M : aM) : go X 56 9 la st M = i_vrt st M := evR ((pm56 X 9).trans rfl) la st M
theorem c56 (X : aX) (as : List aV) (M : aM) : cl X 56 as M = if cs as ≤ 1 then go X 56 0 (ent 1 as) [] M else none := rfl
theorem pm57 (X : aX) (pc : Nat) : pg X 57 pc = lk pc (tb57 X) := rfl
theorem e57_0 (X : aX) (la : aLs) (st : List aV) (M : aM) : go X 57 0 la st M = kC X 57 (i_lda 0 1 la st M) := evC ((pm57 X 0).trans rfl) la st M
theorem e57_1 (X : aX) (la : aLs) (st : List aV) (M : aM) : go X 57 1 la st M = kC X 57 (i_lda 0 2 la st M) := evC ((pm57 X 1).trans rfl) la st M
theorem e57_2 (X : aX) (la : aLs) (st : List aV) (M : aM) : go X 57 2 la st M = kC X 57 (i_get 4 5 5 la st M) := evC ((pm57 X 2).trans rfl) la st M
theorem e57_5 (X : aX) (la : aLs) (st : List aV) (M : aM) : go X 57 5 la st M = kC X 57 (i_put 4 3 0 8 la st M) := evC ((pm57 X 5).trans rfl) la st M
theorem e57_8 (X : aX) (la : aLs) (st : List aV) (M : aM) : go X 57 8 la st M = kC X 57 (i_lda 0 9 la st M) := evC ((pm57 X 8).trans rfl) la st M
theorem e57_9 (X : aX) (la : aLs) (st : List aV) (M : aM) : go X 57 9 la st M = kC X 57 (i_get 4 3 12 la st M) := evC ((pm57 X 9).trans rfl) la st M
theorem e57_12 (X : aX) (la : aLs) (st : List aV) (M : aM) : go X 57 12 la st M = kC X 57 (i_lda 0 13 la st M) := evC ((pm57 X 12).trans rfl) la st M
theorem e57_13 (X : aX) (la : aLs) (st : List aV) (M : aM) : go X 57 13 la st M = kC X 57 (i_get 4 1 16 la st M) := evC ((pm57 X 13).trans rfl) la st M
theorem e57_16 (X : aX) (la : aLs) (st : List aV) (M : aM) : go X 57 16 la st M = kC X 57 (i_cml 19 46 la st M) := evC ((pm57 X 16).trans rfl) la st M
theorem e57_19 (X : aX) (la : aLs) (st : List aV) (M : aM) : go X 57 19 la st M = kC X 57 (i_lda 0 20 la st M) := evC ((pm57 X 19).trans rfl) la st M
theorem e57_20 (X : aX) (la : aLs) (st : List aV) (M : aM) : go X 57 20 la st M = kC X 57 (i_get 4 0 23 la st M) := evC ((pm57 X 20).trans rfl) la st M
theorem e57_23 (X : aX) (la : aLs) (st : List aV) (M : aM) : go X 57 23 la st M = kC X 57 (i_lda 0 24 la st M) := evC ((pm57 X 23).trans rfl) la st M
theorem e57_24 (X : aX) (la : aLs) (st : List aV) (M : aM) : go X 57 24 la st M = kC X 57 (i_get 4 3 27 la st M) := evC ((pm57 X 24).trans rfl) la st M
theorem e57_27 (X : aX) (la : aLs) (st : List aV) (M : aM) : go X 57 27 la st M = kC X 57 (i_ial X 28 la st M) := evC ((pm57 X 27).trans rfl) la st M
theorem e57_28 (X : aX) (la : aLs) (st : List aV) (M : aM) : go X 57 28 la st M = kC X 57 (i_ci (nI 32) 30 la st M) := evC ((pm57 X 28).trans rfl) la st M
theorem e57_30 (X : aX) (la : aLs) (st : List aV) (M : aM) : go X 57 30 la st M = kC X 57 (i_cme 33 46 la st M) := evC ((pm57 X 30).trans rfl) la st M
theorem e57_33 (X : aX) (la : aLs) (st : List aV) (M : aM) : go X 57 33 la st M = kC X 57 (i_lda 0 34 la st M) := evC ((pm57 X 33).trans rfl) la st M
theorem e57_34 (X : aX) (la : aLs) (st : List aV) (M : aM) : go X 57 34 la st M = kC X 57 (i_dup 35 la st M) := evC ((pm57 X 34).trans rfl) la st M
theorem e57_35 (X : aX) (la : aLs) (st : List aV) (M : aM) : go X 57 35 la st M = kC X 57 (i_get 4 3 38 la st M) := evC ((pm57 X 35).trans rfl) la st M
theorem e57_38 (X : aX) (la : aLs) (st : List aV) (M : aM) : go X 57 38 la st M = kC X 57 (i_ci (nI 1) 39 la st M) := evC ((pm57 X 38).trans rfl) la st M
theorem e57_39 (X : aX) (la : aLs) (st : List aV) (M : aM) : go X 57 39 la st M = kC X 57 (i_bin (fun x y => x + y) 40 la st M) := evC ((pm57 X 39).trans rfl) la st M
theorem e57_40 (X : aX) (la : aLs) (st : List aV) (M : aM) : go X 57 40 la st M = kC X 57 (i_put 4 3 0 43 la st M) := evC ((pm57 X 40).trans rfl) la st M
theorem e57_43 (X : aX) (la : aLs) (st : List aV) (M : aM) : go X 57 43 la st M = kC X 57 (i_go 8 la st M) := evC ((pm57 X 43).trans rfl) la st M
theorem e57_46 (X : aX) (la : aLs) (st : List aV) (M : aM) : go X 57 46 la st M = kC X 57 (i_lda 0 47 la st M) := evC ((pm57 X 46).trans rfl) la st M
theorem e57_47 (X : aX) (la : aLs) (st : List aV) (M : aM) : go X 57 47 la st M = kC X 57 (i_lda 0 48 la st M) := evC ((pm57 X 47).trans rfl) la st M
theorem e57_48 (X : aX) (la : aLs) (st : List aV) (M : aM) : go X 57 48 la st M = kC X 57 (i_lda 0 49 la st M) := evC ((pm57 X 48).trans rfl) la st M
theorem e57_49 (X : aX) (la : aLs) (st : List aV) (M : aM) : go X 57 49 la st M = kC X 57 (i_get 4 3 52 la st M) := evC ((pm57 X 49).trans rfl) la st M
theorem e57_52 (X : aX) (la : aLs) (st : List aV) (M : aM) : go X 57 52 la st M = kK X 57 59 2 55 5 la st M := evK ((pm57 X 52).trans rfl) la st M
theorem e57_55 (X : aX) (la : aLs) (st : List aV) (M : aM) : go X 57 55 la st M = kC X 57 (i_put 4 2 0 58 la st M) := evC ((pm57 X 55).trans rfl) la st M
theorem e57_58 (X : aX) (la : aLs) (st : List aV) (M : aM) : go X 57 58 la st M = kC X 57 (i_lda 0 59 la st M) := evC ((pm57 X 58).trans rfl) la st M
theorem e57_59 (X : aX) (la : aLs) (st : List aV) (M : aM) : go X 57 59 la st M = kC X 57 (i_lda 0 60 la st M) := evC ((pm57 X 59).trans rfl) la st M
theorem e57_60 (X : aX) (la : aLs) (st : List aV) (M : aM) : go X 57 60 la st M = kC X 57 (i_get 4 2 63 la st M) := evC ((pm57 X 60).trans rfl) la st M
theorem e57_63 (X : aX) (la : aLs) (st : List aV) (M : aM) : go X 57 63 la st M = kC X 57 (i_ife 66 73 la st M) := evC ((pm57 X 63).trans rfl) la st M
theorem e57_66 (X : aX) (la : aLs) (st : List aV) (M : aM) : go X 57 66 la st M = kC X 57 (i_lda 0 67 la st M) := evC ((pm57 X 66).trans rfl) la st M
theorem e57_67 (X : aX) (la : aLs) (st : List aV) (M : aM) : go X 57 67 la st M = kC X 57 (i_get 4 3 70 la st M) := evC ((pm57 X 67).trans rfl) la st M
theorem e57_70 (X : aX) (la : aLs) (st : List aV) (M : aM) : go X 57 70 la st M = kC X 57 (i_go 79 la st M) := evC ((pm57 X 70).trans rfl) la st M
theorem e57_73 (X : aX) (la : aLs) (st : List aV) (M : aM) : go X 57 73 la st M = kC X 57 (i_lda 0 74 la st M) := evC ((pm57 X 73).trans rfl) la st M
theorem e57_74 (X : aX) (la : aLs) (st : List aV) (M : aM) : go X 57 74 la st M = kC X 57 (i_get 4 3 77 la st M) := evC ((pm57 X 74).trans rfl) la st M
theorem e57_77 (X : aX) (la : aLs) (st : List aV) (M : aM) : go X 57 77 la st M = kC X 57 (i_ci (nI 1) 78 la st M) := evC ((pm57 X 77).trans rfl) la st M
theorem e57_78 (X : aX) (la : aLs) (st : List aV) (M : aM) : go X 57 78 la st M = kC X 57 (i_bin (fun x y => x + y) 79 la st M) := evC ((pm57 X 78).trans rfl) la st M
theorem e57_79 (X : aX) (la : aLs) (st : List aV) (M : aM) : go X 57 79 la st M = kC X 57 (i_put 4 5 0 82 la st M) := evC ((pm57 X 79).trans rfl) la st M
theorem e57_82 (X : aX) (la : aLs) (st : List aV) (M : aM) : go X 57 82 la st M = kC X 57 (i_lda 0 83 la st M) := evC ((pm57 X 82).trans rfl) la st M
theorem e57_83 (X : aX) (la : aLs) (st : List aV) (M : aM) : go X 57 83 la st M = kC X 57 (i_get 4 2 86 la st M) := evC ((pm57 X 83).trans rfl) la st M
theorem e57_86 (X : aX) (la : aLs) (st : List aV) (M : aM) : go X 57 86 la st M = kC X 57 (i_ci (nI 1) 87 la st M) := evC ((pm57 X 86).trans rfl) la st M
theorem e57_87 (X : aX) (la : aLs) (st : List aV) (M : aM) : go X 57 87 la st M = kC X 57 (i_cme 98 90 la st M) := evC ((pm57 X 87).trans rfl) la st M
theorem e57_90 (X : aX) (la : aLs) (st : List aV) (M : aM) : go X 57 90 la st M = kC X 57 (i_lda 0 91 la st M) := evC ((pm57 X 90).trans rfl) la st M
theorem e57_91 (X : aX) (la : aLs) (st : List aV) (M : aM) : go X 57 91 la st M = kC X 57 (i_get 4 2 94 la st M) := evC ((pm57 X 91).trans rfl) la st M
theorem e57_94 (X : aX) (la : aLs) (st : List aV) (M : aM) : go X 57 94 la st M = kC X 57 (i_ci (nI 2) 95 la st M) := evC ((pm57 X 94).trans rfl) la st M
theorem e57_95 (X : aX) (la : aLs) (st : List aV) (M : aM) : go X 57 95 la st M = kC X 57 (i_cme 98 137 la st M) := evC ((pm57 X 95).trans rfl) la st M
theorem e57_98 (X : aX) (la : aLs) (st : List aV) (M : aM) : go X 57 98 la st M = kC X 57 (i_lda 0 99 la st M) := evC ((pm57 X 98).trans rfl) la st M
theorem e57_99 (X : aX) (la : aLs) (st : List aV) (M : aM) : go X 57 99 la st M = kC X 57 (i_get 4 5 102 la st M) := evC ((pm57 X 99).trans rfl) la st M
theorem e57_102 (X : aX) (la : aLs) (st : List aV) (M : aM) : go X 57 102 la st M = kC X 57 (i_lda 0 103 la st M) := evC ((pm57 X 102).trans rfl) la st M
theorem e57_103 (X : aX) (la : aLs) (st : List aV) (M : aM) : go X 57 103 la st M = kC X 57 (i_get 4 1 106 la st M) := evC ((pm57 X 103).trans rfl) la st M
theorem e57_106 (X : aX) (la : aLs) (st : List aV) (M : aM) : go X 57 106 la st M = kC X 57 (i_cml 109 137 la st M) := evC ((pm57 X 106).trans rfl) la st M
theorem e57_109 (X : aX) (la : aLs) (st : List aV) (M : aM) : go X 57 109 la st M = kC X 57 (i_lda 0 110 la st M) := evC ((pm57 X 109).trans rfl) la st M
theorem e57_110 (X : aX) (la : aLs) (st : List aV) (M : aM) : go X 57 110 la st M = kC X 57 (i_lda 0 111 la st M) := evC ((pm57 X 110).trans rfl) la st M
theorem e57_111 (X : aX) (la : aLs) (st : List aV) (M : aM) : go X 57 111 la st M = kC X 57 (i_get 4 5 114 la st M) := evC ((pm57 X 111).trans rfl) la st M
theorem e57_114 (X : aX) (la : aLs) (st : List aV) (M : aM) : go X 57 114 la st M = kK X 57 59 2 117 5 la st M := evK ((pm57 X 114).trans rfl) la st M
theorem e57_117 (X : aX) (la : aLs) (st : List aV) (M : aM) : go X 57 117 la st M = kC X 57 (i_lda 0 118 la st M) := evC ((pm57 X 117).trans rfl) la st M
theorem e57_118 (X : aX) (la : aLs) (st : List aV) (M : aM) : go X 57 118 la st M = kC X 57 (i_get 4 2 121 la st M) := evC ((pm57 X 118).trans rfl) la st M
theorem e57_121 (X : aX) (la : aLs) (st : List aV) (M : aM) : go X 57 121 la st M = kC X 57 (i_cme 124 137 la st M) := evC ((pm57 X 121).trans rfl) la st M
theorem e57_124 (X : aX) (la : aLs) (st : List aV) (M : aM) : go X 57 124 la st M = kC X 57 (i_lda 0 125 la st M) := evC ((pm57 X 124).trans rfl) la st M
theorem e57_125 (X : aX) (la : aLs) (st : List aV) (M : aM) : go X 57 125 la st M = kC X 57 (i_dup 126 la st M) := evC ((pm57 X 125).trans rfl) la st M
theorem e57_126 (X : aX) (la : aLs) (st : List aV) (M : aM) : go X 57 126 la st M = kC X 57 (i_get 4 5 129 la st M) := evC ((pm57 X 126).trans rfl) la st M
theorem e57_129 (X : aX) (la : aLs) (st : List aV) (M : aM) : go X 57 129 la st M = kC X 57 (i_ci (nI 1) 130 la st M) := evC ((pm57 X 129).trans rfl) la st M
theorem e57_130 (X : aX) (la : aLs) (st : List aV) (M : aM) : go X 57 130 la st M = kC X 57 (i_bin (fun x y => x + y) 131 la st M) := evC ((pm57 X 130).trans rfl) la st M
theorem e57_131 (X : aX) (la : aLs) (st : List aV) (M : aM) : go X 57 131 la st M = kC X 57 (i_put 4 5 0 134 la st M) := evC ((pm57 X 131).trans rfl) la st M
theorem e57_134 (X : aX) (la : aLs) (st : List aV) (M : aM) : go X 57 134 la st M = kC X 57 (i_go 98 la st M) := evC ((pm57 X 134).trans rfl) la st M
theorem e57_137 (X : aX) (la : aLs) (st : List aV) (M : aM) : go X 57 137 la st M = kC X 57 (i_lda 0 138 la st M) := evC ((pm57 X 137).trans rfl) la st M
theorem e57_138 (X : aX) (la : aLs) (st : List aV) (M : aM) : go X 57 138 la st M = kC X 57 (i_lda 0 139 la st M) := evC ((pm57 X 138).trans rfl) la st M
theorem e57_139 (X : aX) (la : aLs) (st : List aV) (M : aM) : go X 57 139 la st M = kC X 57 (i_get 4 2 142 la st M) := evC ((pm57 X 139).trans rfl) la st M
theorem e57_142 (X : aX) (la : aLs) (st : List aV) (M : aM) : go X 57 142 la st M = kC X 57 (i_ci (nI 2) 143 la st M) := evC ((pm57 X 142).trans rfl) la st M
theorem e57_143 (X : aX) (la : aLs) (st : List aV) (M : aM) : go X 57 143 la st M = kC X 57 (i_cme 146 153 la st M) := evC ((pm57 X 143).trans rfl) la st M
theorem e57_146 (X : aX) (la : aLs) (st : List aV) (M : aM) : go X 57 146 la st M = kC X 57 (i_lda 0 147 la st M) := evC ((pm57 X 146).trans rfl) la st M
theorem e57_147 (X : aX) (la : aLs) (st : List aV) (M : aM) : go X 57 147 la st M = kK X 57 58 1 150 5 la st M := evK ((pm57 X 147).trans rfl) la st M
theorem e57_150 (X : aX) (la : aLs) (st : List aV) (M : aM) : go X 57 150 la st M = kC X 57 (i_go 154 la st M) := evC ((pm57 X 150).trans rfl) la st M
theorem e57_153 (X : aX) (la : aLs) (st : List aV) (M : aM) : go X 57 153 la st M = kC X 57 (i_ci (nI 0) 154 la st M) := evC ((pm57 X 153).trans rfl) la st M
theorem e57_154 (X : aX) (la : aLs) (st : List aV) (M : aM) : go X 57 154 la st M = kC X 57 (i_put 4 4 0 157 la st M) := evC ((pm57 X 154).trans rfl) la st M
theorem e57_157 (X : aX) (la : aLs) (st : List aV) (M : aM) : go X 57 157 la st M = i_vrt st M := evR ((pm57 X 157).trans rfl) la st M
theorem c57 (X : aX) (as : List aV) (M : aM) : cl X 57 as M = if cs as ≤ 1 then go X 57 0 (ent 1 as) [] M else none := rfl
theorem pm58 (X : aX) (pc : Nat) : pg X 58 pc = lk pc (tb58 X) := rfl
theorem e58_0 (X : aX) (la : aLs) (st : List aV) (M : aM) : go X 58 0 la st M = kC X 58 (i_ci (nI 0) 1 la st M) := evC ((pm58 X 0).trans rfl) la st M
theorem e58_1 (X : aX) (la : aLs) (st : List aV) (M : aM) : go X 58 1 la st M = kC X 58 (i_sti 1 2 la st M) := evC ((pm58 X 1).trans rfl) la st M
theorem e58_2 (X : aX) (la : aLs) (st : List aV) (M : aM) : go X 58 2 la st M = kC X 58 (i_lda 0 3 la st M) := evC ((pm58 X 2).trans rfl) la st M
theorem e58_3 (X : aX) (la : aLs) (st : List aV) (M : aM) : go X 58 3 la st M = kC X 58 (i_get 4 3 6 la st M) := evC ((pm58 X 3).trans rfl) la st M
theorem e58_6 (X : aX) (la : aLs) (st : List aV) (M : aM) : go X 58 6 la st M = kC X 58 (i_sti 2 7 la st M) := evC ((pm58 X 6).trans rfl) la st M
theorem e58_7 (X : aX) (la : aLs) (st : List aV) (M : aM) : go X 58 7 la st M = kC X 58 (i_ldi 2 8 la st M) := evC ((pm58 X 7).trans rfl) la st M
theorem e58_8 (X : aX) (la : aLs) (st : List aV) (M : aM) : go X 58 8 la st M = kC X 58 (i_lda 0 9 la st M) := evC ((pm58 X 8).trans rfl) la st M
theorem e58_9 (X : aX) (la : aLs) (st : List aV) (M : aM) : go X 58 9 la st M = kC X 58 (i_get 4 5 12 la st M) := evC ((pm58 X 9).trans rfl) la st M
theorem e58_12 (X : aX) (la : aLs) (st : List aV) (M : aM) : go X 58 12 la st M = kC X 58 (i_cml 15 42 la st M) := evC ((pm58 X 12).trans rfl) la st M
theorem e58_15 (X : aX) (la : aLs) (st : List aV) (M : aM) : go X 58 15 la st M = kC X 58 (i_ldi 1 16 la st M) := evC ((pm58 X 15).trans rfl) la st M
theorem e58_16 (X : aX) (la : aLs) (st : List aV) (M : aM) : go X 58 16 la st M = kC X 58 (i_ci (nI 10) 18 la st M) := evC ((pm58 X 16).trans rfl) la st M
theorem e58_18 (X : aX) (la : aLs) (st : List aV) (M : aM) : go X 58 18 la st M = kC X 58 (i_bin (fun x y => x * y) 19 la st M) := evC ((pm58 X 18).trans rfl) la st M
theorem e58_19 (X : aX) (la : aLs) (st : List aV) (M : aM) : go X 58 19 la st M = kC X 58 (i_lda 0 20 la st M) := evC ((pm58 X 19).trans rfl) la st M
theorem e58_20 (X : aX) (la : aLs) (st : List aV) (M : aM) : go X 58 20 la st M = kC X 58 (i_get 4 0 23 la st M) := evC ((pm58 X 20).trans rfl) la st M
theorem e58_23 (X : aX) (la : aLs) (st : List aV) (M : aM) : go X 58 23 la st M = kC X 58 (i_ldi 2 24 la st M) := evC ((pm58 X 23).trans rfl) la st M
theorem e58_24 (X : aX) (la : aLs) (st : List aV) (M : aM) : go X 58 24 la st M = kC X 58 (i_ial X 25 la st M) := evC ((pm58 X 24).trans rfl) la st M
theorem e58_25 (X : aX) (la : aLs) (st : List aV) (M : aM) : go X 58 25 la st M = kC X 58 (i_bin (fun x y => x + y) 26 la st M) := evC ((pm58 X 25).trans rfl) la st M
theorem e58_26 (X : aX) (la : aLs) (st : List aV) (M : aM) : go X 58 26 la st M = kC X 58 (i_ci (nI 48) 28 la st M) := evC ((pm58 X 26).trans rfl) la st M
theorem e58_28 (X : aX) (la : aLs) (st : List aV) (M : aM) : go X 58 28 la st M = kC X 58 (i_bin (fun x y => x - y) 29 la st M) := evC ((pm58 X 28).trans rfl) la st M
theorem e58_29 (X : aX) (la : aLs) (st : List aV) (M : aM) : go X 58 29 la st M = kC X 58 (i_ci (nI 1000) 32 la st M) := evC ((pm58 X 29).trans rfl) la st M
theorem e58_32 (X : aX) (la : aLs) (st : List aV) (M : aM) : go X 58 32 la st M = kC X 58 (i_min 35 la st M) := evC ((pm58 X 32).trans rfl) la st M
theorem e58_35 (X : aX) (la : aLs) (st : List aV) (M : aM) : go X 58 35 la st M = kC X 58 (i_sti 1 36 la st M) := evC ((pm58 X 35).trans rfl) la st M
theorem e58_36 (X : aX) (la : aLs) (st : List aV) (M : aM) : go X 58 36 la st M = kC X 58 (i_inc 2 (nI 1) 39 la st M) := evC ((pm58 X 36).trans rfl) la st M
theorem e58_39 (X : aX) (la : aLs) (st : List aV) (M : aM) : go X 58 39 la st M = kC X 58 (i_go 7 la st M) := evC ((pm58 X 39).trans rfl) la st M
theorem e58_42 (X : aX) (la : aLs) (st : List aV) (M : aM) : go X 58 42 la st M = kC X 58 (i_ldi 1 43 la st M) := evC ((pm58 X 42).trans rfl) la st M
theorem e58_43 (X : aX) (la : aLs) (st : List aV) (M : aM) : go X 58 43 la st M = i_irt st M := evR ((pm58 X 43).trans rfl) la st M
theorem c58 (X : aX) (as : List aV) (M : aM) : cl X 58 as M = if cs as ≤ 3 then go X 58 0 (ent 3 as) [] M else none := rfl
theorem pm59 (X : aX) (pc : Nat) : pg X 59 pc = lk pc (tb59 X) := rfl
theorem e59_0 (X : aX) (la : aLs) (st : List aV) (M : aM) : go X 59 0 la st M = kC X 59 (i_ldi 1 1 la st M) := evC ((pm59 X 0).trans rfl) la st M
theorem e59_1 (X : aX) (la : aLs) (st : List aV) (M : aM) : go X 59 1 la st M = kC X 59 (i_ifl 12 4 la st M) := evC ((pm59 X 1).trans rfl) la st M
theorem e59_4 (X : aX) (la : aLs) (st : List aV) (M : aM) : go X 59 4 la st M = kC X 59 (i_ldi 1 5 la st M) := evC ((pm59 X 4).trans rfl) la st M
theorem e59_5 (X : aX) (la : aLs) (st : List aV) (M : aM) : go X 59 5 la st M = kC X 59 (i_lda 0 6 la st M) := evC ((pm59 X 5).trans rfl) la st M
theorem e59_6 (X : aX) (la : aLs) (st : List aV) (M : aM) : go X 59 6 la st M = kC X 59 (i_get 4 1 9 la st M) := evC ((pm59 X 6).trans rfl) la st M
theorem e59_9 (X : aX) (la : aLs) (st : List aV) (M : aM) : go X 59 9 la st M = kC X 59 (i_cml 14 12 la st M) := evC ((pm59 X 9).trans rfl) la st M
theorem e59_12 (X : aX) (la : aLs) (st : List aV) (M : aM) : go X 59 12 la st M = kC X 59 (i_ci (nI 0) 13 la st M) := evC ((pm59 X 12).trans rfl) la st M
theorem e59_13 (X : aX) (la : aLs) (st : List aV) (M : aM) : go X 59 13 la st M = i_irt st M := evR ((pm59 X 13).trans rfl) la st M
theorem e59_14 (X : aX) (la : aLs) (st : List aV) (M : aM) : go X 59 14 la st M = kC X 59 (i_lda 0 15 la st M) := evC ((pm59 X 14).trans rfl) la st M
theorem e59_15 (X : aX) (la : aLs) (st : List aV) (M : aM) : go X 59 15 la st M = kC X 59 (i_get 4 0 18 la st M) := evC ((pm59 X 15).trans rfl) la st M
theorem e59_18 (X : aX) (la : aLs) (st : List aV) (M : aM) : go X 59 18 la st M = kC X 59 (i_ldi 1 19 la st M) := evC ((pm59 X 18).trans rfl) la st M
theorem e59_19 (X : aX) (la : aLs) (st : List aV) (M : aM) : go X 59 19 la st M = kC X 59 (i_ial X 20 la st M) := evC ((pm59 X 19).trans rfl) la st M
theorem e59_20 (X : aX) (la : aLs) (st : List aV) (M : aM) : go X 59 20 la st M = kC X 59 (i_sti 2 21 la st M) := evC ((pm59 X 20).trans rfl) la st M
theorem e59_21 (X : aX) (la : aLs) (st : List aV) (M : aM) : go X 59 21 la st M = kC X 59 (i_ldi 2 22 la st M) := evC ((pm59 X 21).trans rfl) la st M
theorem e59_22 (X : aX) (la : aLs) (st : List aV) (M : aM) : go X 59 22 la st M = kC X 59 (i_ci (nI 97) 24 la st M) := evC ((pm59 X 22).trans rfl) la st M
theorem e59_24 (X : aX) (la : aLs) (st : List aV) (M : aM) : go X 59 24 la st M = kC X 59 (i_cml 35 27 la st M) := evC ((pm59 X 24).trans rfl) la st M
theorem e59_27 (X : aX) (la : aLs) (st : List aV) (M : aM) : go X 59 27 la st M = kC X 59 (i_ldi 2 28 la st M) := evC ((pm59 X 27).trans rfl) la st M
theorem e59_28 (X : aX) (la : aLs) (st : List aV) (M : aM) : go X 59 28 la st M = kC X 59 (i_ci (nI 122) 30 la st M) := evC ((pm59 X 28).trans rfl) la st M
theorem e59_30 (X : aX) (la : aLs) (st : List aV) (M : aM) : go X 59 30 la st M = kC X 59 (i_cmg 35 33 la st M) := evC ((pm59 X 30).trans rfl) la st M
theorem e59_33 (X : aX) (la : aLs) (st : List aV) (M : aM) : go X 59 33 la st M = kC X 59 (i_ci (nI 1) 34 la st M) := evC ((pm59 X 33).trans rfl) la st M
theorem e59_34 (X : aX) (la : aLs) (st : List aV) (M : aM) : go X 59 34 la st M = i_irt st M := evR ((pm59 X 34).trans rfl) la st M
theorem e59_35 (X : aX) (la : aLs) (st : List aV) (M : aM) : go X 59 35 la st M = kC X 59 (i_ldi 2 36 la st M) := evC ((pm59 X 35).trans rfl) la st M
theorem e59_36 (X : aX) (la : aLs) (st : List aV) (M : aM) : go X 59 36 la st M = kC X 59 (i_ci (nI 48) 38 la st M) := evC ((pm59 X 36).trans rfl) la st M
theorem e59_38 (X : aX) (la : aLs) (st : List aV) (M : aM) : go X 59 38 la st M = kC X 59 (i_cml 49 41 la st M) := evC ((pm59 X 38).trans rfl) la st M
theorem e59_41 (X : aX) (la : aLs) (st : List aV) (M : aM) : go X 59 41 la st M = kC X 59 (i_ldi 2 42 la st M) := evC ((pm59 X 41).trans rfl) la st M
theorem e59_42 (X : aX) (la : aLs) (st : List aV) (M : aM) : go X 59 42 la st M = kC X 59 (i_ci (nI 57) 44 la st M) := evC ((pm59 X 42).trans rfl) la st M
theorem e59_44 (X : aX) (la : aLs) (st : List aV) (M : aM) : go X 59 44 la st M = kC X 59 (i_cmg 49 47 la st M) := evC ((pm59 X 44).trans rfl) la st M
theorem e59_47 (X : aX) (la : aLs) (st : List aV) (M : aM) : go X 59 47 la st M = kC X 59 (i_ci (nI 2) 48 la st M) := evC ((pm59 X 47).trans rfl) la st M
theorem e59_48 (X : aX) (la : aLs) (st : List aV) (M : aM) : go X 59 48 la st M = i_irt st M := evR ((pm59 X 48).trans rfl) la st M
theorem e59_49 (X : aX) (la : aLs) (st : List aV) (M : aM) : go X 59 49 la st M = kC X 59 (i_ldi 2 50 la st M) := evC ((pm59 X 49).trans rfl) la st M
theorem e59_50 (X : aX) (la : aLs) (st : List aV) (M : aM) : go X 59 50 la st M = kC X 59 (i_ci (nI 59) 52 la st M) := evC ((pm59 X 50).trans rfl) la st M
theorem e59_52 (X : aX) (la : aLs) (st : List aV) (M : aM) : go X 59 52 la st M = kC X 59 (i_cme 55 59 la st M) := evC ((pm59 X 52).trans rfl) la st M
theorem e59_55 (X : aX) (la : aLs) (st : List aV) (M : aM) : go X 59 55 la st M = kC X 59 (i_ci (nI 3) 56 la st M) := evC ((pm59 X 55).trans rfl) la st M
theorem e59_56 (X : aX) (la : aLs) (st : List aV) (M : aM) : go X 59 56 la st M = kC X 59 (i_go 60 la st M) := evC ((pm59 X 56).trans rfl) la st M
theorem e59_59 (X : aX) (la : aLs) (st : List aV) (M : aM) : go X 59 59 la st M = kC X 59 (i_ci (nI 4) 60 la st M) := evC ((pm59 X 59).trans rfl) la st M
theorem e59_60 (X : aX) (la : aLs) (st : List aV) (M : aM) : go X 59 60 la st M = i_irt st M := evR ((pm59 X 60).trans rfl) la st M
theorem c59 (X : aX) (as : List aV) (M : aM) : cl X 59 as M = if cs as ≤ 3 then go X 59 0 (ent 3 as) [] M else none := rfl
theorem pm60 (X : aX) (pc : Nat) : pg X 60 pc = lk pc (tb60 X) := rfl
theorem e60_0 (X : aX) (la : aLs) (st : List aV) (M : aM) : go X 60 0 la st M = kC X 60 (i_lda 0 1 la st M) := evC ((pm60 X 0).trans rfl) la st M
theorem e60_1 (X : aX) (la : aLs) (st : List aV) (M : aM) : go X 60 1 la st M = kC X 60 (i_get 4 2 4 la st M) := evC ((pm60 X 1).trans rfl) la st M
theorem e60_4 (X : aX) (la : aLs) (st : List aV) (M : aM) : go X 60 4 la st M = kC X 60 (i_ci (nI 1) 5 la st M) := evC ((pm60 X 4).trans rfl) la st M
theorem e60_5 (X : aX) (la : aLs) (st : List aV) (M : aM) : go X 60 5 la st M = kC X 60 (i_cme 8 24 la st M) := evC ((pm60 X 5).trans rfl) la st M
theorem e60_8 (X : aX) (la : aLs) (st : List aV) (M : aM) : go X 60 8 la st M = kC X 60 (i_lda 0 9 la st M) := evC ((pm60 X 8).trans rfl) la st M
theorem e60_9 (X : aX) (la : aLs) (st : List aV) (M : aM) : go X 60 9 la st M = kC X 60 (i_get 4 5 12 la st M) := evC ((pm60 X 9).trans rfl) la st M
theorem e60_12 (X : aX) (la : aLs) (st : List aV) (M : aM) : go X 60 12 la st M = kC X 60 (i_lda 0 13 la st M) := evC ((pm60 X 12).trans rfl) la st M
theorem e60_13 (X : aX) (la : aLs) (st : List aV) (M : aM) : go X 60 13 la st M = kC X 60 (i_get 4 3 16 la st M) := evC ((pm60 X 13).trans rfl) la st M
theorem e60_16 (X : aX) (la : aLs) (st : List aV) (M : aM) : go X 60 16 la st M = kC X 60 (i_bin (fun x y => x - y) 17 la st M) := evC ((pm60 X 16).trans rfl) la st M
theorem e60_17 (X : aX) (la : aLs) (st : List aV) (M : aM) : go X 60 17 la st M = kC X 60 (i_lda 1 18 la st M) := evC ((pm60 X 17).trans rfl) la st M
theorem e60_18 (X : aX) (la : aLs) (st : List aV) (M : aM) : go X 60 18 la st M = kK X 60 215 1 21 100 la st M := evK ((pm60 X 18).trans rfl) la st M
theorem e60_21 (X : aX) (la : aLs) (st : List aV) (M : aM) : go X 60 21 la st M = kC X 60 (i_cme 26 24 la st M) := evC ((pm60 X 21).trans rfl) la st M
theorem e60_24 (X : aX) (la : aLs) (st : List aV) (M : aM) : go X 60 24 la st M = kC X 60 (i_ci (nI 0) 25 la st M) := evC ((pm60 X 24).trans rfl) la st M
theorem e60_25 (X : aX) (la : aLs) (st : List aV) (M : aM) : go X 60 25 la st M = i_zrt st M := evR ((pm60 X 25).trans rfl) la st M
theorem e60_26 (X : aX) (la : aLs) (st : List aV) (M : aM) : go X 60 26 la st M = kC X 60 (i_ci (nI 0) 27 la st M) := evC ((pm60 X 26).trans rfl) la st M
theorem e60_27 (X : aX) (la : aLs) (st : List aV) (M : aM) : go X 60 27 la st M = kC X 60 (i_sti 2 28 la st M) := evC ((pm60 X 27).trans rfl) la st M
theorem e60_28 (X : aX) (la : aLs) (st : List aV) (M : aM) : go X 60 28 la st M = kC X 60 (i_ldi 2 29 la st M) := evC ((pm60 X 28).trans rfl) la st M
theorem e60_29 (X : aX) (la : aLs) (st : List aV) (M : aM) : go X 60 29 la st M = kC X 60 (i_lda 1 30 la st M) := evC ((pm60 X 29).trans rfl) la st M
theorem e60_30 (X : aX) (la : aLs) (st : List aV) (M : aM) : go X 60 30 la st M = kK X 60 215 1 33 100 la st M := evK ((pm60 X 30).trans rfl) la st M
theorem e60_33 (X : aX) (la : aLs) (st : List aV) (M : aM) : go X 60 33 la st M = kC X 60 (i_cml 36 63 la st M) := evC ((pm60 X 33).trans rfl) la st M
theorem e60_36 (X : aX) (la : aLs) (st : List aV) (M : aM) : go X 60 36 la st M = kC X 60 (i_lda 0 37 la st M) := evC ((pm60 X 36).trans rfl) la st M
theorem e60_37 (X : aX) (la : aLs) (st : List aV) (M : aM) : go X 60 37 la st M = kC X 60 (i_get 4 0 40 la st M) := evC ((pm60 X 37).trans rfl) la st M
theorem e60_40 (X : aX) (la : aLs) (st : List aV) (M : aM) : go X 60 40 la st M = kC X 60 (i_lda 0 41 la st M) := evC ((pm60 X 40).trans rfl) la st M
theorem e60_41 (X : aX) (la : aLs) (st : List aV) (M : aM) : go X 60 41 la st M = kC X 60 (i_get 4 3 44 la st M) := evC ((pm60 X 41).trans rfl) la st M
theorem e60_44 (X : aX) (la : aLs) (st : List aV) (M : aM) : go X 60 44 la st M = kC X 60 (i_ldi 2 45 la st M) := evC ((pm60 X 44).trans rfl) la st M
theorem e60_45 (X : aX) (la : aLs) (st : List aV) (M : aM) : go X 60 45 la st M = kC X 60 (i_bin (fun x y => x + y) 46 la st M) := evC ((pm60 X 45).trans rfl) la st M
theorem e60_46 (X : aX) (la : aLs) (st : List aV) (M : aM) : go X 60 46 la st M = kC X 60 (i_ial X 47 la st M) := evC ((pm60 X 46).trans rfl) la st M
theorem e60_47 (X : aX) (la : aLs) (st : List aV) (M : aM) : go X 60 47 la st M = kC X 60 (i_lda 1 48 la st M) := evC ((pm60 X 47).trans rfl) la st M
theorem e60_48 (X : aX) (la : aLs) (st : List aV) (M : aM) : go X 60 48 la st M = kC X 60 (i_ldi 2 49 la st M) := evC ((pm60 X 48).trans rfl) la st M
theorem e60_49 (X : aX) (la : aLs) (st : List aV) (M : aM) : go X 60 49 la st M = kK X 60 216 2 52 100 la st M := evK ((pm60 X 49).trans rfl) la st M
theorem e60_52 (X : aX) (la : aLs) (st : List aV) (M : aM) : go X 60 52 la st M = kC X 60 (i_cme 57 55 la st M) := evC ((pm60 X 52).trans rfl) la st M
theorem e60_55 (X : aX) (la : aLs) (st : List aV) (M : aM) : go X 60 55 la st M = kC X 60 (i_ci (nI 0) 56 la st M) := evC ((pm60 X 55).trans rfl) la st M
theorem e60_56 (X : aX) (la : aLs) (st : List aV) (M : aM) : go X 60 56 la st M = i_zrt st M := evR ((pm60 X 56).trans rfl) la st M
theorem e60_57 (X : aX) (la : aLs) (st : List aV) (M : aM) : go X 60 57 la st M = kC X 60 (i_inc 2 (nI 1) 60 la st M) := evC ((pm60 X 57).trans rfl) la st M
theorem e60_60 (X : aX) (la : aLs) (st : List aV) (M : aM) : go X 60 60 la st M = kC X 60 (i_go 28 la st M) := evC ((pm60 X 60).trans rfl) la st M
theorem e60_63 (X : aX) (la : aLs) (st : List aV) (M : aM) : go X 60 63 la st M = kC X 60 (i_ci (nI 1) 64 la st M) := evC ((pm60 X 63).trans rfl) la st M
theorem e60_64 (X : aX) (la : aLs) (st : List aV) (M : aM) : go X 60 64 la st M = i_zrt st M := evR ((pm60 X 64).trans rfl) la st M
theorem c60 (X : aX) (as : List aV) (M : aM) : cl X 60 as M = if cs as ≤ 3 then go X 60 0 (ent 3 as) [] M else none := rfl
