theorem zz_t (X : aX) : pg X 12 0 = .inl (i_lda 0 1) := rfl
theorem zz_u (X : aX) : pg X 222 1322 = .inl (i_inc 3 6 1325) := rfl
