/-! a Moment's shapes, one by one -/
theorem lm_0 (b : Nat) : rj_lm b 0 = .inr (5, [some (some ((b + 1) + 1)), some (some ((b + 2) + 1)), some (some ((b + 7) + 1)), some (some ((b + 16) + 1)), some (some ((b + 20) + 1)), some (some ((b + 25) + 1)), some (some ((b + 29) + 1)), some (some ((b + 38) + 1))]) := rfl
theorem lm_1 (b : Nat) : rj_lm b 1 = .inr (1, [none, none, none]) := rfl
theorem lm_2 (b : Nat) : rj_lm b 2 = .inr (4, [some (some ((b + 3) + 1)), some (some ((b + 4) + 1)), some (some ((b + 5) + 1)), some (some ((b + 6) + 1))]) := rfl
theorem lm_3 (b : Nat) : rj_lm b 3 = .inl (1, 4) := rfl
theorem lm_4 (b : Nat) : rj_lm b 4 = .inl (0, 16) := rfl
theorem lm_5 (b : Nat) : rj_lm b 5 = .inl (0, 16) := rfl
theorem lm_6 (b : Nat) : rj_lm b 6 = .inl (0, 100) := rfl
theorem lm_7 (b : Nat) : rj_lm b 7 = .inr (7, [some (some ((b + 8) + 1)), some (some ((b + 9) + 1)), some (some ((b + 10) + 1)), some (some ((b + 11) + 1)), some (some ((b + 12) + 1)), some (some ((b + 13) + 1)), some (some ((b + 14) + 1)), some (some ((b + 15) + 1))]) := rfl
theorem lm_8 (b : Nat) : rj_lm b 8 = .inl (0, 16) := rfl
theorem lm_9 (b : Nat) : rj_lm b 9 = .inl (0, 16) := rfl
theorem lm_10 (b : Nat) : rj_lm b 10 = .inl (0, 16) := rfl
theorem lm_11 (b : Nat) : rj_lm b 11 = .inl (0, 16) := rfl
theorem lm_12 (b : Nat) : rj_lm b 12 = .inl (0, 16) := rfl
theorem lm_13 (b : Nat) : rj_lm b 13 = .inl (0, 192) := rfl
theorem lm_14 (b : Nat) : rj_lm b 14 = .inl (0, 16) := rfl
theorem lm_15 (b : Nat) : rj_lm b 15 = .inl (0, 16) := rfl
theorem lm_16 (b : Nat) : rj_lm b 16 = .inr (3, [some (some ((b + 17) + 1)), some (some ((b + 18) + 1)), some (some ((b + 19) + 1))]) := rfl
theorem lm_17 (b : Nat) : rj_lm b 17 = .inl (0, 3) := rfl
theorem lm_18 (b : Nat) : rj_lm b 18 = .inl (0, 12) := rfl
theorem lm_19 (b : Nat) : rj_lm b 19 = .inl (0, 4) := rfl
theorem lm_20 (b : Nat) : rj_lm b 20 = .inr (0, [some (some ((b + 21) + 1)), none, some (some ((b + 22) + 1)), some (some ((b + 23) + 1)), some (some ((b + 24) + 1)), none, none]) := rfl
theorem lm_21 (b : Nat) : rj_lm b 21 = .inl (0, 12) := rfl
theorem lm_22 (b : Nat) : rj_lm b 22 = .inl (0, 12) := rfl
theorem lm_23 (b : Nat) : rj_lm b 23 = .inl (0, 3) := rfl
theorem lm_24 (b : Nat) : rj_lm b 24 = .inl (0, 3) := rfl
theorem lm_25 (b : Nat) : rj_lm b 25 = .inr (10, [some (some ((b + 26) + 1)), none, some (some ((b + 27) + 1)), some (some ((b + 28) + 1))]) := rfl
theorem lm_26 (b : Nat) : rj_lm b 26 = .inl (0, 24) := rfl
theorem lm_27 (b : Nat) : rj_lm b 27 = .inl (0, 24) := rfl
theorem lm_28 (b : Nat) : rj_lm b 28 = .inl (0, 34) := rfl
theorem lm_29 (b : Nat) : rj_lm b 29 = .inr (6, [some (some ((b + 30) + 1)), some (some ((b + 31) + 1)), some (some ((b + 32) + 1)), some (some ((b + 33) + 1)), some (some ((b + 34) + 1)), some (some ((b + 35) + 1)), some (some ((b + 36) + 1)), some (some ((b + 37) + 1))]) := rfl
theorem lm_30 (b : Nat) : rj_lm b 30 = .inl (0, 24) := rfl
theorem lm_31 (b : Nat) : rj_lm b 31 = .inl (0, 4) := rfl
theorem lm_32 (b : Nat) : rj_lm b 32 = .inl (0, 4) := rfl
theorem lm_33 (b : Nat) : rj_lm b 33 = .inl (0, 4) := rfl
theorem lm_34 (b : Nat) : rj_lm b 34 = .inl (0, 16) := rfl
theorem lm_35 (b : Nat) : rj_lm b 35 = .inl (0, 16) := rfl
theorem lm_36 (b : Nat) : rj_lm b 36 = .inl (0, 16) := rfl
theorem lm_37 (b : Nat) : rj_lm b 37 = .inl (0, 400) := rfl
theorem lm_38 (b : Nat) : rj_lm b 38 = .inr (8, [some (some ((b + 39) + 1)), some (some ((b + 40) + 1)), some none, some (some ((b + 41) + 1)), some (some ((b + 42) + 1))]) := rfl
theorem lm_39 (b : Nat) : rj_lm b 39 = .inl (0, 4) := rfl
theorem lm_40 (b : Nat) : rj_lm b 40 = .inl (0, 48) := rfl
theorem lm_41 (b : Nat) : rj_lm b 41 = .inl (2, 12) := rfl
theorem lm_42 (b : Nat) : rj_lm b 42 = .inl (2, 12) := rfl
