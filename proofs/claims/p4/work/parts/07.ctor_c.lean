section
noncomputable def F9_0 : List Value := [.int 0, .null, .int 0, .null, .null, .null, .null, .null, .null, .null, .null, .null, .null, .int 0, .null, .null, .null, .null, .null, .null, .int 0, .null, .int 0, .null, .null, .null, .null, .null, .int 0, .null, .null, .null, .null, .null, .null, .null, .null, .null, .null, .null, .null, .int 0, .int 0, .int 0, .null, .null, .null, .null, .null, .null, .int 0]
noncomputable def G9_1 (tc : Nat → ClassId) (h0 q1 : Nat) : va_W := [(h0, .inr (9, F9_0)), (q1, .inl (tc 2, (16 : Int).toNat, .inl (fun _ => 0)))]
noncomputable def F9_1 (q1 : Nat) : List Value := [.int 0, .ref q1, .int 0, .null, .null, .null, .null, .null, .null, .null, .null, .null, .null, .int 0, .null, .null, .null, .null, .null, .null, .int 0, .null, .int 0, .null, .null, .null, .null, .null, .int 0, .null, .null, .null, .null, .null, .null, .null, .null, .null, .null, .null, .null, .int 0, .int 0, .int 0, .null, .null, .null, .null, .null, .null, .int 0]
noncomputable def G9_2 (tc : Nat → ClassId) (h0 q1 : Nat) : va_W := [(h0, .inr (9, F9_1 q1)), (q1, .inl (tc 2, (16 : Int).toNat, .inl (fun _ => 0)))]
noncomputable def G9_3 (tc : Nat → ClassId) (h0 q1 q2 : Nat) : va_W := [(h0, .inr (9, F9_1 q1)), (q1, .inl (tc 2, (16 : Int).toNat, .inl (fun _ => 0))), (q2, .inl (tc 0, (8 : Int).toNat, .inl (fun _ => 0)))]
noncomputable def F9_2 (q1 q2 : Nat) : List Value := [.int 0, .ref q1, .int 0, .ref q2, .null, .null, .null, .null, .null, .null, .null, .null, .null, .int 0, .null, .null, .null, .null, .null, .null, .int 0, .null, .int 0, .null, .null, .null, .null, .null, .int 0, .null, .null, .null, .null, .null, .null, .null, .null, .null, .null, .null, .null, .int 0, .int 0, .int 0, .null, .null, .null, .null, .null, .null, .int 0]
noncomputable def G9_4 (tc : Nat → ClassId) (h0 q1 q2 : Nat) : va_W := [(h0, .inr (9, F9_2 q1 q2)), (q1, .inl (tc 2, (16 : Int).toNat, .inl (fun _ => 0))), (q2, .inl (tc 0, (8 : Int).toNat, .inl (fun _ => 0)))]
noncomputable def G9_5 (tc : Nat → ClassId) (h0 q1 q2 q3 : Nat) : va_W := [(h0, .inr (9, F9_2 q1 q2)), (q1, .inl (tc 2, (16 : Int).toNat, .inl (fun _ => 0))), (q2, .inl (tc 0, (8 : Int).toNat, .inl (fun _ => 0))), (q3, .inl (tc 0, (40 : Int).toNat, .inl (fun _ => 0)))]
noncomputable def F9_3 (q1 q2 q3 : Nat) : List Value := [.int 0, .ref q1, .int 0, .ref q2, .ref q3, .null, .null, .null, .null, .null, .null, .null, .null, .int 0, .null, .null, .null, .null, .null, .null, .int 0, .null, .int 0, .null, .null, .null, .null, .null, .int 0, .null, .null, .null, .null, .null, .null, .null, .null, .null, .null, .null, .null, .int 0, .int 0, .int 0, .null, .null, .null, .null, .null, .null, .int 0]
noncomputable def G9_6 (tc : Nat → ClassId) (h0 q1 q2 q3 : Nat) : va_W := [(h0, .inr (9, F9_3 q1 q2 q3)), (q1, .inl (tc 2, (16 : Int).toNat, .inl (fun _ => 0))), (q2, .inl (tc 0, (8 : Int).toNat, .inl (fun _ => 0))), (q3, .inl (tc 0, (40 : Int).toNat, .inl (fun _ => 0)))]
noncomputable def G9_7 (tc : Nat → ClassId) (h0 q1 q2 q3 q4 : Nat) : va_W := [(h0, .inr (9, F9_3 q1 q2 q3)), (q1, .inl (tc 2, (16 : Int).toNat, .inl (fun _ => 0))), (q2, .inl (tc 0, (8 : Int).toNat, .inl (fun _ => 0))), (q3, .inl (tc 0, (40 : Int).toNat, .inl (fun _ => 0))), (q4, .inl (tc 0, (40 : Int).toNat, .inl (fun _ => 0)))]
noncomputable def F9_4 (q1 q2 q3 q4 : Nat) : List Value := [.int 0, .ref q1, .int 0, .ref q2, .ref q3, .ref q4, .null, .null, .null, .null, .null, .null, .null, .int 0, .null, .null, .null, .null, .null, .null, .int 0, .null, .int 0, .null, .null, .null, .null, .null, .int 0, .null, .null, .null, .null, .null, .null, .null, .null, .null, .null, .null, .null, .int 0, .int 0, .int 0, .null, .null, .null, .null, .null, .null, .int 0]
noncomputable def G9_8 (tc : Nat → ClassId) (h0 q1 q2 q3 q4 : Nat) : va_W := [(h0, .inr (9, F9_4 q1 q2 q3 q4)), (q1, .inl (tc 2, (16 : Int).toNat, .inl (fun _ => 0))), (q2, .inl (tc 0, (8 : Int).toNat, .inl (fun _ => 0))), (q3, .inl (tc 0, (40 : Int).toNat, .inl (fun _ => 0))), (q4, .inl (tc 0, (40 : Int).toNat, .inl (fun _ => 0)))]
noncomputable def G9_9 (tc : Nat → ClassId) (h0 q1 q2 q3 q4 q5 : Nat) : va_W := [(h0, .inr (9, F9_4 q1 q2 q3 q4)), (q1, .inl (tc 2, (16 : Int).toNat, .inl (fun _ => 0))), (q2, .inl (tc 0, (8 : Int).toNat, .inl (fun _ => 0))), (q3, .inl (tc 0, (40 : Int).toNat, .inl (fun _ => 0))), (q4, .inl (tc 0, (40 : Int).toNat, .inl (fun _ => 0))), (q5, .inl (tc 1, (40 : Int).toNat, .inr (.inl (fun _ => 0))))]
noncomputable def F9_5 (q1 q2 q3 q4 q5 : Nat) : List Value := [.int 0, .ref q1, .int 0, .ref q2, .ref q3, .ref q4, .ref q5, .null, .null, .null, .null, .null, .null, .int 0, .null, .null, .null, .null, .null, .null, .int 0, .null, .int 0, .null, .null, .null, .null, .null, .int 0, .null, .null, .null, .null, .null, .null, .null, .null, .null, .null, .null, .null, .int 0, .int 0, .int 0, .null, .null, .null, .null, .null, .null, .int 0]
noncomputable def G9_10 (tc : Nat → ClassId) (h0 q1 q2 q3 q4 q5 : Nat) : va_W := [(h0, .inr (9, F9_5 q1 q2 q3 q4 q5)), (q1, .inl (tc 2, (16 : Int).toNat, .inl (fun _ => 0))), (q2, .inl (tc 0, (8 : Int).toNat, .inl (fun _ => 0))), (q3, .inl (tc 0, (40 : Int).toNat, .inl (fun _ => 0))), (q4, .inl (tc 0, (40 : Int).toNat, .inl (fun _ => 0))), (q5, .inl (tc 1, (40 : Int).toNat, .inr (.inl (fun _ => 0))))]
noncomputable def G9_11 (tc : Nat → ClassId) (h0 q1 q2 q3 q4 q5 q6 : Nat) : va_W := [(h0, .inr (9, F9_5 q1 q2 q3 q4 q5)), (q1, .inl (tc 2, (16 : Int).toNat, .inl (fun _ => 0))), (q2, .inl (tc 0, (8 : Int).toNat, .inl (fun _ => 0))), (q3, .inl (tc 0, (40 : Int).toNat, .inl (fun _ => 0))), (q4, .inl (tc 0, (40 : Int).toNat, .inl (fun _ => 0))), (q5, .inl (tc 1, (40 : Int).toNat, .inr (.inl (fun _ => 0)))), (q6, .inl (tc 2, (40 : Int).toNat, .inl (fun _ => 0)))]
noncomputable def F9_6 (q1 q2 q3 q4 q5 q6 : Nat) : List Value := [.int 0, .ref q1, .int 0, .ref q2, .ref q3, .ref q4, .ref q5, .ref q6, .null, .null, .null, .null, .null, .int 0, .null, .null, .null, .null, .null, .null, .int 0, .null, .int 0, .null, .null, .null, .null, .null, .int 0, .null, .null, .null, .null, .null, .null, .null, .null, .null, .null, .null, .null, .int 0, .int 0, .int 0, .null, .null, .null, .null, .null, .null, .int 0]
noncomputable def G9_12 (tc : Nat → ClassId) (h0 q1 q2 q3 q4 q5 q6 : Nat) : va_W := [(h0, .inr (9, F9_6 q1 q2 q3 q4 q5 q6)), (q1, .inl (tc 2, (16 : Int).toNat, .inl (fun _ => 0))), (q2, .inl (tc 0, (8 : Int).toNat, .inl (fun _ => 0))), (q3, .inl (tc 0, (40 : Int).toNat, .inl (fun _ => 0))), (q4, .inl (tc 0, (40 : Int).toNat, .inl (fun _ => 0))), (q5, .inl (tc 1, (40 : Int).toNat, .inr (.inl (fun _ => 0)))), (q6, .inl (tc 2, (40 : Int).toNat, .inl (fun _ => 0)))]
noncomputable def G9_13 (tc : Nat → ClassId) (h0 q1 q2 q3 q4 q5 q6 q7 : Nat) : va_W := [(h0, .inr (9, F9_6 q1 q2 q3 q4 q5 q6)), (q1, .inl (tc 2, (16 : Int).toNat, .inl (fun _ => 0))), (q2, .inl (tc 0, (8 : Int).toNat, .inl (fun _ => 0))), (q3, .inl (tc 0, (40 : Int).toNat, .inl (fun _ => 0))), (q4, .inl (tc 0, (40 : Int).toNat, .inl (fun _ => 0))), (q5, .inl (tc 1, (40 : Int).toNat, .inr (.inl (fun _ => 0)))), (q6, .inl (tc 2, (40 : Int).toNat, .inl (fun _ => 0))), (q7, .inl (tc 0, (8 : Int).toNat, .inl (fun _ => 0)))]
noncomputable def F9_7 (q1 q2 q3 q4 q5 q6 q7 : Nat) : List Value := [.int 0, .ref q1, .int 0, .ref q2, .ref q3, .ref q4, .ref q5, .ref q6, .ref q7, .null, .null, .null, .null, .int 0, .null, .null, .null, .null, .null, .null, .int 0, .null, .int 0, .null, .null, .null, .null, .null, .int 0, .null, .null, .null, .null, .null, .null, .null, .null, .null, .null, .null, .null, .int 0, .int 0, .int 0, .null, .null, .null, .null, .null, .null, .int 0]
noncomputable def G9_14 (tc : Nat → ClassId) (h0 q1 q2 q3 q4 q5 q6 q7 : Nat) : va_W := [(h0, .inr (9, F9_7 q1 q2 q3 q4 q5 q6 q7)), (q1, .inl (tc 2, (16 : Int).toNat, .inl (fun _ => 0))), (q2, .inl (tc 0, (8 : Int).toNat, .inl (fun _ => 0))), (q3, .inl (tc 0, (40 : Int).toNat, .inl (fun _ => 0))), (q4, .inl (tc 0, (40 : Int).toNat, .inl (fun _ => 0))), (q5, .inl (tc 1, (40 : Int).toNat, .inr (.inl (fun _ => 0)))), (q6, .inl (tc 2, (40 : Int).toNat, .inl (fun _ => 0))), (q7, .inl (tc 0, (8 : Int).toNat, .inl (fun _ => 0)))]
noncomputable def G9_15 (tc : Nat → ClassId) (h0 q1 q2 q3 q4 q5 q6 q7 q8 : Nat) : va_W := [(h0, .inr (9, F9_7 q1 q2 q3 q4 q5 q6 q7)), (q1, .inl (tc 2, (16 : Int).toNat, .inl (fun _ => 0))), (q2, .inl (tc 0, (8 : Int).toNat, .inl (fun _ => 0))), (q3, .inl (tc 0, (40 : Int).toNat, .inl (fun _ => 0))), (q4, .inl (tc 0, (40 : Int).toNat, .inl (fun _ => 0))), (q5, .inl (tc 1, (40 : Int).toNat, .inr (.inl (fun _ => 0)))), (q6, .inl (tc 2, (40 : Int).toNat, .inl (fun _ => 0))), (q7, .inl (tc 0, (8 : Int).toNat, .inl (fun _ => 0))), (q8, .inl (tc 0, (32 : Int).toNat, .inl (fun _ => 0)))]
noncomputable def F9_8 (q1 q2 q3 q4 q5 q6 q7 q8 : Nat) : List Value := [.int 0, .ref q1, .int 0, .ref q2, .ref q3, .ref q4, .ref q5, .ref q6, .ref q7, .ref q8, .null, .null, .null, .int 0, .null, .null, .null, .null, .null, .null, .int 0, .null, .int 0, .null, .null, .null, .null, .null, .int 0, .null, .null, .null, .null, .null, .null, .null, .null, .null, .null, .null, .null, .int 0, .int 0, .int 0, .null, .null, .null, .null, .null, .null, .int 0]
noncomputable def G9_16 (tc : Nat → ClassId) (h0 q1 q2 q3 q4 q5 q6 q7 q8 : Nat) : va_W := [(h0, .inr (9, F9_8 q1 q2 q3 q4 q5 q6 q7 q8)), (q1, .inl (tc 2, (16 : Int).toNat, .inl (fun _ => 0))), (q2, .inl (tc 0, (8 : Int).toNat, .inl (fun _ => 0))), (q3, .inl (tc 0, (40 : Int).toNat, .inl (fun _ => 0))), (q4, .inl (tc 0, (40 : Int).toNat, .inl (fun _ => 0))), (q5, .inl (tc 1, (40 : Int).toNat, .inr (.inl (fun _ => 0)))), (q6, .inl (tc 2, (40 : Int).toNat, .inl (fun _ => 0))), (q7, .inl (tc 0, (8 : Int).toNat, .inl (fun _ => 0))), (q8, .inl (tc 0, (32 : Int).toNat, .inl (fun _ => 0)))]
noncomputable def G9_17 (tc : Nat → ClassId) (h0 q1 q2 q3 q4 q5 q6 q7 q8 q9 : Nat) : va_W := [(h0, .inr (9, F9_8 q1 q2 q3 q4 q5 q6 q7 q8)), (q1, .inl (tc 2, (16 : Int).toNat, .inl (fun _ => 0))), (q2, .inl (tc 0, (8 : Int).toNat, .inl (fun _ => 0))), (q3, .inl (tc 0, (40 : Int).toNat, .inl (fun _ => 0))), (q4, .inl (tc 0, (40 : Int).toNat, .inl (fun _ => 0))), (q5, .inl (tc 1, (40 : Int).toNat, .inr (.inl (fun _ => 0)))), (q6, .inl (tc 2, (40 : Int).toNat, .inl (fun _ => 0))), (q7, .inl (tc 0, (8 : Int).toNat, .inl (fun _ => 0))), (q8, .inl (tc 0, (32 : Int).toNat, .inl (fun _ => 0))), (q9, .inl (tc 0, (32 : Int).toNat, .inl (fun _ => 0)))]
noncomputable def F9_9 (q1 q2 q3 q4 q5 q6 q7 q8 q9 : Nat) : List Value := [.int 0, .ref q1, .int 0, .ref q2, .ref q3, .ref q4, .ref q5, .ref q6, .ref q7, .ref q8, .ref q9, .null, .null, .int 0, .null, .null, .null, .null, .null, .null, .int 0, .null, .int 0, .null, .null, .null, .null, .null, .int 0, .null, .null, .null, .null, .null, .null, .null, .null, .null, .null, .null, .null, .int 0, .int 0, .int 0, .null, .null, .null, .null, .null, .null, .int 0]
noncomputable def G9_18 (tc : Nat → ClassId) (h0 q1 q2 q3 q4 q5 q6 q7 q8 q9 : Nat) : va_W := [(h0, .inr (9, F9_9 q1 q2 q3 q4 q5 q6 q7 q8 q9)), (q1, .inl (tc 2, (16 : Int).toNat, .inl (fun _ => 0))), (q2, .inl (tc 0, (8 : Int).toNat, .inl (fun _ => 0))), (q3, .inl (tc 0, (40 : Int).toNat, .inl (fun _ => 0))), (q4, .inl (tc 0, (40 : Int).toNat, .inl (fun _ => 0))), (q5, .inl (tc 1, (40 : Int).toNat, .inr (.inl (fun _ => 0)))), (q6, .inl (tc 2, (40 : Int).toNat, .inl (fun _ => 0))), (q7, .inl (tc 0, (8 : Int).toNat, .inl (fun _ => 0))), (q8, .inl (tc 0, (32 : Int).toNat, .inl (fun _ => 0))), (q9, .inl (tc 0, (32 : Int).toNat, .inl (fun _ => 0)))]
noncomputable def G9_19 (tc : Nat → ClassId) (h0 q1 q2 q3 q4 q5 q6 q7 q8 q9 q10 : Nat) : va_W := [(h0, .inr (9, F9_9 q1 q2 q3 q4 q5 q6 q7 q8 q9)), (q1, .inl (tc 2, (16 : Int).toNat, .inl (fun _ => 0))), (q2, .inl (tc 0, (8 : Int).toNat, .inl (fun _ => 0))), (q3, .inl (tc 0, (40 : Int).toNat, .inl (fun _ => 0))), (q4, .inl (tc 0, (40 : Int).toNat, .inl (fun _ => 0))), (q5, .inl (tc 1, (40 : Int).toNat, .inr (.inl (fun _ => 0)))), (q6, .inl (tc 2, (40 : Int).toNat, .inl (fun _ => 0))), (q7, .inl (tc 0, (8 : Int).toNat, .inl (fun _ => 0))), (q8, .inl (tc 0, (32 : Int).toNat, .inl (fun _ => 0))), (q9, .inl (tc 0, (32 : Int).toNat, .inl (fun _ => 0))), (q10, .inl (tc 0, (32 : Int).toNat, .inl (fun _ => 0)))]
noncomputable def F9_10 (q1 q2 q3 q4 q5 q6 q7 q8 q9 q10 : Nat) : List Value := [.int 0, .ref q1, .int 0, .ref q2, .ref q3, .ref q4, .ref q5, .ref q6, .ref q7, .ref q8, .ref q9, .ref q10, .null, .int 0, .null, .null, .null, .null, .null, .null, .int 0, .null, .int 0, .null, .null, .null, .null, .null, .int 0, .null, .null, .null, .null, .null, .null, .null, .null, .null, .null, .null, .null, .int 0, .int 0, .int 0, .null, .null, .null, .null, .null, .null, .int 0]
noncomputable def G9_20 (tc : Nat → ClassId) (h0 q1 q2 q3 q4 q5 q6 q7 q8 q9 q10 : Nat) : va_W := [(h0, .inr (9, F9_10 q1 q2 q3 q4 q5 q6 q7 q8 q9 q10)), (q1, .inl (tc 2, (16 : Int).toNat, .inl (fun _ => 0))), (q2, .inl (tc 0, (8 : Int).toNat, .inl (fun _ => 0))), (q3, .inl (tc 0, (40 : Int).toNat, .inl (fun _ => 0))), (q4, .inl (tc 0, (40 : Int).toNat, .inl (fun _ => 0))), (q5, .inl (tc 1, (40 : Int).toNat, .inr (.inl (fun _ => 0)))), (q6, .inl (tc 2, (40 : Int).toNat, .inl (fun _ => 0))), (q7, .inl (tc 0, (8 : Int).toNat, .inl (fun _ => 0))), (q8, .inl (tc 0, (32 : Int).toNat, .inl (fun _ => 0))), (q9, .inl (tc 0, (32 : Int).toNat, .inl (fun _ => 0))), (q10, .inl (tc 0, (32 : Int).toNat, .inl (fun _ => 0)))]
noncomputable def G9_21 (tc : Nat → ClassId) (h0 q1 q2 q3 q4 q5 q6 q7 q8 q9 q10 q11 : Nat) : va_W := [(h0, .inr (9, F9_10 q1 q2 q3 q4 q5 q6 q7 q8 q9 q10)), (q1, .inl (tc 2, (16 : Int).toNat, .inl (fun _ => 0))), (q2, .inl (tc 0, (8 : Int).toNat, .inl (fun _ => 0))), (q3, .inl (tc 0, (40 : Int).toNat, .inl (fun _ => 0))), (q4, .inl (tc 0, (40 : Int).toNat, .inl (fun _ => 0))), (q5, .inl (tc 1, (40 : Int).toNat, .inr (.inl (fun _ => 0)))), (q6, .inl (tc 2, (40 : Int).toNat, .inl (fun _ => 0))), (q7, .inl (tc 0, (8 : Int).toNat, .inl (fun _ => 0))), (q8, .inl (tc 0, (32 : Int).toNat, .inl (fun _ => 0))), (q9, .inl (tc 0, (32 : Int).toNat, .inl (fun _ => 0))), (q10, .inl (tc 0, (32 : Int).toNat, .inl (fun _ => 0))), (q11, .inl (tc 1, (32 : Int).toNat, .inr (.inl (fun _ => 0))))]
noncomputable def F9_11 (q1 q2 q3 q4 q5 q6 q7 q8 q9 q10 q11 : Nat) : List Value := [.int 0, .ref q1, .int 0, .ref q2, .ref q3, .ref q4, .ref q5, .ref q6, .ref q7, .ref q8, .ref q9, .ref q10, .ref q11, .int 0, .null, .null, .null, .null, .null, .null, .int 0, .null, .int 0, .null, .null, .null, .null, .null, .int 0, .null, .null, .null, .null, .null, .null, .null, .null, .null, .null, .null, .null, .int 0, .int 0, .int 0, .null, .null, .null, .null, .null, .null, .int 0]
noncomputable def G9_22 (tc : Nat → ClassId) (h0 q1 q2 q3 q4 q5 q6 q7 q8 q9 q10 q11 : Nat) : va_W := [(h0, .inr (9, F9_11 q1 q2 q3 q4 q5 q6 q7 q8 q9 q10 q11)), (q1, .inl (tc 2, (16 : Int).toNat, .inl (fun _ => 0))), (q2, .inl (tc 0, (8 : Int).toNat, .inl (fun _ => 0))), (q3, .inl (tc 0, (40 : Int).toNat, .inl (fun _ => 0))), (q4, .inl (tc 0, (40 : Int).toNat, .inl (fun _ => 0))), (q5, .inl (tc 1, (40 : Int).toNat, .inr (.inl (fun _ => 0)))), (q6, .inl (tc 2, (40 : Int).toNat, .inl (fun _ => 0))), (q7, .inl (tc 0, (8 : Int).toNat, .inl (fun _ => 0))), (q8, .inl (tc 0, (32 : Int).toNat, .inl (fun _ => 0))), (q9, .inl (tc 0, (32 : Int).toNat, .inl (fun _ => 0))), (q10, .inl (tc 0, (32 : Int).toNat, .inl (fun _ => 0))), (q11, .inl (tc 1, (32 : Int).toNat, .inr (.inl (fun _ => 0))))]
noncomputable def G9_23 (tc : Nat → ClassId) (h0 q1 q2 q3 q4 q5 q6 q7 q8 q9 q10 q11 q12 : Nat) : va_W := [(h0, .inr (9, F9_11 q1 q2 q3 q4 q5 q6 q7 q8 q9 q10 q11)), (q1, .inl (tc 2, (16 : Int).toNat, .inl (fun _ => 0))), (q2, .inl (tc 0, (8 : Int).toNat, .inl (fun _ => 0))), (q3, .inl (tc 0, (40 : Int).toNat, .inl (fun _ => 0))), (q4, .inl (tc 0, (40 : Int).toNat, .inl (fun _ => 0))), (q5, .inl (tc 1, (40 : Int).toNat, .inr (.inl (fun _ => 0)))), (q6, .inl (tc 2, (40 : Int).toNat, .inl (fun _ => 0))), (q7, .inl (tc 0, (8 : Int).toNat, .inl (fun _ => 0))), (q8, .inl (tc 0, (32 : Int).toNat, .inl (fun _ => 0))), (q9, .inl (tc 0, (32 : Int).toNat, .inl (fun _ => 0))), (q10, .inl (tc 0, (32 : Int).toNat, .inl (fun _ => 0))), (q11, .inl (tc 1, (32 : Int).toNat, .inr (.inl (fun _ => 0)))), (q12, .inl (tc 0, (30 : Int).toNat, .inl (fun _ => 0)))]
noncomputable def F9_12 (q1 q2 q3 q4 q5 q6 q7 q8 q9 q10 q11 q12 : Nat) : List Value := [.int 0, .ref q1, .int 0, .ref q2, .ref q3, .ref q4, .ref q5, .ref q6, .ref q7, .ref q8, .ref q9, .ref q10, .ref q11, .int 0, .ref q12, .null, .null, .null, .null, .null, .int 0, .null, .int 0, .null, .null, .null, .null, .null, .int 0, .null, .null, .null, .null, .null, .null, .null, .null, .null, .null, .null, .null, .int 0, .int 0, .int 0, .null, .null, .null, .null, .null, .null, .int 0]
noncomputable def G9_24 (tc : Nat → ClassId) (h0 q1 q2 q3 q4 q5 q6 q7 q8 q9 q10 q11 q12 : Nat) : va_W := [(h0, .inr (9, F9_12 q1 q2 q3 q4 q5 q6 q7 q8 q9 q10 q11 q12)), (q1, .inl (tc 2, (16 : Int).toNat, .inl (fun _ => 0))), (q2, .inl (tc 0, (8 : Int).toNat, .inl (fun _ => 0))), (q3, .inl (tc 0, (40 : Int).toNat, .inl (fun _ => 0))), (q4, .inl (tc 0, (40 : Int).toNat, .inl (fun _ => 0))), (q5, .inl (tc 1, (40 : Int).toNat, .inr (.inl (fun _ => 0)))), (q6, .inl (tc 2, (40 : Int).toNat, .inl (fun _ => 0))), (q7, .inl (tc 0, (8 : Int).toNat, .inl (fun _ => 0))), (q8, .inl (tc 0, (32 : Int).toNat, .inl (fun _ => 0))), (q9, .inl (tc 0, (32 : Int).toNat, .inl (fun _ => 0))), (q10, .inl (tc 0, (32 : Int).toNat, .inl (fun _ => 0))), (q11, .inl (tc 1, (32 : Int).toNat, .inr (.inl (fun _ => 0)))), (q12, .inl (tc 0, (30 : Int).toNat, .inl (fun _ => 0)))]
noncomputable def G9_25 (tc : Nat → ClassId) (h0 q1 q2 q3 q4 q5 q6 q7 q8 q9 q10 q11 q12 q13 : Nat) : va_W := [(h0, .inr (9, F9_12 q1 q2 q3 q4 q5 q6 q7 q8 q9 q10 q11 q12)), (q1, .inl (tc 2, (16 : Int).toNat, .inl (fun _ => 0))), (q2, .inl (tc 0, (8 : Int).toNat, .inl (fun _ => 0))), (q3, .inl (tc 0, (40 : Int).toNat, .inl (fun _ => 0))), (q4, .inl (tc 0, (40 : Int).toNat, .inl (fun _ => 0))), (q5, .inl (tc 1, (40 : Int).toNat, .inr (.inl (fun _ => 0)))), (q6, .inl (tc 2, (40 : Int).toNat, .inl (fun _ => 0))), (q7, .inl (tc 0, (8 : Int).toNat, .inl (fun _ => 0))), (q8, .inl (tc 0, (32 : Int).toNat, .inl (fun _ => 0))), (q9, .inl (tc 0, (32 : Int).toNat, .inl (fun _ => 0))), (q10, .inl (tc 0, (32 : Int).toNat, .inl (fun _ => 0))), (q11, .inl (tc 1, (32 : Int).toNat, .inr (.inl (fun _ => 0)))), (q12, .inl (tc 0, (30 : Int).toNat, .inl (fun _ => 0))), (q13, .inl (tc 1, (150 : Int).toNat, .inr (.inl (fun _ => 0))))]
noncomputable def F9_13 (q1 q2 q3 q4 q5 q6 q7 q8 q9 q10 q11 q12 q13 : Nat) : List Value := [.int 0, .ref q1, .int 0, .ref q2, .ref q3, .ref q4, .ref q5, .ref q6, .ref q7, .ref q8, .ref q9, .ref q10, .ref q11, .int 0, .ref q12, .ref q13, .null, .null, .null, .null, .int 0, .null, .int 0, .null, .null, .null, .null, .null, .int 0, .null, .null, .null, .null, .null, .null, .null, .null, .null, .null, .null, .null, .int 0, .int 0, .int 0, .null, .null, .null, .null, .null, .null, .int 0]
noncomputable def G9_26 (tc : Nat → ClassId) (h0 q1 q2 q3 q4 q5 q6 q7 q8 q9 q10 q11 q12 q13 : Nat) : va_W := [(h0, .inr (9, F9_13 q1 q2 q3 q4 q5 q6 q7 q8 q9 q10 q11 q12 q13)), (q1, .inl (tc 2, (16 : Int).toNat, .inl (fun _ => 0))), (q2, .inl (tc 0, (8 : Int).toNat, .inl (fun _ => 0))), (q3, .inl (tc 0, (40 : Int).toNat, .inl (fun _ => 0))), (q4, .inl (tc 0, (40 : Int).toNat, .inl (fun _ => 0))), (q5, .inl (tc 1, (40 : Int).toNat, .inr (.inl (fun _ => 0)))), (q6, .inl (tc 2, (40 : Int).toNat, .inl (fun _ => 0))), (q7, .inl (tc 0, (8 : Int).toNat, .inl (fun _ => 0))), (q8, .inl (tc 0, (32 : Int).toNat, .inl (fun _ => 0))), (q9, .inl (tc 0, (32 : Int).toNat, .inl (fun _ => 0))), (q10, .inl (tc 0, (32 : Int).toNat, .inl (fun _ => 0))), (q11, .inl (tc 1, (32 : Int).toNat, .inr (.inl (fun _ => 0)))), (q12, .inl (tc 0, (30 : Int).toNat, .inl (fun _ => 0))), (q13, .inl (tc 1, (150 : Int).toNat, .inr (.inl (fun _ => 0))))]
noncomputable def G9_27 (tc : Nat → ClassId) (h0 q1 q2 q3 q4 q5 q6 q7 q8 q9 q10 q11 q12 q13 q14 : Nat) : va_W := [(h0, .inr (9, F9_13 q1 q2 q3 q4 q5 q6 q7 q8 q9 q10 q11 q12 q13)), (q1, .inl (tc 2, (16 : Int).toNat, .inl (fun _ => 0))), (q2, .inl (tc 0, (8 : Int).toNat, .inl (fun _ => 0))), (q3, .inl (tc 0, (40 : Int).toNat, .inl (fun _ => 0))), (q4, .inl (tc 0, (40 : Int).toNat, .inl (fun _ => 0))), (q5, .inl (tc 1, (40 : Int).toNat, .inr (.inl (fun _ => 0)))), (q6, .inl (tc 2, (40 : Int).toNat, .inl (fun _ => 0))), (q7, .inl (tc 0, (8 : Int).toNat, .inl (fun _ => 0))), (q8, .inl (tc 0, (32 : Int).toNat, .inl (fun _ => 0))), (q9, .inl (tc 0, (32 : Int).toNat, .inl (fun _ => 0))), (q10, .inl (tc 0, (32 : Int).toNat, .inl (fun _ => 0))), (q11, .inl (tc 1, (32 : Int).toNat, .inr (.inl (fun _ => 0)))), (q12, .inl (tc 0, (30 : Int).toNat, .inl (fun _ => 0))), (q13, .inl (tc 1, (150 : Int).toNat, .inr (.inl (fun _ => 0)))), (q14, .inl (tc 0, (400 : Int).toNat, .inl (fun _ => 0)))]
noncomputable def F9_14 (q1 q2 q3 q4 q5 q6 q7 q8 q9 q10 q11 q12 q13 q14 : Nat) : List Value := [.int 0, .ref q1, .int 0, .ref q2, .ref q3, .ref q4, .ref q5, .ref q6, .ref q7, .ref q8, .ref q9, .ref q10, .ref q11, .int 0, .ref q12, .ref q13, .ref q14, .null, .null, .null, .int 0, .null, .int 0, .null, .null, .null, .null, .null, .int 0, .null, .null, .null, .null, .null, .null, .null, .null, .null, .null, .null, .null, .int 0, .int 0, .int 0, .null, .null, .null, .null, .null, .null, .int 0]
noncomputable def G9_28 (tc : Nat → ClassId) (h0 q1 q2 q3 q4 q5 q6 q7 q8 q9 q10 q11 q12 q13 q14 : Nat) : va_W := [(h0, .inr (9, F9_14 q1 q2 q3 q4 q5 q6 q7 q8 q9 q10 q11 q12 q13 q14)), (q1, .inl (tc 2, (16 : Int).toNat, .inl (fun _ => 0))), (q2, .inl (tc 0, (8 : Int).toNat, .inl (fun _ => 0))), (q3, .inl (tc 0, (40 : Int).toNat, .inl (fun _ => 0))), (q4, .inl (tc 0, (40 : Int).toNat, .inl (fun _ => 0))), (q5, .inl (tc 1, (40 : Int).toNat, .inr (.inl (fun _ => 0)))), (q6, .inl (tc 2, (40 : Int).toNat, .inl (fun _ => 0))), (q7, .inl (tc 0, (8 : Int).toNat, .inl (fun _ => 0))), (q8, .inl (tc 0, (32 : Int).toNat, .inl (fun _ => 0))), (q9, .inl (tc 0, (32 : Int).toNat, .inl (fun _ => 0))), (q10, .inl (tc 0, (32 : Int).toNat, .inl (fun _ => 0))), (q11, .inl (tc 1, (32 : Int).toNat, .inr (.inl (fun _ => 0)))), (q12, .inl (tc 0, (30 : Int).toNat, .inl (fun _ => 0))), (q13, .inl (tc 1, (150 : Int).toNat, .inr (.inl (fun _ => 0)))), (q14, .inl (tc 0, (400 : Int).toNat, .inl (fun _ => 0)))]
noncomputable def G9_29 (tc : Nat → ClassId) (h0 q1 q2 q3 q4 q5 q6 q7 q8 q9 q10 q11 q12 q13 q14 q15 : Nat) : va_W := [(h0, .inr (9, F9_14 q1 q2 q3 q4 q5 q6 q7 q8 q9 q10 q11 q12 q13 q14)), (q1, .inl (tc 2, (16 : Int).toNat, .inl (fun _ => 0))), (q2, .inl (tc 0, (8 : Int).toNat, .inl (fun _ => 0))), (q3, .inl (tc 0, (40 : Int).toNat, .inl (fun _ => 0))), (q4, .inl (tc 0, (40 : Int).toNat, .inl (fun _ => 0))), (q5, .inl (tc 1, (40 : Int).toNat, .inr (.inl (fun _ => 0)))), (q6, .inl (tc 2, (40 : Int).toNat, .inl (fun _ => 0))), (q7, .inl (tc 0, (8 : Int).toNat, .inl (fun _ => 0))), (q8, .inl (tc 0, (32 : Int).toNat, .inl (fun _ => 0))), (q9, .inl (tc 0, (32 : Int).toNat, .inl (fun _ => 0))), (q10, .inl (tc 0, (32 : Int).toNat, .inl (fun _ => 0))), (q11, .inl (tc 1, (32 : Int).toNat, .inr (.inl (fun _ => 0)))), (q12, .inl (tc 0, (30 : Int).toNat, .inl (fun _ => 0))), (q13, .inl (tc 1, (150 : Int).toNat, .inr (.inl (fun _ => 0)))), (q14, .inl (tc 0, (400 : Int).toNat, .inl (fun _ => 0))), (q15, .inl (tc 0, (400 : Int).toNat, .inl (fun _ => 0)))]
noncomputable def F9_15 (q1 q2 q3 q4 q5 q6 q7 q8 q9 q10 q11 q12 q13 q14 q15 : Nat) : List Value := [.int 0, .ref q1, .int 0, .ref q2, .ref q3, .ref q4, .ref q5, .ref q6, .ref q7, .ref q8, .ref q9, .ref q10, .ref q11, .int 0, .ref q12, .ref q13, .ref q14, .ref q15, .null, .null, .int 0, .null, .int 0, .null, .null, .null, .null, .null, .int 0, .null, .null, .null, .null, .null, .null, .null, .null, .null, .null, .null, .null, .int 0, .int 0, .int 0, .null, .null, .null, .null, .null, .null, .int 0]
noncomputable def G9_30 (tc : Nat → ClassId) (h0 q1 q2 q3 q4 q5 q6 q7 q8 q9 q10 q11 q12 q13 q14 q15 : Nat) : va_W := [(h0, .inr (9, F9_15 q1 q2 q3 q4 q5 q6 q7 q8 q9 q10 q11 q12 q13 q14 q15)), (q1, .inl (tc 2, (16 : Int).toNat, .inl (fun _ => 0))), (q2, .inl (tc 0, (8 : Int).toNat, .inl (fun _ => 0))), (q3, .inl (tc 0, (40 : Int).toNat, .inl (fun _ => 0))), (q4, .inl (tc 0, (40 : Int).toNat, .inl (fun _ => 0))), (q5, .inl (tc 1, (40 : Int).toNat, .inr (.inl (fun _ => 0)))), (q6, .inl (tc 2, (40 : Int).toNat, .inl (fun _ => 0))), (q7, .inl (tc 0, (8 : Int).toNat, .inl (fun _ => 0))), (q8, .inl (tc 0, (32 : Int).toNat, .inl (fun _ => 0))), (q9, .inl (tc 0, (32 : Int).toNat, .inl (fun _ => 0))), (q10, .inl (tc 0, (32 : Int).toNat, .inl (fun _ => 0))), (q11, .inl (tc 1, (32 : Int).toNat, .inr (.inl (fun _ => 0)))), (q12, .inl (tc 0, (30 : Int).toNat, .inl (fun _ => 0))), (q13, .inl (tc 1, (150 : Int).toNat, .inr (.inl (fun _ => 0)))), (q14, .inl (tc 0, (400 : Int).toNat, .inl (fun _ => 0))), (q15, .inl (tc 0, (400 : Int).toNat, .inl (fun _ => 0)))]
noncomputable def G9_31 (tc : Nat → ClassId) (h0 q1 q2 q3 q4 q5 q6 q7 q8 q9 q10 q11 q12 q13 q14 q15 q16 : Nat) : va_W := [(h0, .inr (9, F9_15 q1 q2 q3 q4 q5 q6 q7 q8 q9 q10 q11 q12 q13 q14 q15)), (q1, .inl (tc 2, (16 : Int).toNat, .inl (fun _ => 0))), (q2, .inl (tc 0, (8 : Int).toNat, .inl (fun _ => 0))), (q3, .inl (tc 0, (40 : Int).toNat, .inl (fun _ => 0))), (q4, .inl (tc 0, (40 : Int).toNat, .inl (fun _ => 0))), (q5, .inl (tc 1, (40 : Int).toNat, .inr (.inl (fun _ => 0)))), (q6, .inl (tc 2, (40 : Int).toNat, .inl (fun _ => 0))), (q7, .inl (tc 0, (8 : Int).toNat, .inl (fun _ => 0))), (q8, .inl (tc 0, (32 : Int).toNat, .inl (fun _ => 0))), (q9, .inl (tc 0, (32 : Int).toNat, .inl (fun _ => 0))), (q10, .inl (tc 0, (32 : Int).toNat, .inl (fun _ => 0))), (q11, .inl (tc 1, (32 : Int).toNat, .inr (.inl (fun _ => 0)))), (q12, .inl (tc 0, (30 : Int).toNat, .inl (fun _ => 0))), (q13, .inl (tc 1, (150 : Int).toNat, .inr (.inl (fun _ => 0)))), (q14, .inl (tc 0, (400 : Int).toNat, .inl (fun _ => 0))), (q15, .inl (tc 0, (400 : Int).toNat, .inl (fun _ => 0))), (q16, .inl (tc 1, (4800 : Int).toNat, .inr (.inl (fun _ => 0))))]
noncomputable def F9_16 (q1 q2 q3 q4 q5 q6 q7 q8 q9 q10 q11 q12 q13 q14 q15 q16 : Nat) : List Value := [.int 0, .ref q1, .int 0, .ref q2, .ref q3, .ref q4, .ref q5, .ref q6, .ref q7, .ref q8, .ref q9, .ref q10, .ref q11, .int 0, .ref q12, .ref q13, .ref q14, .ref q15, .ref q16, .null, .int 0, .null, .int 0, .null, .null, .null, .null, .null, .int 0, .null, .null, .null, .null, .null, .null, .null, .null, .null, .null, .null, .null, .int 0, .int 0, .int 0, .null, .null, .null, .null, .null, .null, .int 0]
noncomputable def G9_32 (tc : Nat → ClassId) (h0 q1 q2 q3 q4 q5 q6 q7 q8 q9 q10 q11 q12 q13 q14 q15 q16 : Nat) : va_W := [(h0, .inr (9, F9_16 q1 q2 q3 q4 q5 q6 q7 q8 q9 q10 q11 q12 q13 q14 q15 q16)), (q1, .inl (tc 2, (16 : Int).toNat, .inl (fun _ => 0))), (q2, .inl (tc 0, (8 : Int).toNat, .inl (fun _ => 0))), (q3, .inl (tc 0, (40 : Int).toNat, .inl (fun _ => 0))), (q4, .inl (tc 0, (40 : Int).toNat, .inl (fun _ => 0))), (q5, .inl (tc 1, (40 : Int).toNat, .inr (.inl (fun _ => 0)))), (q6, .inl (tc 2, (40 : Int).toNat, .inl (fun _ => 0))), (q7, .inl (tc 0, (8 : Int).toNat, .inl (fun _ => 0))), (q8, .inl (tc 0, (32 : Int).toNat, .inl (fun _ => 0))), (q9, .inl (tc 0, (32 : Int).toNat, .inl (fun _ => 0))), (q10, .inl (tc 0, (32 : Int).toNat, .inl (fun _ => 0))), (q11, .inl (tc 1, (32 : Int).toNat, .inr (.inl (fun _ => 0)))), (q12, .inl (tc 0, (30 : Int).toNat, .inl (fun _ => 0))), (q13, .inl (tc 1, (150 : Int).toNat, .inr (.inl (fun _ => 0)))), (q14, .inl (tc 0, (400 : Int).toNat, .inl (fun _ => 0))), (q15, .inl (tc 0, (400 : Int).toNat, .inl (fun _ => 0))), (q16, .inl (tc 1, (4800 : Int).toNat, .inr (.inl (fun _ => 0))))]
noncomputable def G9_33 (tc : Nat → ClassId) (h0 q1 q2 q3 q4 q5 q6 q7 q8 q9 q10 q11 q12 q13 q14 q15 q16 q17 : Nat) : va_W := [(h0, .inr (9, F9_16 q1 q2 q3 q4 q5 q6 q7 q8 q9 q10 q11 q12 q13 q14 q15 q16)), (q1, .inl (tc 2, (16 : Int).toNat, .inl (fun _ => 0))), (q2, .inl (tc 0, (8 : Int).toNat, .inl (fun _ => 0))), (q3, .inl (tc 0, (40 : Int).toNat, .inl (fun _ => 0))), (q4, .inl (tc 0, (40 : Int).toNat, .inl (fun _ => 0))), (q5, .inl (tc 1, (40 : Int).toNat, .inr (.inl (fun _ => 0)))), (q6, .inl (tc 2, (40 : Int).toNat, .inl (fun _ => 0))), (q7, .inl (tc 0, (8 : Int).toNat, .inl (fun _ => 0))), (q8, .inl (tc 0, (32 : Int).toNat, .inl (fun _ => 0))), (q9, .inl (tc 0, (32 : Int).toNat, .inl (fun _ => 0))), (q10, .inl (tc 0, (32 : Int).toNat, .inl (fun _ => 0))), (q11, .inl (tc 1, (32 : Int).toNat, .inr (.inl (fun _ => 0)))), (q12, .inl (tc 0, (30 : Int).toNat, .inl (fun _ => 0))), (q13, .inl (tc 1, (150 : Int).toNat, .inr (.inl (fun _ => 0)))), (q14, .inl (tc 0, (400 : Int).toNat, .inl (fun _ => 0))), (q15, .inl (tc 0, (400 : Int).toNat, .inl (fun _ => 0))), (q16, .inl (tc 1, (4800 : Int).toNat, .inr (.inl (fun _ => 0)))), (q17, .inl (tc 2, (400 : Int).toNat, .inl (fun _ => 0)))]
noncomputable def F9_17 (q1 q2 q3 q4 q5 q6 q7 q8 q9 q10 q11 q12 q13 q14 q15 q16 q17 : Nat) : List Value := [.int 0, .ref q1, .int 0, .ref q2, .ref q3, .ref q4, .ref q5, .ref q6, .ref q7, .ref q8, .ref q9, .ref q10, .ref q11, .int 0, .ref q12, .ref q13, .ref q14, .ref q15, .ref q16, .ref q17, .int 0, .null, .int 0, .null, .null, .null, .null, .null, .int 0, .null, .null, .null, .null, .null, .null, .null, .null, .null, .null, .null, .null, .int 0, .int 0, .int 0, .null, .null, .null, .null, .null, .null, .int 0]
noncomputable def G9_34 (tc : Nat → ClassId) (h0 q1 q2 q3 q4 q5 q6 q7 q8 q9 q10 q11 q12 q13 q14 q15 q16 q17 : Nat) : va_W := [(h0, .inr (9, F9_17 q1 q2 q3 q4 q5 q6 q7 q8 q9 q10 q11 q12 q13 q14 q15 q16 q17)), (q1, .inl (tc 2, (16 : Int).toNat, .inl (fun _ => 0))), (q2, .inl (tc 0, (8 : Int).toNat, .inl (fun _ => 0))), (q3, .inl (tc 0, (40 : Int).toNat, .inl (fun _ => 0))), (q4, .inl (tc 0, (40 : Int).toNat, .inl (fun _ => 0))), (q5, .inl (tc 1, (40 : Int).toNat, .inr (.inl (fun _ => 0)))), (q6, .inl (tc 2, (40 : Int).toNat, .inl (fun _ => 0))), (q7, .inl (tc 0, (8 : Int).toNat, .inl (fun _ => 0))), (q8, .inl (tc 0, (32 : Int).toNat, .inl (fun _ => 0))), (q9, .inl (tc 0, (32 : Int).toNat, .inl (fun _ => 0))), (q10, .inl (tc 0, (32 : Int).toNat, .inl (fun _ => 0))), (q11, .inl (tc 1, (32 : Int).toNat, .inr (.inl (fun _ => 0)))), (q12, .inl (tc 0, (30 : Int).toNat, .inl (fun _ => 0))), (q13, .inl (tc 1, (150 : Int).toNat, .inr (.inl (fun _ => 0)))), (q14, .inl (tc 0, (400 : Int).toNat, .inl (fun _ => 0))), (q15, .inl (tc 0, (400 : Int).toNat, .inl (fun _ => 0))), (q16, .inl (tc 1, (4800 : Int).toNat, .inr (.inl (fun _ => 0)))), (q17, .inl (tc 2, (400 : Int).toNat, .inl (fun _ => 0)))]
noncomputable def G9_35 (tc : Nat → ClassId) (h0 q1 q2 q3 q4 q5 q6 q7 q8 q9 q10 q11 q12 q13 q14 q15 q16 q17 q18 : Nat) : va_W := [(h0, .inr (9, F9_17 q1 q2 q3 q4 q5 q6 q7 q8 q9 q10 q11 q12 q13 q14 q15 q16 q17)), (q1, .inl (tc 2, (16 : Int).toNat, .inl (fun _ => 0))), (q2, .inl (tc 0, (8 : Int).toNat, .inl (fun _ => 0))), (q3, .inl (tc 0, (40 : Int).toNat, .inl (fun _ => 0))), (q4, .inl (tc 0, (40 : Int).toNat, .inl (fun _ => 0))), (q5, .inl (tc 1, (40 : Int).toNat, .inr (.inl (fun _ => 0)))), (q6, .inl (tc 2, (40 : Int).toNat, .inl (fun _ => 0))), (q7, .inl (tc 0, (8 : Int).toNat, .inl (fun _ => 0))), (q8, .inl (tc 0, (32 : Int).toNat, .inl (fun _ => 0))), (q9, .inl (tc 0, (32 : Int).toNat, .inl (fun _ => 0))), (q10, .inl (tc 0, (32 : Int).toNat, .inl (fun _ => 0))), (q11, .inl (tc 1, (32 : Int).toNat, .inr (.inl (fun _ => 0)))), (q12, .inl (tc 0, (30 : Int).toNat, .inl (fun _ => 0))), (q13, .inl (tc 1, (150 : Int).toNat, .inr (.inl (fun _ => 0)))), (q14, .inl (tc 0, (400 : Int).toNat, .inl (fun _ => 0))), (q15, .inl (tc 0, (400 : Int).toNat, .inl (fun _ => 0))), (q16, .inl (tc 1, (4800 : Int).toNat, .inr (.inl (fun _ => 0)))), (q17, .inl (tc 2, (400 : Int).toNat, .inl (fun _ => 0))), (q18, .inl (tc 0, (4 : Int).toNat, .inl (fun _ => 0)))]
noncomputable def F9_18 (q1 q2 q3 q4 q5 q6 q7 q8 q9 q10 q11 q12 q13 q14 q15 q16 q17 q18 : Nat) : List Value := [.int 0, .ref q1, .int 0, .ref q2, .ref q3, .ref q4, .ref q5, .ref q6, .ref q7, .ref q8, .ref q9, .ref q10, .ref q11, .int 0, .ref q12, .ref q13, .ref q14, .ref q15, .ref q16, .ref q17, .int 0, .ref q18, .int 0, .null, .null, .null, .null, .null, .int 0, .null, .null, .null, .null, .null, .null, .null, .null, .null, .null, .null, .null, .int 0, .int 0, .int 0, .null, .null, .null, .null, .null, .null, .int 0]
noncomputable def G9_36 (tc : Nat → ClassId) (h0 q1 q2 q3 q4 q5 q6 q7 q8 q9 q10 q11 q12 q13 q14 q15 q16 q17 q18 : Nat) : va_W := [(h0, .inr (9, F9_18 q1 q2 q3 q4 q5 q6 q7 q8 q9 q10 q11 q12 q13 q14 q15 q16 q17 q18)), (q1, .inl (tc 2, (16 : Int).toNat, .inl (fun _ => 0))), (q2, .inl (tc 0, (8 : Int).toNat, .inl (fun _ => 0))), (q3, .inl (tc 0, (40 : Int).toNat, .inl (fun _ => 0))), (q4, .inl (tc 0, (40 : Int).toNat, .inl (fun _ => 0))), (q5, .inl (tc 1, (40 : Int).toNat, .inr (.inl (fun _ => 0)))), (q6, .inl (tc 2, (40 : Int).toNat, .inl (fun _ => 0))), (q7, .inl (tc 0, (8 : Int).toNat, .inl (fun _ => 0))), (q8, .inl (tc 0, (32 : Int).toNat, .inl (fun _ => 0))), (q9, .inl (tc 0, (32 : Int).toNat, .inl (fun _ => 0))), (q10, .inl (tc 0, (32 : Int).toNat, .inl (fun _ => 0))), (q11, .inl (tc 1, (32 : Int).toNat, .inr (.inl (fun _ => 0)))), (q12, .inl (tc 0, (30 : Int).toNat, .inl (fun _ => 0))), (q13, .inl (tc 1, (150 : Int).toNat, .inr (.inl (fun _ => 0)))), (q14, .inl (tc 0, (400 : Int).toNat, .inl (fun _ => 0))), (q15, .inl (tc 0, (400 : Int).toNat, .inl (fun _ => 0))), (q16, .inl (tc 1, (4800 : Int).toNat, .inr (.inl (fun _ => 0)))), (q17, .inl (tc 2, (400 : Int).toNat, .inl (fun _ => 0))), (q18, .inl (tc 0, (4 : Int).toNat, .inl (fun _ => 0)))]
noncomputable def G9_37 (tc : Nat → ClassId) (h0 q1 q2 q3 q4 q5 q6 q7 q8 q9 q10 q11 q12 q13 q14 q15 q16 q17 q18 q19 : Nat) : va_W := [(h0, .inr (9, F9_18 q1 q2 q3 q4 q5 q6 q7 q8 q9 q10 q11 q12 q13 q14 q15 q16 q17 q18)), (q1, .inl (tc 2, (16 : Int).toNat, .inl (fun _ => 0))), (q2, .inl (tc 0, (8 : Int).toNat, .inl (fun _ => 0))), (q3, .inl (tc 0, (40 : Int).toNat, .inl (fun _ => 0))), (q4, .inl (tc 0, (40 : Int).toNat, .inl (fun _ => 0))), (q5, .inl (tc 1, (40 : Int).toNat, .inr (.inl (fun _ => 0)))), (q6, .inl (tc 2, (40 : Int).toNat, .inl (fun _ => 0))), (q7, .inl (tc 0, (8 : Int).toNat, .inl (fun _ => 0))), (q8, .inl (tc 0, (32 : Int).toNat, .inl (fun _ => 0))), (q9, .inl (tc 0, (32 : Int).toNat, .inl (fun _ => 0))), (q10, .inl (tc 0, (32 : Int).toNat, .inl (fun _ => 0))), (q11, .inl (tc 1, (32 : Int).toNat, .inr (.inl (fun _ => 0)))), (q12, .inl (tc 0, (30 : Int).toNat, .inl (fun _ => 0))), (q13, .inl (tc 1, (150 : Int).toNat, .inr (.inl (fun _ => 0)))), (q14, .inl (tc 0, (400 : Int).toNat, .inl (fun _ => 0))), (q15, .inl (tc 0, (400 : Int).toNat, .inl (fun _ => 0))), (q16, .inl (tc 1, (4800 : Int).toNat, .inr (.inl (fun _ => 0)))), (q17, .inl (tc 2, (400 : Int).toNat, .inl (fun _ => 0))), (q18, .inl (tc 0, (4 : Int).toNat, .inl (fun _ => 0))), (q19, .inl (tc 0, (80 : Int).toNat, .inl (fun _ => 0)))]
noncomputable def F9_19 (q1 q2 q3 q4 q5 q6 q7 q8 q9 q10 q11 q12 q13 q14 q15 q16 q17 q18 q19 : Nat) : List Value := [.int 0, .ref q1, .int 0, .ref q2, .ref q3, .ref q4, .ref q5, .ref q6, .ref q7, .ref q8, .ref q9, .ref q10, .ref q11, .int 0, .ref q12, .ref q13, .ref q14, .ref q15, .ref q16, .ref q17, .int 0, .ref q18, .int 0, .ref q19, .null, .null, .null, .null, .int 0, .null, .null, .null, .null, .null, .null, .null, .null, .null, .null, .null, .null, .int 0, .int 0, .int 0, .null, .null, .null, .null, .null, .null, .int 0]
noncomputable def G9_38 (tc : Nat → ClassId) (h0 q1 q2 q3 q4 q5 q6 q7 q8 q9 q10 q11 q12 q13 q14 q15 q16 q17 q18 q19 : Nat) : va_W := [(h0, .inr (9, F9_19 q1 q2 q3 q4 q5 q6 q7 q8 q9 q10 q11 q12 q13 q14 q15 q16 q17 q18 q19)), (q1, .inl (tc 2, (16 : Int).toNat, .inl (fun _ => 0))), (q2, .inl (tc 0, (8 : Int).toNat, .inl (fun _ => 0))), (q3, .inl (tc 0, (40 : Int).toNat, .inl (fun _ => 0))), (q4, .inl (tc 0, (40 : Int).toNat, .inl (fun _ => 0))), (q5, .inl (tc 1, (40 : Int).toNat, .inr (.inl (fun _ => 0)))), (q6, .inl (tc 2, (40 : Int).toNat, .inl (fun _ => 0))), (q7, .inl (tc 0, (8 : Int).toNat, .inl (fun _ => 0))), (q8, .inl (tc 0, (32 : Int).toNat, .inl (fun _ => 0))), (q9, .inl (tc 0, (32 : Int).toNat, .inl (fun _ => 0))), (q10, .inl (tc 0, (32 : Int).toNat, .inl (fun _ => 0))), (q11, .inl (tc 1, (32 : Int).toNat, .inr (.inl (fun _ => 0)))), (q12, .inl (tc 0, (30 : Int).toNat, .inl (fun _ => 0))), (q13, .inl (tc 1, (150 : Int).toNat, .inr (.inl (fun _ => 0)))), (q14, .inl (tc 0, (400 : Int).toNat, .inl (fun _ => 0))), (q15, .inl (tc 0, (400 : Int).toNat, .inl (fun _ => 0))), (q16, .inl (tc 1, (4800 : Int).toNat, .inr (.inl (fun _ => 0)))), (q17, .inl (tc 2, (400 : Int).toNat, .inl (fun _ => 0))), (q18, .inl (tc 0, (4 : Int).toNat, .inl (fun _ => 0))), (q19, .inl (tc 0, (80 : Int).toNat, .inl (fun _ => 0)))]
noncomputable def G9_39 (tc : Nat → ClassId) (h0 q1 q2 q3 q4 q5 q6 q7 q8 q9 q10 q11 q12 q13 q14 q15 q16 q17 q18 q19 q20 : Nat) : va_W := [(h0, .inr (9, F9_19 q1 q2 q3 q4 q5 q6 q7 q8 q9 q10 q11 q12 q13 q14 q15 q16 q17 q18 q19)), (q1, .inl (tc 2, (16 : Int).toNat, .inl (fun _ => 0))), (q2, .inl (tc 0, (8 : Int).toNat, .inl (fun _ => 0))), (q3, .inl (tc 0, (40 : Int).toNat, .inl (fun _ => 0))), (q4, .inl (tc 0, (40 : Int).toNat, .inl (fun _ => 0))), (q5, .inl (tc 1, (40 : Int).toNat, .inr (.inl (fun _ => 0)))), (q6, .inl (tc 2, (40 : Int).toNat, .inl (fun _ => 0))), (q7, .inl (tc 0, (8 : Int).toNat, .inl (fun _ => 0))), (q8, .inl (tc 0, (32 : Int).toNat, .inl (fun _ => 0))), (q9, .inl (tc 0, (32 : Int).toNat, .inl (fun _ => 0))), (q10, .inl (tc 0, (32 : Int).toNat, .inl (fun _ => 0))), (q11, .inl (tc 1, (32 : Int).toNat, .inr (.inl (fun _ => 0)))), (q12, .inl (tc 0, (30 : Int).toNat, .inl (fun _ => 0))), (q13, .inl (tc 1, (150 : Int).toNat, .inr (.inl (fun _ => 0)))), (q14, .inl (tc 0, (400 : Int).toNat, .inl (fun _ => 0))), (q15, .inl (tc 0, (400 : Int).toNat, .inl (fun _ => 0))), (q16, .inl (tc 1, (4800 : Int).toNat, .inr (.inl (fun _ => 0)))), (q17, .inl (tc 2, (400 : Int).toNat, .inl (fun _ => 0))), (q18, .inl (tc 0, (4 : Int).toNat, .inl (fun _ => 0))), (q19, .inl (tc 0, (80 : Int).toNat, .inl (fun _ => 0))), (q20, .inl (tc 0, (80 : Int).toNat, .inl (fun _ => 0)))]
noncomputable def F9_20 (q1 q2 q3 q4 q5 q6 q7 q8 q9 q10 q11 q12 q13 q14 q15 q16 q17 q18 q19 q20 : Nat) : List Value := [.int 0, .ref q1, .int 0, .ref q2, .ref q3, .ref q4, .ref q5, .ref q6, .ref q7, .ref q8, .ref q9, .ref q10, .ref q11, .int 0, .ref q12, .ref q13, .ref q14, .ref q15, .ref q16, .ref q17, .int 0, .ref q18, .int 0, .ref q19, .ref q20, .null, .null, .null, .int 0, .null, .null, .null, .null, .null, .null, .null, .null, .null, .null, .null, .null, .int 0, .int 0, .int 0, .null, .null, .null, .null, .null, .null, .int 0]
noncomputable def G9_40 (tc : Nat → ClassId) (h0 q1 q2 q3 q4 q5 q6 q7 q8 q9 q10 q11 q12 q13 q14 q15 q16 q17 q18 q19 q20 : Nat) : va_W := [(h0, .inr (9, F9_20 q1 q2 q3 q4 q5 q6 q7 q8 q9 q10 q11 q12 q13 q14 q15 q16 q17 q18 q19 q20)), (q1, .inl (tc 2, (16 : Int).toNat, .inl (fun _ => 0))), (q2, .inl (tc 0, (8 : Int).toNat, .inl (fun _ => 0))), (q3, .inl (tc 0, (40 : Int).toNat, .inl (fun _ => 0))), (q4, .inl (tc 0, (40 : Int).toNat, .inl (fun _ => 0))), (q5, .inl (tc 1, (40 : Int).toNat, .inr (.inl (fun _ => 0)))), (q6, .inl (tc 2, (40 : Int).toNat, .inl (fun _ => 0))), (q7, .inl (tc 0, (8 : Int).toNat, .inl (fun _ => 0))), (q8, .inl (tc 0, (32 : Int).toNat, .inl (fun _ => 0))), (q9, .inl (tc 0, (32 : Int).toNat, .inl (fun _ => 0))), (q10, .inl (tc 0, (32 : Int).toNat, .inl (fun _ => 0))), (q11, .inl (tc 1, (32 : Int).toNat, .inr (.inl (fun _ => 0)))), (q12, .inl (tc 0, (30 : Int).toNat, .inl (fun _ => 0))), (q13, .inl (tc 1, (150 : Int).toNat, .inr (.inl (fun _ => 0)))), (q14, .inl (tc 0, (400 : Int).toNat, .inl (fun _ => 0))), (q15, .inl (tc 0, (400 : Int).toNat, .inl (fun _ => 0))), (q16, .inl (tc 1, (4800 : Int).toNat, .inr (.inl (fun _ => 0)))), (q17, .inl (tc 2, (400 : Int).toNat, .inl (fun _ => 0))), (q18, .inl (tc 0, (4 : Int).toNat, .inl (fun _ => 0))), (q19, .inl (tc 0, (80 : Int).toNat, .inl (fun _ => 0))), (q20, .inl (tc 0, (80 : Int).toNat, .inl (fun _ => 0)))]
noncomputable def G9_41 (tc : Nat → ClassId) (h0 q1 q2 q3 q4 q5 q6 q7 q8 q9 q10 q11 q12 q13 q14 q15 q16 q17 q18 q19 q20 q21 : Nat) : va_W := [(h0, .inr (9, F9_20 q1 q2 q3 q4 q5 q6 q7 q8 q9 q10 q11 q12 q13 q14 q15 q16 q17 q18 q19 q20)), (q1, .inl (tc 2, (16 : Int).toNat, .inl (fun _ => 0))), (q2, .inl (tc 0, (8 : Int).toNat, .inl (fun _ => 0))), (q3, .inl (tc 0, (40 : Int).toNat, .inl (fun _ => 0))), (q4, .inl (tc 0, (40 : Int).toNat, .inl (fun _ => 0))), (q5, .inl (tc 1, (40 : Int).toNat, .inr (.inl (fun _ => 0)))), (q6, .inl (tc 2, (40 : Int).toNat, .inl (fun _ => 0))), (q7, .inl (tc 0, (8 : Int).toNat, .inl (fun _ => 0))), (q8, .inl (tc 0, (32 : Int).toNat, .inl (fun _ => 0))), (q9, .inl (tc 0, (32 : Int).toNat, .inl (fun _ => 0))), (q10, .inl (tc 0, (32 : Int).toNat, .inl (fun _ => 0))), (q11, .inl (tc 1, (32 : Int).toNat, .inr (.inl (fun _ => 0)))), (q12, .inl (tc 0, (30 : Int).toNat, .inl (fun _ => 0))), (q13, .inl (tc 1, (150 : Int).toNat, .inr (.inl (fun _ => 0)))), (q14, .inl (tc 0, (400 : Int).toNat, .inl (fun _ => 0))), (q15, .inl (tc 0, (400 : Int).toNat, .inl (fun _ => 0))), (q16, .inl (tc 1, (4800 : Int).toNat, .inr (.inl (fun _ => 0)))), (q17, .inl (tc 2, (400 : Int).toNat, .inl (fun _ => 0))), (q18, .inl (tc 0, (4 : Int).toNat, .inl (fun _ => 0))), (q19, .inl (tc 0, (80 : Int).toNat, .inl (fun _ => 0))), (q20, .inl (tc 0, (80 : Int).toNat, .inl (fun _ => 0))), (q21, .inl (tc 0, (80 : Int).toNat, .inl (fun _ => 0)))]
noncomputable def F9_21 (q1 q2 q3 q4 q5 q6 q7 q8 q9 q10 q11 q12 q13 q14 q15 q16 q17 q18 q19 q20 q21 : Nat) : List Value := [.int 0, .ref q1, .int 0, .ref q2, .ref q3, .ref q4, .ref q5, .ref q6, .ref q7, .ref q8, .ref q9, .ref q10, .ref q11, .int 0, .ref q12, .ref q13, .ref q14, .ref q15, .ref q16, .ref q17, .int 0, .ref q18, .int 0, .ref q19, .ref q20, .ref q21, .null, .null, .int 0, .null, .null, .null, .null, .null, .null, .null, .null, .null, .null, .null, .null, .int 0, .int 0, .int 0, .null, .null, .null, .null, .null, .null, .int 0]
noncomputable def G9_42 (tc : Nat → ClassId) (h0 q1 q2 q3 q4 q5 q6 q7 q8 q9 q10 q11 q12 q13 q14 q15 q16 q17 q18 q19 q20 q21 : Nat) : va_W := [(h0, .inr (9, F9_21 q1 q2 q3 q4 q5 q6 q7 q8 q9 q10 q11 q12 q13 q14 q15 q16 q17 q18 q19 q20 q21)), (q1, .inl (tc 2, (16 : Int).toNat, .inl (fun _ => 0))), (q2, .inl (tc 0, (8 : Int).toNat, .inl (fun _ => 0))), (q3, .inl (tc 0, (40 : Int).toNat, .inl (fun _ => 0))), (q4, .inl (tc 0, (40 : Int).toNat, .inl (fun _ => 0))), (q5, .inl (tc 1, (40 : Int).toNat, .inr (.inl (fun _ => 0)))), (q6, .inl (tc 2, (40 : Int).toNat, .inl (fun _ => 0))), (q7, .inl (tc 0, (8 : Int).toNat, .inl (fun _ => 0))), (q8, .inl (tc 0, (32 : Int).toNat, .inl (fun _ => 0))), (q9, .inl (tc 0, (32 : Int).toNat, .inl (fun _ => 0))), (q10, .inl (tc 0, (32 : Int).toNat, .inl (fun _ => 0))), (q11, .inl (tc 1, (32 : Int).toNat, .inr (.inl (fun _ => 0)))), (q12, .inl (tc 0, (30 : Int).toNat, .inl (fun _ => 0))), (q13, .inl (tc 1, (150 : Int).toNat, .inr (.inl (fun _ => 0)))), (q14, .inl (tc 0, (400 : Int).toNat, .inl (fun _ => 0))), (q15, .inl (tc 0, (400 : Int).toNat, .inl (fun _ => 0))), (q16, .inl (tc 1, (4800 : Int).toNat, .inr (.inl (fun _ => 0)))), (q17, .inl (tc 2, (400 : Int).toNat, .inl (fun _ => 0))), (q18, .inl (tc 0, (4 : Int).toNat, .inl (fun _ => 0))), (q19, .inl (tc 0, (80 : Int).toNat, .inl (fun _ => 0))), (q20, .inl (tc 0, (80 : Int).toNat, .inl (fun _ => 0))), (q21, .inl (tc 0, (80 : Int).toNat, .inl (fun _ => 0)))]
noncomputable def G9_43 (tc : Nat → ClassId) (h0 q1 q2 q3 q4 q5 q6 q7 q8 q9 q10 q11 q12 q13 q14 q15 q16 q17 q18 q19 q20 q21 q22 : Nat) : va_W := [(h0, .inr (9, F9_21 q1 q2 q3 q4 q5 q6 q7 q8 q9 q10 q11 q12 q13 q14 q15 q16 q17 q18 q19 q20 q21)), (q1, .inl (tc 2, (16 : Int).toNat, .inl (fun _ => 0))), (q2, .inl (tc 0, (8 : Int).toNat, .inl (fun _ => 0))), (q3, .inl (tc 0, (40 : Int).toNat, .inl (fun _ => 0))), (q4, .inl (tc 0, (40 : Int).toNat, .inl (fun _ => 0))), (q5, .inl (tc 1, (40 : Int).toNat, .inr (.inl (fun _ => 0)))), (q6, .inl (tc 2, (40 : Int).toNat, .inl (fun _ => 0))), (q7, .inl (tc 0, (8 : Int).toNat, .inl (fun _ => 0))), (q8, .inl (tc 0, (32 : Int).toNat, .inl (fun _ => 0))), (q9, .inl (tc 0, (32 : Int).toNat, .inl (fun _ => 0))), (q10, .inl (tc 0, (32 : Int).toNat, .inl (fun _ => 0))), (q11, .inl (tc 1, (32 : Int).toNat, .inr (.inl (fun _ => 0)))), (q12, .inl (tc 0, (30 : Int).toNat, .inl (fun _ => 0))), (q13, .inl (tc 1, (150 : Int).toNat, .inr (.inl (fun _ => 0)))), (q14, .inl (tc 0, (400 : Int).toNat, .inl (fun _ => 0))), (q15, .inl (tc 0, (400 : Int).toNat, .inl (fun _ => 0))), (q16, .inl (tc 1, (4800 : Int).toNat, .inr (.inl (fun _ => 0)))), (q17, .inl (tc 2, (400 : Int).toNat, .inl (fun _ => 0))), (q18, .inl (tc 0, (4 : Int).toNat, .inl (fun _ => 0))), (q19, .inl (tc 0, (80 : Int).toNat, .inl (fun _ => 0))), (q20, .inl (tc 0, (80 : Int).toNat, .inl (fun _ => 0))), (q21, .inl (tc 0, (80 : Int).toNat, .inl (fun _ => 0))), (q22, .inl (tc 0, (80 : Int).toNat, .inl (fun _ => 0)))]
noncomputable def F9_22 (q1 q2 q3 q4 q5 q6 q7 q8 q9 q10 q11 q12 q13 q14 q15 q16 q17 q18 q19 q20 q21 q22 : Nat) : List Value := [.int 0, .ref q1, .int 0, .ref q2, .ref q3, .ref q4, .ref q5, .ref q6, .ref q7, .ref q8, .ref q9, .ref q10, .ref q11, .int 0, .ref q12, .ref q13, .ref q14, .ref q15, .ref q16, .ref q17, .int 0, .ref q18, .int 0, .ref q19, .ref q20, .ref q21, .ref q22, .null, .int 0, .null, .null, .null, .null, .null, .null, .null, .null, .null, .null, .null, .null, .int 0, .int 0, .int 0, .null, .null, .null, .null, .null, .null, .int 0]
noncomputable def G9_44 (tc : Nat → ClassId) (h0 q1 q2 q3 q4 q5 q6 q7 q8 q9 q10 q11 q12 q13 q14 q15 q16 q17 q18 q19 q20 q21 q22 : Nat) : va_W := [(h0, .inr (9, F9_22 q1 q2 q3 q4 q5 q6 q7 q8 q9 q10 q11 q12 q13 q14 q15 q16 q17 q18 q19 q20 q21 q22)), (q1, .inl (tc 2, (16 : Int).toNat, .inl (fun _ => 0))), (q2, .inl (tc 0, (8 : Int).toNat, .inl (fun _ => 0))), (q3, .inl (tc 0, (40 : Int).toNat, .inl (fun _ => 0))), (q4, .inl (tc 0, (40 : Int).toNat, .inl (fun _ => 0))), (q5, .inl (tc 1, (40 : Int).toNat, .inr (.inl (fun _ => 0)))), (q6, .inl (tc 2, (40 : Int).toNat, .inl (fun _ => 0))), (q7, .inl (tc 0, (8 : Int).toNat, .inl (fun _ => 0))), (q8, .inl (tc 0, (32 : Int).toNat, .inl (fun _ => 0))), (q9, .inl (tc 0, (32 : Int).toNat, .inl (fun _ => 0))), (q10, .inl (tc 0, (32 : Int).toNat, .inl (fun _ => 0))), (q11, .inl (tc 1, (32 : Int).toNat, .inr (.inl (fun _ => 0)))), (q12, .inl (tc 0, (30 : Int).toNat, .inl (fun _ => 0))), (q13, .inl (tc 1, (150 : Int).toNat, .inr (.inl (fun _ => 0)))), (q14, .inl (tc 0, (400 : Int).toNat, .inl (fun _ => 0))), (q15, .inl (tc 0, (400 : Int).toNat, .inl (fun _ => 0))), (q16, .inl (tc 1, (4800 : Int).toNat, .inr (.inl (fun _ => 0)))), (q17, .inl (tc 2, (400 : Int).toNat, .inl (fun _ => 0))), (q18, .inl (tc 0, (4 : Int).toNat, .inl (fun _ => 0))), (q19, .inl (tc 0, (80 : Int).toNat, .inl (fun _ => 0))), (q20, .inl (tc 0, (80 : Int).toNat, .inl (fun _ => 0))), (q21, .inl (tc 0, (80 : Int).toNat, .inl (fun _ => 0))), (q22, .inl (tc 0, (80 : Int).toNat, .inl (fun _ => 0)))]
noncomputable def G9_45 (tc : Nat → ClassId) (h0 q1 q2 q3 q4 q5 q6 q7 q8 q9 q10 q11 q12 q13 q14 q15 q16 q17 q18 q19 q20 q21 q22 q23 : Nat) : va_W := [(h0, .inr (9, F9_22 q1 q2 q3 q4 q5 q6 q7 q8 q9 q10 q11 q12 q13 q14 q15 q16 q17 q18 q19 q20 q21 q22)), (q1, .inl (tc 2, (16 : Int).toNat, .inl (fun _ => 0))), (q2, .inl (tc 0, (8 : Int).toNat, .inl (fun _ => 0))), (q3, .inl (tc 0, (40 : Int).toNat, .inl (fun _ => 0))), (q4, .inl (tc 0, (40 : Int).toNat, .inl (fun _ => 0))), (q5, .inl (tc 1, (40 : Int).toNat, .inr (.inl (fun _ => 0)))), (q6, .inl (tc 2, (40 : Int).toNat, .inl (fun _ => 0))), (q7, .inl (tc 0, (8 : Int).toNat, .inl (fun _ => 0))), (q8, .inl (tc 0, (32 : Int).toNat, .inl (fun _ => 0))), (q9, .inl (tc 0, (32 : Int).toNat, .inl (fun _ => 0))), (q10, .inl (tc 0, (32 : Int).toNat, .inl (fun _ => 0))), (q11, .inl (tc 1, (32 : Int).toNat, .inr (.inl (fun _ => 0)))), (q12, .inl (tc 0, (30 : Int).toNat, .inl (fun _ => 0))), (q13, .inl (tc 1, (150 : Int).toNat, .inr (.inl (fun _ => 0)))), (q14, .inl (tc 0, (400 : Int).toNat, .inl (fun _ => 0))), (q15, .inl (tc 0, (400 : Int).toNat, .inl (fun _ => 0))), (q16, .inl (tc 1, (4800 : Int).toNat, .inr (.inl (fun _ => 0)))), (q17, .inl (tc 2, (400 : Int).toNat, .inl (fun _ => 0))), (q18, .inl (tc 0, (4 : Int).toNat, .inl (fun _ => 0))), (q19, .inl (tc 0, (80 : Int).toNat, .inl (fun _ => 0))), (q20, .inl (tc 0, (80 : Int).toNat, .inl (fun _ => 0))), (q21, .inl (tc 0, (80 : Int).toNat, .inl (fun _ => 0))), (q22, .inl (tc 0, (80 : Int).toNat, .inl (fun _ => 0))), (q23, .inl (tc 1, (80 : Int).toNat, .inr (.inl (fun _ => 0))))]
noncomputable def F9_23 (q1 q2 q3 q4 q5 q6 q7 q8 q9 q10 q11 q12 q13 q14 q15 q16 q17 q18 q19 q20 q21 q22 q23 : Nat) : List Value := [.int 0, .ref q1, .int 0, .ref q2, .ref q3, .ref q4, .ref q5, .ref q6, .ref q7, .ref q8, .ref q9, .ref q10, .ref q11, .int 0, .ref q12, .ref q13, .ref q14, .ref q15, .ref q16, .ref q17, .int 0, .ref q18, .int 0, .ref q19, .ref q20, .ref q21, .ref q22, .ref q23, .int 0, .null, .null, .null, .null, .null, .null, .null, .null, .null, .null, .null, .null, .int 0, .int 0, .int 0, .null, .null, .null, .null, .null, .null, .int 0]
noncomputable def G9_46 (tc : Nat → ClassId) (h0 q1 q2 q3 q4 q5 q6 q7 q8 q9 q10 q11 q12 q13 q14 q15 q16 q17 q18 q19 q20 q21 q22 q23 : Nat) : va_W := [(h0, .inr (9, F9_23 q1 q2 q3 q4 q5 q6 q7 q8 q9 q10 q11 q12 q13 q14 q15 q16 q17 q18 q19 q20 q21 q22 q23)), (q1, .inl (tc 2, (16 : Int).toNat, .inl (fun _ => 0))), (q2, .inl (tc 0, (8 : Int).toNat, .inl (fun _ => 0))), (q3, .inl (tc 0, (40 : Int).toNat, .inl (fun _ => 0))), (q4, .inl (tc 0, (40 : Int).toNat, .inl (fun _ => 0))), (q5, .inl (tc 1, (40 : Int).toNat, .inr (.inl (fun _ => 0)))), (q6, .inl (tc 2, (40 : Int).toNat, .inl (fun _ => 0))), (q7, .inl (tc 0, (8 : Int).toNat, .inl (fun _ => 0))), (q8, .inl (tc 0, (32 : Int).toNat, .inl (fun _ => 0))), (q9, .inl (tc 0, (32 : Int).toNat, .inl (fun _ => 0))), (q10, .inl (tc 0, (32 : Int).toNat, .inl (fun _ => 0))), (q11, .inl (tc 1, (32 : Int).toNat, .inr (.inl (fun _ => 0)))), (q12, .inl (tc 0, (30 : Int).toNat, .inl (fun _ => 0))), (q13, .inl (tc 1, (150 : Int).toNat, .inr (.inl (fun _ => 0)))), (q14, .inl (tc 0, (400 : Int).toNat, .inl (fun _ => 0))), (q15, .inl (tc 0, (400 : Int).toNat, .inl (fun _ => 0))), (q16, .inl (tc 1, (4800 : Int).toNat, .inr (.inl (fun _ => 0)))), (q17, .inl (tc 2, (400 : Int).toNat, .inl (fun _ => 0))), (q18, .inl (tc 0, (4 : Int).toNat, .inl (fun _ => 0))), (q19, .inl (tc 0, (80 : Int).toNat, .inl (fun _ => 0))), (q20, .inl (tc 0, (80 : Int).toNat, .inl (fun _ => 0))), (q21, .inl (tc 0, (80 : Int).toNat, .inl (fun _ => 0))), (q22, .inl (tc 0, (80 : Int).toNat, .inl (fun _ => 0))), (q23, .inl (tc 1, (80 : Int).toNat, .inr (.inl (fun _ => 0))))]
noncomputable def G9_47 (tc : Nat → ClassId) (h0 q1 q2 q3 q4 q5 q6 q7 q8 q9 q10 q11 q12 q13 q14 q15 q16 q17 q18 q19 q20 q21 q22 q23 q24 : Nat) : va_W := [(h0, .inr (9, F9_23 q1 q2 q3 q4 q5 q6 q7 q8 q9 q10 q11 q12 q13 q14 q15 q16 q17 q18 q19 q20 q21 q22 q23)), (q1, .inl (tc 2, (16 : Int).toNat, .inl (fun _ => 0))), (q2, .inl (tc 0, (8 : Int).toNat, .inl (fun _ => 0))), (q3, .inl (tc 0, (40 : Int).toNat, .inl (fun _ => 0))), (q4, .inl (tc 0, (40 : Int).toNat, .inl (fun _ => 0))), (q5, .inl (tc 1, (40 : Int).toNat, .inr (.inl (fun _ => 0)))), (q6, .inl (tc 2, (40 : Int).toNat, .inl (fun _ => 0))), (q7, .inl (tc 0, (8 : Int).toNat, .inl (fun _ => 0))), (q8, .inl (tc 0, (32 : Int).toNat, .inl (fun _ => 0))), (q9, .inl (tc 0, (32 : Int).toNat, .inl (fun _ => 0))), (q10, .inl (tc 0, (32 : Int).toNat, .inl (fun _ => 0))), (q11, .inl (tc 1, (32 : Int).toNat, .inr (.inl (fun _ => 0)))), (q12, .inl (tc 0, (30 : Int).toNat, .inl (fun _ => 0))), (q13, .inl (tc 1, (150 : Int).toNat, .inr (.inl (fun _ => 0)))), (q14, .inl (tc 0, (400 : Int).toNat, .inl (fun _ => 0))), (q15, .inl (tc 0, (400 : Int).toNat, .inl (fun _ => 0))), (q16, .inl (tc 1, (4800 : Int).toNat, .inr (.inl (fun _ => 0)))), (q17, .inl (tc 2, (400 : Int).toNat, .inl (fun _ => 0))), (q18, .inl (tc 0, (4 : Int).toNat, .inl (fun _ => 0))), (q19, .inl (tc 0, (80 : Int).toNat, .inl (fun _ => 0))), (q20, .inl (tc 0, (80 : Int).toNat, .inl (fun _ => 0))), (q21, .inl (tc 0, (80 : Int).toNat, .inl (fun _ => 0))), (q22, .inl (tc 0, (80 : Int).toNat, .inl (fun _ => 0))), (q23, .inl (tc 1, (80 : Int).toNat, .inr (.inl (fun _ => 0)))), (q24, .inl (tc 0, (5 : Int).toNat, .inl (fun _ => 0)))]
noncomputable def F9_24 (q1 q2 q3 q4 q5 q6 q7 q8 q9 q10 q11 q12 q13 q14 q15 q16 q17 q18 q19 q20 q21 q22 q23 q24 : Nat) : List Value := [.int 0, .ref q1, .int 0, .ref q2, .ref q3, .ref q4, .ref q5, .ref q6, .ref q7, .ref q8, .ref q9, .ref q10, .ref q11, .int 0, .ref q12, .ref q13, .ref q14, .ref q15, .ref q16, .ref q17, .int 0, .ref q18, .int 0, .ref q19, .ref q20, .ref q21, .ref q22, .ref q23, .int 0, .ref q24, .null, .null, .null, .null, .null, .null, .null, .null, .null, .null, .null, .int 0, .int 0, .int 0, .null, .null, .null, .null, .null, .null, .int 0]
noncomputable def G9_48 (tc : Nat → ClassId) (h0 q1 q2 q3 q4 q5 q6 q7 q8 q9 q10 q11 q12 q13 q14 q15 q16 q17 q18 q19 q20 q21 q22 q23 q24 : Nat) : va_W := [(h0, .inr (9, F9_24 q1 q2 q3 q4 q5 q6 q7 q8 q9 q10 q11 q12 q13 q14 q15 q16 q17 q18 q19 q20 q21 q22 q23 q24)), (q1, .inl (tc 2, (16 : Int).toNat, .inl (fun _ => 0))), (q2, .inl (tc 0, (8 : Int).toNat, .inl (fun _ => 0))), (q3, .inl (tc 0, (40 : Int).toNat, .inl (fun _ => 0))), (q4, .inl (tc 0, (40 : Int).toNat, .inl (fun _ => 0))), (q5, .inl (tc 1, (40 : Int).toNat, .inr (.inl (fun _ => 0)))), (q6, .inl (tc 2, (40 : Int).toNat, .inl (fun _ => 0))), (q7, .inl (tc 0, (8 : Int).toNat, .inl (fun _ => 0))), (q8, .inl (tc 0, (32 : Int).toNat, .inl (fun _ => 0))), (q9, .inl (tc 0, (32 : Int).toNat, .inl (fun _ => 0))), (q10, .inl (tc 0, (32 : Int).toNat, .inl (fun _ => 0))), (q11, .inl (tc 1, (32 : Int).toNat, .inr (.inl (fun _ => 0)))), (q12, .inl (tc 0, (30 : Int).toNat, .inl (fun _ => 0))), (q13, .inl (tc 1, (150 : Int).toNat, .inr (.inl (fun _ => 0)))), (q14, .inl (tc 0, (400 : Int).toNat, .inl (fun _ => 0))), (q15, .inl (tc 0, (400 : Int).toNat, .inl (fun _ => 0))), (q16, .inl (tc 1, (4800 : Int).toNat, .inr (.inl (fun _ => 0)))), (q17, .inl (tc 2, (400 : Int).toNat, .inl (fun _ => 0))), (q18, .inl (tc 0, (4 : Int).toNat, .inl (fun _ => 0))), (q19, .inl (tc 0, (80 : Int).toNat, .inl (fun _ => 0))), (q20, .inl (tc 0, (80 : Int).toNat, .inl (fun _ => 0))), (q21, .inl (tc 0, (80 : Int).toNat, .inl (fun _ => 0))), (q22, .inl (tc 0, (80 : Int).toNat, .inl (fun _ => 0))), (q23, .inl (tc 1, (80 : Int).toNat, .inr (.inl (fun _ => 0)))), (q24, .inl (tc 0, (5 : Int).toNat, .inl (fun _ => 0)))]
noncomputable def G9_49 (tc : Nat → ClassId) (h0 q1 q2 q3 q4 q5 q6 q7 q8 q9 q10 q11 q12 q13 q14 q15 q16 q17 q18 q19 q20 q21 q22 q23 q24 q25 : Nat) : va_W := [(h0, .inr (9, F9_24 q1 q2 q3 q4 q5 q6 q7 q8 q9 q10 q11 q12 q13 q14 q15 q16 q17 q18 q19 q20 q21 q22 q23 q24)), (q1, .inl (tc 2, (16 : Int).toNat, .inl (fun _ => 0))), (q2, .inl (tc 0, (8 : Int).toNat, .inl (fun _ => 0))), (q3, .inl (tc 0, (40 : Int).toNat, .inl (fun _ => 0))), (q4, .inl (tc 0, (40 : Int).toNat, .inl (fun _ => 0))), (q5, .inl (tc 1, (40 : Int).toNat, .inr (.inl (fun _ => 0)))), (q6, .inl (tc 2, (40 : Int).toNat, .inl (fun _ => 0))), (q7, .inl (tc 0, (8 : Int).toNat, .inl (fun _ => 0))), (q8, .inl (tc 0, (32 : Int).toNat, .inl (fun _ => 0))), (q9, .inl (tc 0, (32 : Int).toNat, .inl (fun _ => 0))), (q10, .inl (tc 0, (32 : Int).toNat, .inl (fun _ => 0))), (q11, .inl (tc 1, (32 : Int).toNat, .inr (.inl (fun _ => 0)))), (q12, .inl (tc 0, (30 : Int).toNat, .inl (fun _ => 0))), (q13, .inl (tc 1, (150 : Int).toNat, .inr (.inl (fun _ => 0)))), (q14, .inl (tc 0, (400 : Int).toNat, .inl (fun _ => 0))), (q15, .inl (tc 0, (400 : Int).toNat, .inl (fun _ => 0))), (q16, .inl (tc 1, (4800 : Int).toNat, .inr (.inl (fun _ => 0)))), (q17, .inl (tc 2, (400 : Int).toNat, .inl (fun _ => 0))), (q18, .inl (tc 0, (4 : Int).toNat, .inl (fun _ => 0))), (q19, .inl (tc 0, (80 : Int).toNat, .inl (fun _ => 0))), (q20, .inl (tc 0, (80 : Int).toNat, .inl (fun _ => 0))), (q21, .inl (tc 0, (80 : Int).toNat, .inl (fun _ => 0))), (q22, .inl (tc 0, (80 : Int).toNat, .inl (fun _ => 0))), (q23, .inl (tc 1, (80 : Int).toNat, .inr (.inl (fun _ => 0)))), (q24, .inl (tc 0, (5 : Int).toNat, .inl (fun _ => 0))), (q25, .inl (tc 0, (150 : Int).toNat, .inl (fun _ => 0)))]
noncomputable def F9_25 (q1 q2 q3 q4 q5 q6 q7 q8 q9 q10 q11 q12 q13 q14 q15 q16 q17 q18 q19 q20 q21 q22 q23 q24 q25 : Nat) : List Value := [.int 0, .ref q1, .int 0, .ref q2, .ref q3, .ref q4, .ref q5, .ref q6, .ref q7, .ref q8, .ref q9, .ref q10, .ref q11, .int 0, .ref q12, .ref q13, .ref q14, .ref q15, .ref q16, .ref q17, .int 0, .ref q18, .int 0, .ref q19, .ref q20, .ref q21, .ref q22, .ref q23, .int 0, .ref q24, .ref q25, .null, .null, .null, .null, .null, .null, .null, .null, .null, .null, .int 0, .int 0, .int 0, .null, .null, .null, .null, .null, .null, .int 0]
noncomputable def G9_50 (tc : Nat → ClassId) (h0 q1 q2 q3 q4 q5 q6 q7 q8 q9 q10 q11 q12 q13 q14 q15 q16 q17 q18 q19 q20 q21 q22 q23 q24 q25 : Nat) : va_W := [(h0, .inr (9, F9_25 q1 q2 q3 q4 q5 q6 q7 q8 q9 q10 q11 q12 q13 q14 q15 q16 q17 q18 q19 q20 q21 q22 q23 q24 q25)), (q1, .inl (tc 2, (16 : Int).toNat, .inl (fun _ => 0))), (q2, .inl (tc 0, (8 : Int).toNat, .inl (fun _ => 0))), (q3, .inl (tc 0, (40 : Int).toNat, .inl (fun _ => 0))), (q4, .inl (tc 0, (40 : Int).toNat, .inl (fun _ => 0))), (q5, .inl (tc 1, (40 : Int).toNat, .inr (.inl (fun _ => 0)))), (q6, .inl (tc 2, (40 : Int).toNat, .inl (fun _ => 0))), (q7, .inl (tc 0, (8 : Int).toNat, .inl (fun _ => 0))), (q8, .inl (tc 0, (32 : Int).toNat, .inl (fun _ => 0))), (q9, .inl (tc 0, (32 : Int).toNat, .inl (fun _ => 0))), (q10, .inl (tc 0, (32 : Int).toNat, .inl (fun _ => 0))), (q11, .inl (tc 1, (32 : Int).toNat, .inr (.inl (fun _ => 0)))), (q12, .inl (tc 0, (30 : Int).toNat, .inl (fun _ => 0))), (q13, .inl (tc 1, (150 : Int).toNat, .inr (.inl (fun _ => 0)))), (q14, .inl (tc 0, (400 : Int).toNat, .inl (fun _ => 0))), (q15, .inl (tc 0, (400 : Int).toNat, .inl (fun _ => 0))), (q16, .inl (tc 1, (4800 : Int).toNat, .inr (.inl (fun _ => 0)))), (q17, .inl (tc 2, (400 : Int).toNat, .inl (fun _ => 0))), (q18, .inl (tc 0, (4 : Int).toNat, .inl (fun _ => 0))), (q19, .inl (tc 0, (80 : Int).toNat, .inl (fun _ => 0))), (q20, .inl (tc 0, (80 : Int).toNat, .inl (fun _ => 0))), (q21, .inl (tc 0, (80 : Int).toNat, .inl (fun _ => 0))), (q22, .inl (tc 0, (80 : Int).toNat, .inl (fun _ => 0))), (q23, .inl (tc 1, (80 : Int).toNat, .inr (.inl (fun _ => 0)))), (q24, .inl (tc 0, (5 : Int).toNat, .inl (fun _ => 0))), (q25, .inl (tc 0, (150 : Int).toNat, .inl (fun _ => 0)))]
noncomputable def G9_51 (tc : Nat → ClassId) (h0 q1 q2 q3 q4 q5 q6 q7 q8 q9 q10 q11 q12 q13 q14 q15 q16 q17 q18 q19 q20 q21 q22 q23 q24 q25 q26 : Nat) : va_W := [(h0, .inr (9, F9_25 q1 q2 q3 q4 q5 q6 q7 q8 q9 q10 q11 q12 q13 q14 q15 q16 q17 q18 q19 q20 q21 q22 q23 q24 q25)), (q1, .inl (tc 2, (16 : Int).toNat, .inl (fun _ => 0))), (q2, .inl (tc 0, (8 : Int).toNat, .inl (fun _ => 0))), (q3, .inl (tc 0, (40 : Int).toNat, .inl (fun _ => 0))), (q4, .inl (tc 0, (40 : Int).toNat, .inl (fun _ => 0))), (q5, .inl (tc 1, (40 : Int).toNat, .inr (.inl (fun _ => 0)))), (q6, .inl (tc 2, (40 : Int).toNat, .inl (fun _ => 0))), (q7, .inl (tc 0, (8 : Int).toNat, .inl (fun _ => 0))), (q8, .inl (tc 0, (32 : Int).toNat, .inl (fun _ => 0))), (q9, .inl (tc 0, (32 : Int).toNat, .inl (fun _ => 0))), (q10, .inl (tc 0, (32 : Int).toNat, .inl (fun _ => 0))), (q11, .inl (tc 1, (32 : Int).toNat, .inr (.inl (fun _ => 0)))), (q12, .inl (tc 0, (30 : Int).toNat, .inl (fun _ => 0))), (q13, .inl (tc 1, (150 : Int).toNat, .inr (.inl (fun _ => 0)))), (q14, .inl (tc 0, (400 : Int).toNat, .inl (fun _ => 0))), (q15, .inl (tc 0, (400 : Int).toNat, .inl (fun _ => 0))), (q16, .inl (tc 1, (4800 : Int).toNat, .inr (.inl (fun _ => 0)))), (q17, .inl (tc 2, (400 : Int).toNat, .inl (fun _ => 0))), (q18, .inl (tc 0, (4 : Int).toNat, .inl (fun _ => 0))), (q19, .inl (tc 0, (80 : Int).toNat, .inl (fun _ => 0))), (q20, .inl (tc 0, (80 : Int).toNat, .inl (fun _ => 0))), (q21, .inl (tc 0, (80 : Int).toNat, .inl (fun _ => 0))), (q22, .inl (tc 0, (80 : Int).toNat, .inl (fun _ => 0))), (q23, .inl (tc 1, (80 : Int).toNat, .inr (.inl (fun _ => 0)))), (q24, .inl (tc 0, (5 : Int).toNat, .inl (fun _ => 0))), (q25, .inl (tc 0, (150 : Int).toNat, .inl (fun _ => 0))), (q26, .inl (tc 0, (150 : Int).toNat, .inl (fun _ => 0)))]
noncomputable def F9_26 (q1 q2 q3 q4 q5 q6 q7 q8 q9 q10 q11 q12 q13 q14 q15 q16 q17 q18 q19 q20 q21 q22 q23 q24 q25 q26 : Nat) : List Value := [.int 0, .ref q1, .int 0, .ref q2, .ref q3, .ref q4, .ref q5, .ref q6, .ref q7, .ref q8, .ref q9, .ref q10, .ref q11, .int 0, .ref q12, .ref q13, .ref q14, .ref q15, .ref q16, .ref q17, .int 0, .ref q18, .int 0, .ref q19, .ref q20, .ref q21, .ref q22, .ref q23, .int 0, .ref q24, .ref q25, .ref q26, .null, .null, .null, .null, .null, .null, .null, .null, .null, .int 0, .int 0, .int 0, .null, .null, .null, .null, .null, .null, .int 0]
noncomputable def G9_52 (tc : Nat → ClassId) (h0 q1 q2 q3 q4 q5 q6 q7 q8 q9 q10 q11 q12 q13 q14 q15 q16 q17 q18 q19 q20 q21 q22 q23 q24 q25 q26 : Nat) : va_W := [(h0, .inr (9, F9_26 q1 q2 q3 q4 q5 q6 q7 q8 q9 q10 q11 q12 q13 q14 q15 q16 q17 q18 q19 q20 q21 q22 q23 q24 q25 q26)), (q1, .inl (tc 2, (16 : Int).toNat, .inl (fun _ => 0))), (q2, .inl (tc 0, (8 : Int).toNat, .inl (fun _ => 0))), (q3, .inl (tc 0, (40 : Int).toNat, .inl (fun _ => 0))), (q4, .inl (tc 0, (40 : Int).toNat, .inl (fun _ => 0))), (q5, .inl (tc 1, (40 : Int).toNat, .inr (.inl (fun _ => 0)))), (q6, .inl (tc 2, (40 : Int).toNat, .inl (fun _ => 0))), (q7, .inl (tc 0, (8 : Int).toNat, .inl (fun _ => 0))), (q8, .inl (tc 0, (32 : Int).toNat, .inl (fun _ => 0))), (q9, .inl (tc 0, (32 : Int).toNat, .inl (fun _ => 0))), (q10, .inl (tc 0, (32 : Int).toNat, .inl (fun _ => 0))), (q11, .inl (tc 1, (32 : Int).toNat, .inr (.inl (fun _ => 0)))), (q12, .inl (tc 0, (30 : Int).toNat, .inl (fun _ => 0))), (q13, .inl (tc 1, (150 : Int).toNat, .inr (.inl (fun _ => 0)))), (q14, .inl (tc 0, (400 : Int).toNat, .inl (fun _ => 0))), (q15, .inl (tc 0, (400 : Int).toNat, .inl (fun _ => 0))), (q16, .inl (tc 1, (4800 : Int).toNat, .inr (.inl (fun _ => 0)))), (q17, .inl (tc 2, (400 : Int).toNat, .inl (fun _ => 0))), (q18, .inl (tc 0, (4 : Int).toNat, .inl (fun _ => 0))), (q19, .inl (tc 0, (80 : Int).toNat, .inl (fun _ => 0))), (q20, .inl (tc 0, (80 : Int).toNat, .inl (fun _ => 0))), (q21, .inl (tc 0, (80 : Int).toNat, .inl (fun _ => 0))), (q22, .inl (tc 0, (80 : Int).toNat, .inl (fun _ => 0))), (q23, .inl (tc 1, (80 : Int).toNat, .inr (.inl (fun _ => 0)))), (q24, .inl (tc 0, (5 : Int).toNat, .inl (fun _ => 0))), (q25, .inl (tc 0, (150 : Int).toNat, .inl (fun _ => 0))), (q26, .inl (tc 0, (150 : Int).toNat, .inl (fun _ => 0)))]
noncomputable def G9_53 (tc : Nat → ClassId) (h0 q1 q2 q3 q4 q5 q6 q7 q8 q9 q10 q11 q12 q13 q14 q15 q16 q17 q18 q19 q20 q21 q22 q23 q24 q25 q26 q27 : Nat) : va_W := [(h0, .inr (9, F9_26 q1 q2 q3 q4 q5 q6 q7 q8 q9 q10 q11 q12 q13 q14 q15 q16 q17 q18 q19 q20 q21 q22 q23 q24 q25 q26)), (q1, .inl (tc 2, (16 : Int).toNat, .inl (fun _ => 0))), (q2, .inl (tc 0, (8 : Int).toNat, .inl (fun _ => 0))), (q3, .inl (tc 0, (40 : Int).toNat, .inl (fun _ => 0))), (q4, .inl (tc 0, (40 : Int).toNat, .inl (fun _ => 0))), (q5, .inl (tc 1, (40 : Int).toNat, .inr (.inl (fun _ => 0)))), (q6, .inl (tc 2, (40 : Int).toNat, .inl (fun _ => 0))), (q7, .inl (tc 0, (8 : Int).toNat, .inl (fun _ => 0))), (q8, .inl (tc 0, (32 : Int).toNat, .inl (fun _ => 0))), (q9, .inl (tc 0, (32 : Int).toNat, .inl (fun _ => 0))), (q10, .inl (tc 0, (32 : Int).toNat, .inl (fun _ => 0))), (q11, .inl (tc 1, (32 : Int).toNat, .inr (.inl (fun _ => 0)))), (q12, .inl (tc 0, (30 : Int).toNat, .inl (fun _ => 0))), (q13, .inl (tc 1, (150 : Int).toNat, .inr (.inl (fun _ => 0)))), (q14, .inl (tc 0, (400 : Int).toNat, .inl (fun _ => 0))), (q15, .inl (tc 0, (400 : Int).toNat, .inl (fun _ => 0))), (q16, .inl (tc 1, (4800 : Int).toNat, .inr (.inl (fun _ => 0)))), (q17, .inl (tc 2, (400 : Int).toNat, .inl (fun _ => 0))), (q18, .inl (tc 0, (4 : Int).toNat, .inl (fun _ => 0))), (q19, .inl (tc 0, (80 : Int).toNat, .inl (fun _ => 0))), (q20, .inl (tc 0, (80 : Int).toNat, .inl (fun _ => 0))), (q21, .inl (tc 0, (80 : Int).toNat, .inl (fun _ => 0))), (q22, .inl (tc 0, (80 : Int).toNat, .inl (fun _ => 0))), (q23, .inl (tc 1, (80 : Int).toNat, .inr (.inl (fun _ => 0)))), (q24, .inl (tc 0, (5 : Int).toNat, .inl (fun _ => 0))), (q25, .inl (tc 0, (150 : Int).toNat, .inl (fun _ => 0))), (q26, .inl (tc 0, (150 : Int).toNat, .inl (fun _ => 0))), (q27, .inl (tc 0, (750 : Int).toNat, .inl (fun _ => 0)))]
noncomputable def F9_27 (q1 q2 q3 q4 q5 q6 q7 q8 q9 q10 q11 q12 q13 q14 q15 q16 q17 q18 q19 q20 q21 q22 q23 q24 q25 q26 q27 : Nat) : List Value := [.int 0, .ref q1, .int 0, .ref q2, .ref q3, .ref q4, .ref q5, .ref q6, .ref q7, .ref q8, .ref q9, .ref q10, .ref q11, .int 0, .ref q12, .ref q13, .ref q14, .ref q15, .ref q16, .ref q17, .int 0, .ref q18, .int 0, .ref q19, .ref q20, .ref q21, .ref q22, .ref q23, .int 0, .ref q24, .ref q25, .ref q26, .ref q27, .null, .null, .null, .null, .null, .null, .null, .null, .int 0, .int 0, .int 0, .null, .null, .null, .null, .null, .null, .int 0]
noncomputable def G9_54 (tc : Nat → ClassId) (h0 q1 q2 q3 q4 q5 q6 q7 q8 q9 q10 q11 q12 q13 q14 q15 q16 q17 q18 q19 q20 q21 q22 q23 q24 q25 q26 q27 : Nat) : va_W := [(h0, .inr (9, F9_27 q1 q2 q3 q4 q5 q6 q7 q8 q9 q10 q11 q12 q13 q14 q15 q16 q17 q18 q19 q20 q21 q22 q23 q24 q25 q26 q27)), (q1, .inl (tc 2, (16 : Int).toNat, .inl (fun _ => 0))), (q2, .inl (tc 0, (8 : Int).toNat, .inl (fun _ => 0))), (q3, .inl (tc 0, (40 : Int).toNat, .inl (fun _ => 0))), (q4, .inl (tc 0, (40 : Int).toNat, .inl (fun _ => 0))), (q5, .inl (tc 1, (40 : Int).toNat, .inr (.inl (fun _ => 0)))), (q6, .inl (tc 2, (40 : Int).toNat, .inl (fun _ => 0))), (q7, .inl (tc 0, (8 : Int).toNat, .inl (fun _ => 0))), (q8, .inl (tc 0, (32 : Int).toNat, .inl (fun _ => 0))), (q9, .inl (tc 0, (32 : Int).toNat, .inl (fun _ => 0))), (q10, .inl (tc 0, (32 : Int).toNat, .inl (fun _ => 0))), (q11, .inl (tc 1, (32 : Int).toNat, .inr (.inl (fun _ => 0)))), (q12, .inl (tc 0, (30 : Int).toNat, .inl (fun _ => 0))), (q13, .inl (tc 1, (150 : Int).toNat, .inr (.inl (fun _ => 0)))), (q14, .inl (tc 0, (400 : Int).toNat, .inl (fun _ => 0))), (q15, .inl (tc 0, (400 : Int).toNat, .inl (fun _ => 0))), (q16, .inl (tc 1, (4800 : Int).toNat, .inr (.inl (fun _ => 0)))), (q17, .inl (tc 2, (400 : Int).toNat, .inl (fun _ => 0))), (q18, .inl (tc 0, (4 : Int).toNat, .inl (fun _ => 0))), (q19, .inl (tc 0, (80 : Int).toNat, .inl (fun _ => 0))), (q20, .inl (tc 0, (80 : Int).toNat, .inl (fun _ => 0))), (q21, .inl (tc 0, (80 : Int).toNat, .inl (fun _ => 0))), (q22, .inl (tc 0, (80 : Int).toNat, .inl (fun _ => 0))), (q23, .inl (tc 1, (80 : Int).toNat, .inr (.inl (fun _ => 0)))), (q24, .inl (tc 0, (5 : Int).toNat, .inl (fun _ => 0))), (q25, .inl (tc 0, (150 : Int).toNat, .inl (fun _ => 0))), (q26, .inl (tc 0, (150 : Int).toNat, .inl (fun _ => 0))), (q27, .inl (tc 0, (750 : Int).toNat, .inl (fun _ => 0)))]
noncomputable def G9_55 (tc : Nat → ClassId) (h0 q1 q2 q3 q4 q5 q6 q7 q8 q9 q10 q11 q12 q13 q14 q15 q16 q17 q18 q19 q20 q21 q22 q23 q24 q25 q26 q27 q28 : Nat) : va_W := [(h0, .inr (9, F9_27 q1 q2 q3 q4 q5 q6 q7 q8 q9 q10 q11 q12 q13 q14 q15 q16 q17 q18 q19 q20 q21 q22 q23 q24 q25 q26 q27)), (q1, .inl (tc 2, (16 : Int).toNat, .inl (fun _ => 0))), (q2, .inl (tc 0, (8 : Int).toNat, .inl (fun _ => 0))), (q3, .inl (tc 0, (40 : Int).toNat, .inl (fun _ => 0))), (q4, .inl (tc 0, (40 : Int).toNat, .inl (fun _ => 0))), (q5, .inl (tc 1, (40 : Int).toNat, .inr (.inl (fun _ => 0)))), (q6, .inl (tc 2, (40 : Int).toNat, .inl (fun _ => 0))), (q7, .inl (tc 0, (8 : Int).toNat, .inl (fun _ => 0))), (q8, .inl (tc 0, (32 : Int).toNat, .inl (fun _ => 0))), (q9, .inl (tc 0, (32 : Int).toNat, .inl (fun _ => 0))), (q10, .inl (tc 0, (32 : Int).toNat, .inl (fun _ => 0))), (q11, .inl (tc 1, (32 : Int).toNat, .inr (.inl (fun _ => 0)))), (q12, .inl (tc 0, (30 : Int).toNat, .inl (fun _ => 0))), (q13, .inl (tc 1, (150 : Int).toNat, .inr (.inl (fun _ => 0)))), (q14, .inl (tc 0, (400 : Int).toNat, .inl (fun _ => 0))), (q15, .inl (tc 0, (400 : Int).toNat, .inl (fun _ => 0))), (q16, .inl (tc 1, (4800 : Int).toNat, .inr (.inl (fun _ => 0)))), (q17, .inl (tc 2, (400 : Int).toNat, .inl (fun _ => 0))), (q18, .inl (tc 0, (4 : Int).toNat, .inl (fun _ => 0))), (q19, .inl (tc 0, (80 : Int).toNat, .inl (fun _ => 0))), (q20, .inl (tc 0, (80 : Int).toNat, .inl (fun _ => 0))), (q21, .inl (tc 0, (80 : Int).toNat, .inl (fun _ => 0))), (q22, .inl (tc 0, (80 : Int).toNat, .inl (fun _ => 0))), (q23, .inl (tc 1, (80 : Int).toNat, .inr (.inl (fun _ => 0)))), (q24, .inl (tc 0, (5 : Int).toNat, .inl (fun _ => 0))), (q25, .inl (tc 0, (150 : Int).toNat, .inl (fun _ => 0))), (q26, .inl (tc 0, (150 : Int).toNat, .inl (fun _ => 0))), (q27, .inl (tc 0, (750 : Int).toNat, .inl (fun _ => 0))), (q28, .inl (tc 0, (750 : Int).toNat, .inl (fun _ => 0)))]
noncomputable def F9_28 (q1 q2 q3 q4 q5 q6 q7 q8 q9 q10 q11 q12 q13 q14 q15 q16 q17 q18 q19 q20 q21 q22 q23 q24 q25 q26 q27 q28 : Nat) : List Value := [.int 0, .ref q1, .int 0, .ref q2, .ref q3, .ref q4, .ref q5, .ref q6, .ref q7, .ref q8, .ref q9, .ref q10, .ref q11, .int 0, .ref q12, .ref q13, .ref q14, .ref q15, .ref q16, .ref q17, .int 0, .ref q18, .int 0, .ref q19, .ref q20, .ref q21, .ref q22, .ref q23, .int 0, .ref q24, .ref q25, .ref q26, .ref q27, .ref q28, .null, .null, .null, .null, .null, .null, .null, .int 0, .int 0, .int 0, .null, .null, .null, .null, .null, .null, .int 0]
noncomputable def G9_56 (tc : Nat → ClassId) (h0 q1 q2 q3 q4 q5 q6 q7 q8 q9 q10 q11 q12 q13 q14 q15 q16 q17 q18 q19 q20 q21 q22 q23 q24 q25 q26 q27 q28 : Nat) : va_W := [(h0, .inr (9, F9_28 q1 q2 q3 q4 q5 q6 q7 q8 q9 q10 q11 q12 q13 q14 q15 q16 q17 q18 q19 q20 q21 q22 q23 q24 q25 q26 q27 q28)), (q1, .inl (tc 2, (16 : Int).toNat, .inl (fun _ => 0))), (q2, .inl (tc 0, (8 : Int).toNat, .inl (fun _ => 0))), (q3, .inl (tc 0, (40 : Int).toNat, .inl (fun _ => 0))), (q4, .inl (tc 0, (40 : Int).toNat, .inl (fun _ => 0))), (q5, .inl (tc 1, (40 : Int).toNat, .inr (.inl (fun _ => 0)))), (q6, .inl (tc 2, (40 : Int).toNat, .inl (fun _ => 0))), (q7, .inl (tc 0, (8 : Int).toNat, .inl (fun _ => 0))), (q8, .inl (tc 0, (32 : Int).toNat, .inl (fun _ => 0))), (q9, .inl (tc 0, (32 : Int).toNat, .inl (fun _ => 0))), (q10, .inl (tc 0, (32 : Int).toNat, .inl (fun _ => 0))), (q11, .inl (tc 1, (32 : Int).toNat, .inr (.inl (fun _ => 0)))), (q12, .inl (tc 0, (30 : Int).toNat, .inl (fun _ => 0))), (q13, .inl (tc 1, (150 : Int).toNat, .inr (.inl (fun _ => 0)))), (q14, .inl (tc 0, (400 : Int).toNat, .inl (fun _ => 0))), (q15, .inl (tc 0, (400 : Int).toNat, .inl (fun _ => 0))), (q16, .inl (tc 1, (4800 : Int).toNat, .inr (.inl (fun _ => 0)))), (q17, .inl (tc 2, (400 : Int).toNat, .inl (fun _ => 0))), (q18, .inl (tc 0, (4 : Int).toNat, .inl (fun _ => 0))), (q19, .inl (tc 0, (80 : Int).toNat, .inl (fun _ => 0))), (q20, .inl (tc 0, (80 : Int).toNat, .inl (fun _ => 0))), (q21, .inl (tc 0, (80 : Int).toNat, .inl (fun _ => 0))), (q22, .inl (tc 0, (80 : Int).toNat, .inl (fun _ => 0))), (q23, .inl (tc 1, (80 : Int).toNat, .inr (.inl (fun _ => 0)))), (q24, .inl (tc 0, (5 : Int).toNat, .inl (fun _ => 0))), (q25, .inl (tc 0, (150 : Int).toNat, .inl (fun _ => 0))), (q26, .inl (tc 0, (150 : Int).toNat, .inl (fun _ => 0))), (q27, .inl (tc 0, (750 : Int).toNat, .inl (fun _ => 0))), (q28, .inl (tc 0, (750 : Int).toNat, .inl (fun _ => 0)))]
noncomputable def G9_57 (tc : Nat → ClassId) (h0 q1 q2 q3 q4 q5 q6 q7 q8 q9 q10 q11 q12 q13 q14 q15 q16 q17 q18 q19 q20 q21 q22 q23 q24 q25 q26 q27 q28 q29 : Nat) : va_W := [(h0, .inr (9, F9_28 q1 q2 q3 q4 q5 q6 q7 q8 q9 q10 q11 q12 q13 q14 q15 q16 q17 q18 q19 q20 q21 q22 q23 q24 q25 q26 q27 q28)), (q1, .inl (tc 2, (16 : Int).toNat, .inl (fun _ => 0))), (q2, .inl (tc 0, (8 : Int).toNat, .inl (fun _ => 0))), (q3, .inl (tc 0, (40 : Int).toNat, .inl (fun _ => 0))), (q4, .inl (tc 0, (40 : Int).toNat, .inl (fun _ => 0))), (q5, .inl (tc 1, (40 : Int).toNat, .inr (.inl (fun _ => 0)))), (q6, .inl (tc 2, (40 : Int).toNat, .inl (fun _ => 0))), (q7, .inl (tc 0, (8 : Int).toNat, .inl (fun _ => 0))), (q8, .inl (tc 0, (32 : Int).toNat, .inl (fun _ => 0))), (q9, .inl (tc 0, (32 : Int).toNat, .inl (fun _ => 0))), (q10, .inl (tc 0, (32 : Int).toNat, .inl (fun _ => 0))), (q11, .inl (tc 1, (32 : Int).toNat, .inr (.inl (fun _ => 0)))), (q12, .inl (tc 0, (30 : Int).toNat, .inl (fun _ => 0))), (q13, .inl (tc 1, (150 : Int).toNat, .inr (.inl (fun _ => 0)))), (q14, .inl (tc 0, (400 : Int).toNat, .inl (fun _ => 0))), (q15, .inl (tc 0, (400 : Int).toNat, .inl (fun _ => 0))), (q16, .inl (tc 1, (4800 : Int).toNat, .inr (.inl (fun _ => 0)))), (q17, .inl (tc 2, (400 : Int).toNat, .inl (fun _ => 0))), (q18, .inl (tc 0, (4 : Int).toNat, .inl (fun _ => 0))), (q19, .inl (tc 0, (80 : Int).toNat, .inl (fun _ => 0))), (q20, .inl (tc 0, (80 : Int).toNat, .inl (fun _ => 0))), (q21, .inl (tc 0, (80 : Int).toNat, .inl (fun _ => 0))), (q22, .inl (tc 0, (80 : Int).toNat, .inl (fun _ => 0))), (q23, .inl (tc 1, (80 : Int).toNat, .inr (.inl (fun _ => 0)))), (q24, .inl (tc 0, (5 : Int).toNat, .inl (fun _ => 0))), (q25, .inl (tc 0, (150 : Int).toNat, .inl (fun _ => 0))), (q26, .inl (tc 0, (150 : Int).toNat, .inl (fun _ => 0))), (q27, .inl (tc 0, (750 : Int).toNat, .inl (fun _ => 0))), (q28, .inl (tc 0, (750 : Int).toNat, .inl (fun _ => 0))), (q29, .inl (tc 1, (750 : Int).toNat, .inr (.inl (fun _ => 0))))]
noncomputable def F9_29 (q1 q2 q3 q4 q5 q6 q7 q8 q9 q10 q11 q12 q13 q14 q15 q16 q17 q18 q19 q20 q21 q22 q23 q24 q25 q26 q27 q28 q29 : Nat) : List Value := [.int 0, .ref q1, .int 0, .ref q2, .ref q3, .ref q4, .ref q5, .ref q6, .ref q7, .ref q8, .ref q9, .ref q10, .ref q11, .int 0, .ref q12, .ref q13, .ref q14, .ref q15, .ref q16, .ref q17, .int 0, .ref q18, .int 0, .ref q19, .ref q20, .ref q21, .ref q22, .ref q23, .int 0, .ref q24, .ref q25, .ref q26, .ref q27, .ref q28, .ref q29, .null, .null, .null, .null, .null, .null, .int 0, .int 0, .int 0, .null, .null, .null, .null, .null, .null, .int 0]
noncomputable def G9_58 (tc : Nat → ClassId) (h0 q1 q2 q3 q4 q5 q6 q7 q8 q9 q10 q11 q12 q13 q14 q15 q16 q17 q18 q19 q20 q21 q22 q23 q24 q25 q26 q27 q28 q29 : Nat) : va_W := [(h0, .inr (9, F9_29 q1 q2 q3 q4 q5 q6 q7 q8 q9 q10 q11 q12 q13 q14 q15 q16 q17 q18 q19 q20 q21 q22 q23 q24 q25 q26 q27 q28 q29)), (q1, .inl (tc 2, (16 : Int).toNat, .inl (fun _ => 0))), (q2, .inl (tc 0, (8 : Int).toNat, .inl (fun _ => 0))), (q3, .inl (tc 0, (40 : Int).toNat, .inl (fun _ => 0))), (q4, .inl (tc 0, (40 : Int).toNat, .inl (fun _ => 0))), (q5, .inl (tc 1, (40 : Int).toNat, .inr (.inl (fun _ => 0)))), (q6, .inl (tc 2, (40 : Int).toNat, .inl (fun _ => 0))), (q7, .inl (tc 0, (8 : Int).toNat, .inl (fun _ => 0))), (q8, .inl (tc 0, (32 : Int).toNat, .inl (fun _ => 0))), (q9, .inl (tc 0, (32 : Int).toNat, .inl (fun _ => 0))), (q10, .inl (tc 0, (32 : Int).toNat, .inl (fun _ => 0))), (q11, .inl (tc 1, (32 : Int).toNat, .inr (.inl (fun _ => 0)))), (q12, .inl (tc 0, (30 : Int).toNat, .inl (fun _ => 0))), (q13, .inl (tc 1, (150 : Int).toNat, .inr (.inl (fun _ => 0)))), (q14, .inl (tc 0, (400 : Int).toNat, .inl (fun _ => 0))), (q15, .inl (tc 0, (400 : Int).toNat, .inl (fun _ => 0))), (q16, .inl (tc 1, (4800 : Int).toNat, .inr (.inl (fun _ => 0)))), (q17, .inl (tc 2, (400 : Int).toNat, .inl (fun _ => 0))), (q18, .inl (tc 0, (4 : Int).toNat, .inl (fun _ => 0))), (q19, .inl (tc 0, (80 : Int).toNat, .inl (fun _ => 0))), (q20, .inl (tc 0, (80 : Int).toNat, .inl (fun _ => 0))), (q21, .inl (tc 0, (80 : Int).toNat, .inl (fun _ => 0))), (q22, .inl (tc 0, (80 : Int).toNat, .inl (fun _ => 0))), (q23, .inl (tc 1, (80 : Int).toNat, .inr (.inl (fun _ => 0)))), (q24, .inl (tc 0, (5 : Int).toNat, .inl (fun _ => 0))), (q25, .inl (tc 0, (150 : Int).toNat, .inl (fun _ => 0))), (q26, .inl (tc 0, (150 : Int).toNat, .inl (fun _ => 0))), (q27, .inl (tc 0, (750 : Int).toNat, .inl (fun _ => 0))), (q28, .inl (tc 0, (750 : Int).toNat, .inl (fun _ => 0))), (q29, .inl (tc 1, (750 : Int).toNat, .inr (.inl (fun _ => 0))))]
noncomputable def G9_59 (tc : Nat → ClassId) (h0 q1 q2 q3 q4 q5 q6 q7 q8 q9 q10 q11 q12 q13 q14 q15 q16 q17 q18 q19 q20 q21 q22 q23 q24 q25 q26 q27 q28 q29 q30 : Nat) : va_W := [(h0, .inr (9, F9_29 q1 q2 q3 q4 q5 q6 q7 q8 q9 q10 q11 q12 q13 q14 q15 q16 q17 q18 q19 q20 q21 q22 q23 q24 q25 q26 q27 q28 q29)), (q1, .inl (tc 2, (16 : Int).toNat, .inl (fun _ => 0))), (q2, .inl (tc 0, (8 : Int).toNat, .inl (fun _ => 0))), (q3, .inl (tc 0, (40 : Int).toNat, .inl (fun _ => 0))), (q4, .inl (tc 0, (40 : Int).toNat, .inl (fun _ => 0))), (q5, .inl (tc 1, (40 : Int).toNat, .inr (.inl (fun _ => 0)))), (q6, .inl (tc 2, (40 : Int).toNat, .inl (fun _ => 0))), (q7, .inl (tc 0, (8 : Int).toNat, .inl (fun _ => 0))), (q8, .inl (tc 0, (32 : Int).toNat, .inl (fun _ => 0))), (q9, .inl (tc 0, (32 : Int).toNat, .inl (fun _ => 0))), (q10, .inl (tc 0, (32 : Int).toNat, .inl (fun _ => 0))), (q11, .inl (tc 1, (32 : Int).toNat, .inr (.inl (fun _ => 0)))), (q12, .inl (tc 0, (30 : Int).toNat, .inl (fun _ => 0))), (q13, .inl (tc 1, (150 : Int).toNat, .inr (.inl (fun _ => 0)))), (q14, .inl (tc 0, (400 : Int).toNat, .inl (fun _ => 0))), (q15, .inl (tc 0, (400 : Int).toNat, .inl (fun _ => 0))), (q16, .inl (tc 1, (4800 : Int).toNat, .inr (.inl (fun _ => 0)))), (q17, .inl (tc 2, (400 : Int).toNat, .inl (fun _ => 0))), (q18, .inl (tc 0, (4 : Int).toNat, .inl (fun _ => 0))), (q19, .inl (tc 0, (80 : Int).toNat, .inl (fun _ => 0))), (q20, .inl (tc 0, (80 : Int).toNat, .inl (fun _ => 0))), (q21, .inl (tc 0, (80 : Int).toNat, .inl (fun _ => 0))), (q22, .inl (tc 0, (80 : Int).toNat, .inl (fun _ => 0))), (q23, .inl (tc 1, (80 : Int).toNat, .inr (.inl (fun _ => 0)))), (q24, .inl (tc 0, (5 : Int).toNat, .inl (fun _ => 0))), (q25, .inl (tc 0, (150 : Int).toNat, .inl (fun _ => 0))), (q26, .inl (tc 0, (150 : Int).toNat, .inl (fun _ => 0))), (q27, .inl (tc 0, (750 : Int).toNat, .inl (fun _ => 0))), (q28, .inl (tc 0, (750 : Int).toNat, .inl (fun _ => 0))), (q29, .inl (tc 1, (750 : Int).toNat, .inr (.inl (fun _ => 0)))), (q30, .inl (tc 0, (5 : Int).toNat, .inl (fun _ => 0)))]
noncomputable def F9_30 (q1 q2 q3 q4 q5 q6 q7 q8 q9 q10 q11 q12 q13 q14 q15 q16 q17 q18 q19 q20 q21 q22 q23 q24 q25 q26 q27 q28 q29 q30 : Nat) : List Value := [.int 0, .ref q1, .int 0, .ref q2, .ref q3, .ref q4, .ref q5, .ref q6, .ref q7, .ref q8, .ref q9, .ref q10, .ref q11, .int 0, .ref q12, .ref q13, .ref q14, .ref q15, .ref q16, .ref q17, .int 0, .ref q18, .int 0, .ref q19, .ref q20, .ref q21, .ref q22, .ref q23, .int 0, .ref q24, .ref q25, .ref q26, .ref q27, .ref q28, .ref q29, .ref q30, .null, .null, .null, .null, .null, .int 0, .int 0, .int 0, .null, .null, .null, .null, .null, .null, .int 0]
noncomputable def G9_60 (tc : Nat → ClassId) (h0 q1 q2 q3 q4 q5 q6 q7 q8 q9 q10 q11 q12 q13 q14 q15 q16 q17 q18 q19 q20 q21 q22 q23 q24 q25 q26 q27 q28 q29 q30 : Nat) : va_W := [(h0, .inr (9, F9_30 q1 q2 q3 q4 q5 q6 q7 q8 q9 q10 q11 q12 q13 q14 q15 q16 q17 q18 q19 q20 q21 q22 q23 q24 q25 q26 q27 q28 q29 q30)), (q1, .inl (tc 2, (16 : Int).toNat, .inl (fun _ => 0))), (q2, .inl (tc 0, (8 : Int).toNat, .inl (fun _ => 0))), (q3, .inl (tc 0, (40 : Int).toNat, .inl (fun _ => 0))), (q4, .inl (tc 0, (40 : Int).toNat, .inl (fun _ => 0))), (q5, .inl (tc 1, (40 : Int).toNat, .inr (.inl (fun _ => 0)))), (q6, .inl (tc 2, (40 : Int).toNat, .inl (fun _ => 0))), (q7, .inl (tc 0, (8 : Int).toNat, .inl (fun _ => 0))), (q8, .inl (tc 0, (32 : Int).toNat, .inl (fun _ => 0))), (q9, .inl (tc 0, (32 : Int).toNat, .inl (fun _ => 0))), (q10, .inl (tc 0, (32 : Int).toNat, .inl (fun _ => 0))), (q11, .inl (tc 1, (32 : Int).toNat, .inr (.inl (fun _ => 0)))), (q12, .inl (tc 0, (30 : Int).toNat, .inl (fun _ => 0))), (q13, .inl (tc 1, (150 : Int).toNat, .inr (.inl (fun _ => 0)))), (q14, .inl (tc 0, (400 : Int).toNat, .inl (fun _ => 0))), (q15, .inl (tc 0, (400 : Int).toNat, .inl (fun _ => 0))), (q16, .inl (tc 1, (4800 : Int).toNat, .inr (.inl (fun _ => 0)))), (q17, .inl (tc 2, (400 : Int).toNat, .inl (fun _ => 0))), (q18, .inl (tc 0, (4 : Int).toNat, .inl (fun _ => 0))), (q19, .inl (tc 0, (80 : Int).toNat, .inl (fun _ => 0))), (q20, .inl (tc 0, (80 : Int).toNat, .inl (fun _ => 0))), (q21, .inl (tc 0, (80 : Int).toNat, .inl (fun _ => 0))), (q22, .inl (tc 0, (80 : Int).toNat, .inl (fun _ => 0))), (q23, .inl (tc 1, (80 : Int).toNat, .inr (.inl (fun _ => 0)))), (q24, .inl (tc 0, (5 : Int).toNat, .inl (fun _ => 0))), (q25, .inl (tc 0, (150 : Int).toNat, .inl (fun _ => 0))), (q26, .inl (tc 0, (150 : Int).toNat, .inl (fun _ => 0))), (q27, .inl (tc 0, (750 : Int).toNat, .inl (fun _ => 0))), (q28, .inl (tc 0, (750 : Int).toNat, .inl (fun _ => 0))), (q29, .inl (tc 1, (750 : Int).toNat, .inr (.inl (fun _ => 0)))), (q30, .inl (tc 0, (5 : Int).toNat, .inl (fun _ => 0)))]
noncomputable def G9_61 (tc : Nat → ClassId) (h0 q1 q2 q3 q4 q5 q6 q7 q8 q9 q10 q11 q12 q13 q14 q15 q16 q17 q18 q19 q20 q21 q22 q23 q24 q25 q26 q27 q28 q29 q30 q31 : Nat) : va_W := [(h0, .inr (9, F9_30 q1 q2 q3 q4 q5 q6 q7 q8 q9 q10 q11 q12 q13 q14 q15 q16 q17 q18 q19 q20 q21 q22 q23 q24 q25 q26 q27 q28 q29 q30)), (q1, .inl (tc 2, (16 : Int).toNat, .inl (fun _ => 0))), (q2, .inl (tc 0, (8 : Int).toNat, .inl (fun _ => 0))), (q3, .inl (tc 0, (40 : Int).toNat, .inl (fun _ => 0))), (q4, .inl (tc 0, (40 : Int).toNat, .inl (fun _ => 0))), (q5, .inl (tc 1, (40 : Int).toNat, .inr (.inl (fun _ => 0)))), (q6, .inl (tc 2, (40 : Int).toNat, .inl (fun _ => 0))), (q7, .inl (tc 0, (8 : Int).toNat, .inl (fun _ => 0))), (q8, .inl (tc 0, (32 : Int).toNat, .inl (fun _ => 0))), (q9, .inl (tc 0, (32 : Int).toNat, .inl (fun _ => 0))), (q10, .inl (tc 0, (32 : Int).toNat, .inl (fun _ => 0))), (q11, .inl (tc 1, (32 : Int).toNat, .inr (.inl (fun _ => 0)))), (q12, .inl (tc 0, (30 : Int).toNat, .inl (fun _ => 0))), (q13, .inl (tc 1, (150 : Int).toNat, .inr (.inl (fun _ => 0)))), (q14, .inl (tc 0, (400 : Int).toNat, .inl (fun _ => 0))), (q15, .inl (tc 0, (400 : Int).toNat, .inl (fun _ => 0))), (q16, .inl (tc 1, (4800 : Int).toNat, .inr (.inl (fun _ => 0)))), (q17, .inl (tc 2, (400 : Int).toNat, .inl (fun _ => 0))), (q18, .inl (tc 0, (4 : Int).toNat, .inl (fun _ => 0))), (q19, .inl (tc 0, (80 : Int).toNat, .inl (fun _ => 0))), (q20, .inl (tc 0, (80 : Int).toNat, .inl (fun _ => 0))), (q21, .inl (tc 0, (80 : Int).toNat, .inl (fun _ => 0))), (q22, .inl (tc 0, (80 : Int).toNat, .inl (fun _ => 0))), (q23, .inl (tc 1, (80 : Int).toNat, .inr (.inl (fun _ => 0)))), (q24, .inl (tc 0, (5 : Int).toNat, .inl (fun _ => 0))), (q25, .inl (tc 0, (150 : Int).toNat, .inl (fun _ => 0))), (q26, .inl (tc 0, (150 : Int).toNat, .inl (fun _ => 0))), (q27, .inl (tc 0, (750 : Int).toNat, .inl (fun _ => 0))), (q28, .inl (tc 0, (750 : Int).toNat, .inl (fun _ => 0))), (q29, .inl (tc 1, (750 : Int).toNat, .inr (.inl (fun _ => 0)))), (q30, .inl (tc 0, (5 : Int).toNat, .inl (fun _ => 0))), (q31, .inl (tc 0, (750 : Int).toNat, .inl (fun _ => 0)))]
noncomputable def F9_31 (q1 q2 q3 q4 q5 q6 q7 q8 q9 q10 q11 q12 q13 q14 q15 q16 q17 q18 q19 q20 q21 q22 q23 q24 q25 q26 q27 q28 q29 q30 q31 : Nat) : List Value := [.int 0, .ref q1, .int 0, .ref q2, .ref q3, .ref q4, .ref q5, .ref q6, .ref q7, .ref q8, .ref q9, .ref q10, .ref q11, .int 0, .ref q12, .ref q13, .ref q14, .ref q15, .ref q16, .ref q17, .int 0, .ref q18, .int 0, .ref q19, .ref q20, .ref q21, .ref q22, .ref q23, .int 0, .ref q24, .ref q25, .ref q26, .ref q27, .ref q28, .ref q29, .ref q30, .ref q31, .null, .null, .null, .null, .int 0, .int 0, .int 0, .null, .null, .null, .null, .null, .null, .int 0]
noncomputable def G9_62 (tc : Nat → ClassId) (h0 q1 q2 q3 q4 q5 q6 q7 q8 q9 q10 q11 q12 q13 q14 q15 q16 q17 q18 q19 q20 q21 q22 q23 q24 q25 q26 q27 q28 q29 q30 q31 : Nat) : va_W := [(h0, .inr (9, F9_31 q1 q2 q3 q4 q5 q6 q7 q8 q9 q10 q11 q12 q13 q14 q15 q16 q17 q18 q19 q20 q21 q22 q23 q24 q25 q26 q27 q28 q29 q30 q31)), (q1, .inl (tc 2, (16 : Int).toNat, .inl (fun _ => 0))), (q2, .inl (tc 0, (8 : Int).toNat, .inl (fun _ => 0))), (q3, .inl (tc 0, (40 : Int).toNat, .inl (fun _ => 0))), (q4, .inl (tc 0, (40 : Int).toNat, .inl (fun _ => 0))), (q5, .inl (tc 1, (40 : Int).toNat, .inr (.inl (fun _ => 0)))), (q6, .inl (tc 2, (40 : Int).toNat, .inl (fun _ => 0))), (q7, .inl (tc 0, (8 : Int).toNat, .inl (fun _ => 0))), (q8, .inl (tc 0, (32 : Int).toNat, .inl (fun _ => 0))), (q9, .inl (tc 0, (32 : Int).toNat, .inl (fun _ => 0))), (q10, .inl (tc 0, (32 : Int).toNat, .inl (fun _ => 0))), (q11, .inl (tc 1, (32 : Int).toNat, .inr (.inl (fun _ => 0)))), (q12, .inl (tc 0, (30 : Int).toNat, .inl (fun _ => 0))), (q13, .inl (tc 1, (150 : Int).toNat, .inr (.inl (fun _ => 0)))), (q14, .inl (tc 0, (400 : Int).toNat, .inl (fun _ => 0))), (q15, .inl (tc 0, (400 : Int).toNat, .inl (fun _ => 0))), (q16, .inl (tc 1, (4800 : Int).toNat, .inr (.inl (fun _ => 0)))), (q17, .inl (tc 2, (400 : Int).toNat, .inl (fun _ => 0))), (q18, .inl (tc 0, (4 : Int).toNat, .inl (fun _ => 0))), (q19, .inl (tc 0, (80 : Int).toNat, .inl (fun _ => 0))), (q20, .inl (tc 0, (80 : Int).toNat, .inl (fun _ => 0))), (q21, .inl (tc 0, (80 : Int).toNat, .inl (fun _ => 0))), (q22, .inl (tc 0, (80 : Int).toNat, .inl (fun _ => 0))), (q23, .inl (tc 1, (80 : Int).toNat, .inr (.inl (fun _ => 0)))), (q24, .inl (tc 0, (5 : Int).toNat, .inl (fun _ => 0))), (q25, .inl (tc 0, (150 : Int).toNat, .inl (fun _ => 0))), (q26, .inl (tc 0, (150 : Int).toNat, .inl (fun _ => 0))), (q27, .inl (tc 0, (750 : Int).toNat, .inl (fun _ => 0))), (q28, .inl (tc 0, (750 : Int).toNat, .inl (fun _ => 0))), (q29, .inl (tc 1, (750 : Int).toNat, .inr (.inl (fun _ => 0)))), (q30, .inl (tc 0, (5 : Int).toNat, .inl (fun _ => 0))), (q31, .inl (tc 0, (750 : Int).toNat, .inl (fun _ => 0)))]
noncomputable def G9_63 (tc : Nat → ClassId) (h0 q1 q2 q3 q4 q5 q6 q7 q8 q9 q10 q11 q12 q13 q14 q15 q16 q17 q18 q19 q20 q21 q22 q23 q24 q25 q26 q27 q28 q29 q30 q31 q32 : Nat) : va_W := [(h0, .inr (9, F9_31 q1 q2 q3 q4 q5 q6 q7 q8 q9 q10 q11 q12 q13 q14 q15 q16 q17 q18 q19 q20 q21 q22 q23 q24 q25 q26 q27 q28 q29 q30 q31)), (q1, .inl (tc 2, (16 : Int).toNat, .inl (fun _ => 0))), (q2, .inl (tc 0, (8 : Int).toNat, .inl (fun _ => 0))), (q3, .inl (tc 0, (40 : Int).toNat, .inl (fun _ => 0))), (q4, .inl (tc 0, (40 : Int).toNat, .inl (fun _ => 0))), (q5, .inl (tc 1, (40 : Int).toNat, .inr (.inl (fun _ => 0)))), (q6, .inl (tc 2, (40 : Int).toNat, .inl (fun _ => 0))), (q7, .inl (tc 0, (8 : Int).toNat, .inl (fun _ => 0))), (q8, .inl (tc 0, (32 : Int).toNat, .inl (fun _ => 0))), (q9, .inl (tc 0, (32 : Int).toNat, .inl (fun _ => 0))), (q10, .inl (tc 0, (32 : Int).toNat, .inl (fun _ => 0))), (q11, .inl (tc 1, (32 : Int).toNat, .inr (.inl (fun _ => 0)))), (q12, .inl (tc 0, (30 : Int).toNat, .inl (fun _ => 0))), (q13, .inl (tc 1, (150 : Int).toNat, .inr (.inl (fun _ => 0)))), (q14, .inl (tc 0, (400 : Int).toNat, .inl (fun _ => 0))), (q15, .inl (tc 0, (400 : Int).toNat, .inl (fun _ => 0))), (q16, .inl (tc 1, (4800 : Int).toNat, .inr (.inl (fun _ => 0)))), (q17, .inl (tc 2, (400 : Int).toNat, .inl (fun _ => 0))), (q18, .inl (tc 0, (4 : Int).toNat, .inl (fun _ => 0))), (q19, .inl (tc 0, (80 : Int).toNat, .inl (fun _ => 0))), (q20, .inl (tc 0, (80 : Int).toNat, .inl (fun _ => 0))), (q21, .inl (tc 0, (80 : Int).toNat, .inl (fun _ => 0))), (q22, .inl (tc 0, (80 : Int).toNat, .inl (fun _ => 0))), (q23, .inl (tc 1, (80 : Int).toNat, .inr (.inl (fun _ => 0)))), (q24, .inl (tc 0, (5 : Int).toNat, .inl (fun _ => 0))), (q25, .inl (tc 0, (150 : Int).toNat, .inl (fun _ => 0))), (q26, .inl (tc 0, (150 : Int).toNat, .inl (fun _ => 0))), (q27, .inl (tc 0, (750 : Int).toNat, .inl (fun _ => 0))), (q28, .inl (tc 0, (750 : Int).toNat, .inl (fun _ => 0))), (q29, .inl (tc 1, (750 : Int).toNat, .inr (.inl (fun _ => 0)))), (q30, .inl (tc 0, (5 : Int).toNat, .inl (fun _ => 0))), (q31, .inl (tc 0, (750 : Int).toNat, .inl (fun _ => 0))), (q32, .inl (tc 0, (750 : Int).toNat, .inl (fun _ => 0)))]
noncomputable def F9_32 (q1 q2 q3 q4 q5 q6 q7 q8 q9 q10 q11 q12 q13 q14 q15 q16 q17 q18 q19 q20 q21 q22 q23 q24 q25 q26 q27 q28 q29 q30 q31 q32 : Nat) : List Value := [.int 0, .ref q1, .int 0, .ref q2, .ref q3, .ref q4, .ref q5, .ref q6, .ref q7, .ref q8, .ref q9, .ref q10, .ref q11, .int 0, .ref q12, .ref q13, .ref q14, .ref q15, .ref q16, .ref q17, .int 0, .ref q18, .int 0, .ref q19, .ref q20, .ref q21, .ref q22, .ref q23, .int 0, .ref q24, .ref q25, .ref q26, .ref q27, .ref q28, .ref q29, .ref q30, .ref q31, .ref q32, .null, .null, .null, .int 0, .int 0, .int 0, .null, .null, .null, .null, .null, .null, .int 0]
noncomputable def G9_64 (tc : Nat → ClassId) (h0 q1 q2 q3 q4 q5 q6 q7 q8 q9 q10 q11 q12 q13 q14 q15 q16 q17 q18 q19 q20 q21 q22 q23 q24 q25 q26 q27 q28 q29 q30 q31 q32 : Nat) : va_W := [(h0, .inr (9, F9_32 q1 q2 q3 q4 q5 q6 q7 q8 q9 q10 q11 q12 q13 q14 q15 q16 q17 q18 q19 q20 q21 q22 q23 q24 q25 q26 q27 q28 q29 q30 q31 q32)), (q1, .inl (tc 2, (16 : Int).toNat, .inl (fun _ => 0))), (q2, .inl (tc 0, (8 : Int).toNat, .inl (fun _ => 0))), (q3, .inl (tc 0, (40 : Int).toNat, .inl (fun _ => 0))), (q4, .inl (tc 0, (40 : Int).toNat, .inl (fun _ => 0))), (q5, .inl (tc 1, (40 : Int).toNat, .inr (.inl (fun _ => 0)))), (q6, .inl (tc 2, (40 : Int).toNat, .inl (fun _ => 0))), (q7, .inl (tc 0, (8 : Int).toNat, .inl (fun _ => 0))), (q8, .inl (tc 0, (32 : Int).toNat, .inl (fun _ => 0))), (q9, .inl (tc 0, (32 : Int).toNat, .inl (fun _ => 0))), (q10, .inl (tc 0, (32 : Int).toNat, .inl (fun _ => 0))), (q11, .inl (tc 1, (32 : Int).toNat, .inr (.inl (fun _ => 0)))), (q12, .inl (tc 0, (30 : Int).toNat, .inl (fun _ => 0))), (q13, .inl (tc 1, (150 : Int).toNat, .inr (.inl (fun _ => 0)))), (q14, .inl (tc 0, (400 : Int).toNat, .inl (fun _ => 0))), (q15, .inl (tc 0, (400 : Int).toNat, .inl (fun _ => 0))), (q16, .inl (tc 1, (4800 : Int).toNat, .inr (.inl (fun _ => 0)))), (q17, .inl (tc 2, (400 : Int).toNat, .inl (fun _ => 0))), (q18, .inl (tc 0, (4 : Int).toNat, .inl (fun _ => 0))), (q19, .inl (tc 0, (80 : Int).toNat, .inl (fun _ => 0))), (q20, .inl (tc 0, (80 : Int).toNat, .inl (fun _ => 0))), (q21, .inl (tc 0, (80 : Int).toNat, .inl (fun _ => 0))), (q22, .inl (tc 0, (80 : Int).toNat, .inl (fun _ => 0))), (q23, .inl (tc 1, (80 : Int).toNat, .inr (.inl (fun _ => 0)))), (q24, .inl (tc 0, (5 : Int).toNat, .inl (fun _ => 0))), (q25, .inl (tc 0, (150 : Int).toNat, .inl (fun _ => 0))), (q26, .inl (tc 0, (150 : Int).toNat, .inl (fun _ => 0))), (q27, .inl (tc 0, (750 : Int).toNat, .inl (fun _ => 0))), (q28, .inl (tc 0, (750 : Int).toNat, .inl (fun _ => 0))), (q29, .inl (tc 1, (750 : Int).toNat, .inr (.inl (fun _ => 0)))), (q30, .inl (tc 0, (5 : Int).toNat, .inl (fun _ => 0))), (q31, .inl (tc 0, (750 : Int).toNat, .inl (fun _ => 0))), (q32, .inl (tc 0, (750 : Int).toNat, .inl (fun _ => 0)))]
noncomputable def G9_65 (tc : Nat → ClassId) (h0 q1 q2 q3 q4 q5 q6 q7 q8 q9 q10 q11 q12 q13 q14 q15 q16 q17 q18 q19 q20 q21 q22 q23 q24 q25 q26 q27 q28 q29 q30 q31 q32 q33 : Nat) : va_W := [(h0, .inr (9, F9_32 q1 q2 q3 q4 q5 q6 q7 q8 q9 q10 q11 q12 q13 q14 q15 q16 q17 q18 q19 q20 q21 q22 q23 q24 q25 q26 q27 q28 q29 q30 q31 q32)), (q1, .inl (tc 2, (16 : Int).toNat, .inl (fun _ => 0))), (q2, .inl (tc 0, (8 : Int).toNat, .inl (fun _ => 0))), (q3, .inl (tc 0, (40 : Int).toNat, .inl (fun _ => 0))), (q4, .inl (tc 0, (40 : Int).toNat, .inl (fun _ => 0))), (q5, .inl (tc 1, (40 : Int).toNat, .inr (.inl (fun _ => 0)))), (q6, .inl (tc 2, (40 : Int).toNat, .inl (fun _ => 0))), (q7, .inl (tc 0, (8 : Int).toNat, .inl (fun _ => 0))), (q8, .inl (tc 0, (32 : Int).toNat, .inl (fun _ => 0))), (q9, .inl (tc 0, (32 : Int).toNat, .inl (fun _ => 0))), (q10, .inl (tc 0, (32 : Int).toNat, .inl (fun _ => 0))), (q11, .inl (tc 1, (32 : Int).toNat, .inr (.inl (fun _ => 0)))), (q12, .inl (tc 0, (30 : Int).toNat, .inl (fun _ => 0))), (q13, .inl (tc 1, (150 : Int).toNat, .inr (.inl (fun _ => 0)))), (q14, .inl (tc 0, (400 : Int).toNat, .inl (fun _ => 0))), (q15, .inl (tc 0, (400 : Int).toNat, .inl (fun _ => 0))), (q16, .inl (tc 1, (4800 : Int).toNat, .inr (.inl (fun _ => 0)))), (q17, .inl (tc 2, (400 : Int).toNat, .inl (fun _ => 0))), (q18, .inl (tc 0, (4 : Int).toNat, .inl (fun _ => 0))), (q19, .inl (tc 0, (80 : Int).toNat, .inl (fun _ => 0))), (q20, .inl (tc 0, (80 : Int).toNat, .inl (fun _ => 0))), (q21, .inl (tc 0, (80 : Int).toNat, .inl (fun _ => 0))), (q22, .inl (tc 0, (80 : Int).toNat, .inl (fun _ => 0))), (q23, .inl (tc 1, (80 : Int).toNat, .inr (.inl (fun _ => 0)))), (q24, .inl (tc 0, (5 : Int).toNat, .inl (fun _ => 0))), (q25, .inl (tc 0, (150 : Int).toNat, .inl (fun _ => 0))), (q26, .inl (tc 0, (150 : Int).toNat, .inl (fun _ => 0))), (q27, .inl (tc 0, (750 : Int).toNat, .inl (fun _ => 0))), (q28, .inl (tc 0, (750 : Int).toNat, .inl (fun _ => 0))), (q29, .inl (tc 1, (750 : Int).toNat, .inr (.inl (fun _ => 0)))), (q30, .inl (tc 0, (5 : Int).toNat, .inl (fun _ => 0))), (q31, .inl (tc 0, (750 : Int).toNat, .inl (fun _ => 0))), (q32, .inl (tc 0, (750 : Int).toNat, .inl (fun _ => 0))), (q33, .inl (tc 1, (9000 : Int).toNat, .inr (.inl (fun _ => 0))))]
noncomputable def F9_33 (q1 q2 q3 q4 q5 q6 q7 q8 q9 q10 q11 q12 q13 q14 q15 q16 q17 q18 q19 q20 q21 q22 q23 q24 q25 q26 q27 q28 q29 q30 q31 q32 q33 : Nat) : List Value := [.int 0, .ref q1, .int 0, .ref q2, .ref q3, .ref q4, .ref q5, .ref q6, .ref q7, .ref q8, .ref q9, .ref q10, .ref q11, .int 0, .ref q12, .ref q13, .ref q14, .ref q15, .ref q16, .ref q17, .int 0, .ref q18, .int 0, .ref q19, .ref q20, .ref q21, .ref q22, .ref q23, .int 0, .ref q24, .ref q25, .ref q26, .ref q27, .ref q28, .ref q29, .ref q30, .ref q31, .ref q32, .ref q33, .null, .null, .int 0, .int 0, .int 0, .null, .null, .null, .null, .null, .null, .int 0]
noncomputable def G9_66 (tc : Nat → ClassId) (h0 q1 q2 q3 q4 q5 q6 q7 q8 q9 q10 q11 q12 q13 q14 q15 q16 q17 q18 q19 q20 q21 q22 q23 q24 q25 q26 q27 q28 q29 q30 q31 q32 q33 : Nat) : va_W := [(h0, .inr (9, F9_33 q1 q2 q3 q4 q5 q6 q7 q8 q9 q10 q11 q12 q13 q14 q15 q16 q17 q18 q19 q20 q21 q22 q23 q24 q25 q26 q27 q28 q29 q30 q31 q32 q33)), (q1, .inl (tc 2, (16 : Int).toNat, .inl (fun _ => 0))), (q2, .inl (tc 0, (8 : Int).toNat, .inl (fun _ => 0))), (q3, .inl (tc 0, (40 : Int).toNat, .inl (fun _ => 0))), (q4, .inl (tc 0, (40 : Int).toNat, .inl (fun _ => 0))), (q5, .inl (tc 1, (40 : Int).toNat, .inr (.inl (fun _ => 0)))), (q6, .inl (tc 2, (40 : Int).toNat, .inl (fun _ => 0))), (q7, .inl (tc 0, (8 : Int).toNat, .inl (fun _ => 0))), (q8, .inl (tc 0, (32 : Int).toNat, .inl (fun _ => 0))), (q9, .inl (tc 0, (32 : Int).toNat, .inl (fun _ => 0))), (q10, .inl (tc 0, (32 : Int).toNat, .inl (fun _ => 0))), (q11, .inl (tc 1, (32 : Int).toNat, .inr (.inl (fun _ => 0)))), (q12, .inl (tc 0, (30 : Int).toNat, .inl (fun _ => 0))), (q13, .inl (tc 1, (150 : Int).toNat, .inr (.inl (fun _ => 0)))), (q14, .inl (tc 0, (400 : Int).toNat, .inl (fun _ => 0))), (q15, .inl (tc 0, (400 : Int).toNat, .inl (fun _ => 0))), (q16, .inl (tc 1, (4800 : Int).toNat, .inr (.inl (fun _ => 0)))), (q17, .inl (tc 2, (400 : Int).toNat, .inl (fun _ => 0))), (q18, .inl (tc 0, (4 : Int).toNat, .inl (fun _ => 0))), (q19, .inl (tc 0, (80 : Int).toNat, .inl (fun _ => 0))), (q20, .inl (tc 0, (80 : Int).toNat, .inl (fun _ => 0))), (q21, .inl (tc 0, (80 : Int).toNat, .inl (fun _ => 0))), (q22, .inl (tc 0, (80 : Int).toNat, .inl (fun _ => 0))), (q23, .inl (tc 1, (80 : Int).toNat, .inr (.inl (fun _ => 0)))), (q24, .inl (tc 0, (5 : Int).toNat, .inl (fun _ => 0))), (q25, .inl (tc 0, (150 : Int).toNat, .inl (fun _ => 0))), (q26, .inl (tc 0, (150 : Int).toNat, .inl (fun _ => 0))), (q27, .inl (tc 0, (750 : Int).toNat, .inl (fun _ => 0))), (q28, .inl (tc 0, (750 : Int).toNat, .inl (fun _ => 0))), (q29, .inl (tc 1, (750 : Int).toNat, .inr (.inl (fun _ => 0)))), (q30, .inl (tc 0, (5 : Int).toNat, .inl (fun _ => 0))), (q31, .inl (tc 0, (750 : Int).toNat, .inl (fun _ => 0))), (q32, .inl (tc 0, (750 : Int).toNat, .inl (fun _ => 0))), (q33, .inl (tc 1, (9000 : Int).toNat, .inr (.inl (fun _ => 0))))]
noncomputable def G9_67 (tc : Nat → ClassId) (h0 q1 q2 q3 q4 q5 q6 q7 q8 q9 q10 q11 q12 q13 q14 q15 q16 q17 q18 q19 q20 q21 q22 q23 q24 q25 q26 q27 q28 q29 q30 q31 q32 q33 q34 : Nat) : va_W := [(h0, .inr (9, F9_33 q1 q2 q3 q4 q5 q6 q7 q8 q9 q10 q11 q12 q13 q14 q15 q16 q17 q18 q19 q20 q21 q22 q23 q24 q25 q26 q27 q28 q29 q30 q31 q32 q33)), (q1, .inl (tc 2, (16 : Int).toNat, .inl (fun _ => 0))), (q2, .inl (tc 0, (8 : Int).toNat, .inl (fun _ => 0))), (q3, .inl (tc 0, (40 : Int).toNat, .inl (fun _ => 0))), (q4, .inl (tc 0, (40 : Int).toNat, .inl (fun _ => 0))), (q5, .inl (tc 1, (40 : Int).toNat, .inr (.inl (fun _ => 0)))), (q6, .inl (tc 2, (40 : Int).toNat, .inl (fun _ => 0))), (q7, .inl (tc 0, (8 : Int).toNat, .inl (fun _ => 0))), (q8, .inl (tc 0, (32 : Int).toNat, .inl (fun _ => 0))), (q9, .inl (tc 0, (32 : Int).toNat, .inl (fun _ => 0))), (q10, .inl (tc 0, (32 : Int).toNat, .inl (fun _ => 0))), (q11, .inl (tc 1, (32 : Int).toNat, .inr (.inl (fun _ => 0)))), (q12, .inl (tc 0, (30 : Int).toNat, .inl (fun _ => 0))), (q13, .inl (tc 1, (150 : Int).toNat, .inr (.inl (fun _ => 0)))), (q14, .inl (tc 0, (400 : Int).toNat, .inl (fun _ => 0))), (q15, .inl (tc 0, (400 : Int).toNat, .inl (fun _ => 0))), (q16, .inl (tc 1, (4800 : Int).toNat, .inr (.inl (fun _ => 0)))), (q17, .inl (tc 2, (400 : Int).toNat, .inl (fun _ => 0))), (q18, .inl (tc 0, (4 : Int).toNat, .inl (fun _ => 0))), (q19, .inl (tc 0, (80 : Int).toNat, .inl (fun _ => 0))), (q20, .inl (tc 0, (80 : Int).toNat, .inl (fun _ => 0))), (q21, .inl (tc 0, (80 : Int).toNat, .inl (fun _ => 0))), (q22, .inl (tc 0, (80 : Int).toNat, .inl (fun _ => 0))), (q23, .inl (tc 1, (80 : Int).toNat, .inr (.inl (fun _ => 0)))), (q24, .inl (tc 0, (5 : Int).toNat, .inl (fun _ => 0))), (q25, .inl (tc 0, (150 : Int).toNat, .inl (fun _ => 0))), (q26, .inl (tc 0, (150 : Int).toNat, .inl (fun _ => 0))), (q27, .inl (tc 0, (750 : Int).toNat, .inl (fun _ => 0))), (q28, .inl (tc 0, (750 : Int).toNat, .inl (fun _ => 0))), (q29, .inl (tc 1, (750 : Int).toNat, .inr (.inl (fun _ => 0)))), (q30, .inl (tc 0, (5 : Int).toNat, .inl (fun _ => 0))), (q31, .inl (tc 0, (750 : Int).toNat, .inl (fun _ => 0))), (q32, .inl (tc 0, (750 : Int).toNat, .inl (fun _ => 0))), (q33, .inl (tc 1, (9000 : Int).toNat, .inr (.inl (fun _ => 0)))), (q34, .inl (tc 0, (30 : Int).toNat, .inl (fun _ => 0)))]
noncomputable def F9_34 (q1 q2 q3 q4 q5 q6 q7 q8 q9 q10 q11 q12 q13 q14 q15 q16 q17 q18 q19 q20 q21 q22 q23 q24 q25 q26 q27 q28 q29 q30 q31 q32 q33 q34 : Nat) : List Value := [.int 0, .ref q1, .int 0, .ref q2, .ref q3, .ref q4, .ref q5, .ref q6, .ref q7, .ref q8, .ref q9, .ref q10, .ref q11, .int 0, .ref q12, .ref q13, .ref q14, .ref q15, .ref q16, .ref q17, .int 0, .ref q18, .int 0, .ref q19, .ref q20, .ref q21, .ref q22, .ref q23, .int 0, .ref q24, .ref q25, .ref q26, .ref q27, .ref q28, .ref q29, .ref q30, .ref q31, .ref q32, .ref q33, .ref q34, .null, .int 0, .int 0, .int 0, .null, .null, .null, .null, .null, .null, .int 0]
noncomputable def G9_68 (tc : Nat → ClassId) (h0 q1 q2 q3 q4 q5 q6 q7 q8 q9 q10 q11 q12 q13 q14 q15 q16 q17 q18 q19 q20 q21 q22 q23 q24 q25 q26 q27 q28 q29 q30 q31 q32 q33 q34 : Nat) : va_W := [(h0, .inr (9, F9_34 q1 q2 q3 q4 q5 q6 q7 q8 q9 q10 q11 q12 q13 q14 q15 q16 q17 q18 q19 q20 q21 q22 q23 q24 q25 q26 q27 q28 q29 q30 q31 q32 q33 q34)), (q1, .inl (tc 2, (16 : Int).toNat, .inl (fun _ => 0))), (q2, .inl (tc 0, (8 : Int).toNat, .inl (fun _ => 0))), (q3, .inl (tc 0, (40 : Int).toNat, .inl (fun _ => 0))), (q4, .inl (tc 0, (40 : Int).toNat, .inl (fun _ => 0))), (q5, .inl (tc 1, (40 : Int).toNat, .inr (.inl (fun _ => 0)))), (q6, .inl (tc 2, (40 : Int).toNat, .inl (fun _ => 0))), (q7, .inl (tc 0, (8 : Int).toNat, .inl (fun _ => 0))), (q8, .inl (tc 0, (32 : Int).toNat, .inl (fun _ => 0))), (q9, .inl (tc 0, (32 : Int).toNat, .inl (fun _ => 0))), (q10, .inl (tc 0, (32 : Int).toNat, .inl (fun _ => 0))), (q11, .inl (tc 1, (32 : Int).toNat, .inr (.inl (fun _ => 0)))), (q12, .inl (tc 0, (30 : Int).toNat, .inl (fun _ => 0))), (q13, .inl (tc 1, (150 : Int).toNat, .inr (.inl (fun _ => 0)))), (q14, .inl (tc 0, (400 : Int).toNat, .inl (fun _ => 0))), (q15, .inl (tc 0, (400 : Int).toNat, .inl (fun _ => 0))), (q16, .inl (tc 1, (4800 : Int).toNat, .inr (.inl (fun _ => 0)))), (q17, .inl (tc 2, (400 : Int).toNat, .inl (fun _ => 0))), (q18, .inl (tc 0, (4 : Int).toNat, .inl (fun _ => 0))), (q19, .inl (tc 0, (80 : Int).toNat, .inl (fun _ => 0))), (q20, .inl (tc 0, (80 : Int).toNat, .inl (fun _ => 0))), (q21, .inl (tc 0, (80 : Int).toNat, .inl (fun _ => 0))), (q22, .inl (tc 0, (80 : Int).toNat, .inl (fun _ => 0))), (q23, .inl (tc 1, (80 : Int).toNat, .inr (.inl (fun _ => 0)))), (q24, .inl (tc 0, (5 : Int).toNat, .inl (fun _ => 0))), (q25, .inl (tc 0, (150 : Int).toNat, .inl (fun _ => 0))), (q26, .inl (tc 0, (150 : Int).toNat, .inl (fun _ => 0))), (q27, .inl (tc 0, (750 : Int).toNat, .inl (fun _ => 0))), (q28, .inl (tc 0, (750 : Int).toNat, .inl (fun _ => 0))), (q29, .inl (tc 1, (750 : Int).toNat, .inr (.inl (fun _ => 0)))), (q30, .inl (tc 0, (5 : Int).toNat, .inl (fun _ => 0))), (q31, .inl (tc 0, (750 : Int).toNat, .inl (fun _ => 0))), (q32, .inl (tc 0, (750 : Int).toNat, .inl (fun _ => 0))), (q33, .inl (tc 1, (9000 : Int).toNat, .inr (.inl (fun _ => 0)))), (q34, .inl (tc 0, (30 : Int).toNat, .inl (fun _ => 0)))]
noncomputable def G9_69 (tc : Nat → ClassId) (h0 q1 q2 q3 q4 q5 q6 q7 q8 q9 q10 q11 q12 q13 q14 q15 q16 q17 q18 q19 q20 q21 q22 q23 q24 q25 q26 q27 q28 q29 q30 q31 q32 q33 q34 q35 : Nat) : va_W := [(h0, .inr (9, F9_34 q1 q2 q3 q4 q5 q6 q7 q8 q9 q10 q11 q12 q13 q14 q15 q16 q17 q18 q19 q20 q21 q22 q23 q24 q25 q26 q27 q28 q29 q30 q31 q32 q33 q34)), (q1, .inl (tc 2, (16 : Int).toNat, .inl (fun _ => 0))), (q2, .inl (tc 0, (8 : Int).toNat, .inl (fun _ => 0))), (q3, .inl (tc 0, (40 : Int).toNat, .inl (fun _ => 0))), (q4, .inl (tc 0, (40 : Int).toNat, .inl (fun _ => 0))), (q5, .inl (tc 1, (40 : Int).toNat, .inr (.inl (fun _ => 0)))), (q6, .inl (tc 2, (40 : Int).toNat, .inl (fun _ => 0))), (q7, .inl (tc 0, (8 : Int).toNat, .inl (fun _ => 0))), (q8, .inl (tc 0, (32 : Int).toNat, .inl (fun _ => 0))), (q9, .inl (tc 0, (32 : Int).toNat, .inl (fun _ => 0))), (q10, .inl (tc 0, (32 : Int).toNat, .inl (fun _ => 0))), (q11, .inl (tc 1, (32 : Int).toNat, .inr (.inl (fun _ => 0)))), (q12, .inl (tc 0, (30 : Int).toNat, .inl (fun _ => 0))), (q13, .inl (tc 1, (150 : Int).toNat, .inr (.inl (fun _ => 0)))), (q14, .inl (tc 0, (400 : Int).toNat, .inl (fun _ => 0))), (q15, .inl (tc 0, (400 : Int).toNat, .inl (fun _ => 0))), (q16, .inl (tc 1, (4800 : Int).toNat, .inr (.inl (fun _ => 0)))), (q17, .inl (tc 2, (400 : Int).toNat, .inl (fun _ => 0))), (q18, .inl (tc 0, (4 : Int).toNat, .inl (fun _ => 0))), (q19, .inl (tc 0, (80 : Int).toNat, .inl (fun _ => 0))), (q20, .inl (tc 0, (80 : Int).toNat, .inl (fun _ => 0))), (q21, .inl (tc 0, (80 : Int).toNat, .inl (fun _ => 0))), (q22, .inl (tc 0, (80 : Int).toNat, .inl (fun _ => 0))), (q23, .inl (tc 1, (80 : Int).toNat, .inr (.inl (fun _ => 0)))), (q24, .inl (tc 0, (5 : Int).toNat, .inl (fun _ => 0))), (q25, .inl (tc 0, (150 : Int).toNat, .inl (fun _ => 0))), (q26, .inl (tc 0, (150 : Int).toNat, .inl (fun _ => 0))), (q27, .inl (tc 0, (750 : Int).toNat, .inl (fun _ => 0))), (q28, .inl (tc 0, (750 : Int).toNat, .inl (fun _ => 0))), (q29, .inl (tc 1, (750 : Int).toNat, .inr (.inl (fun _ => 0)))), (q30, .inl (tc 0, (5 : Int).toNat, .inl (fun _ => 0))), (q31, .inl (tc 0, (750 : Int).toNat, .inl (fun _ => 0))), (q32, .inl (tc 0, (750 : Int).toNat, .inl (fun _ => 0))), (q33, .inl (tc 1, (9000 : Int).toNat, .inr (.inl (fun _ => 0)))), (q34, .inl (tc 0, (30 : Int).toNat, .inl (fun _ => 0))), (q35, .inl (tc 0, (150 : Int).toNat, .inl (fun _ => 0)))]
noncomputable def F9_35 (q1 q2 q3 q4 q5 q6 q7 q8 q9 q10 q11 q12 q13 q14 q15 q16 q17 q18 q19 q20 q21 q22 q23 q24 q25 q26 q27 q28 q29 q30 q31 q32 q33 q34 q35 : Nat) : List Value := [.int 0, .ref q1, .int 0, .ref q2, .ref q3, .ref q4, .ref q5, .ref q6, .ref q7, .ref q8, .ref q9, .ref q10, .ref q11, .int 0, .ref q12, .ref q13, .ref q14, .ref q15, .ref q16, .ref q17, .int 0, .ref q18, .int 0, .ref q19, .ref q20, .ref q21, .ref q22, .ref q23, .int 0, .ref q24, .ref q25, .ref q26, .ref q27, .ref q28, .ref q29, .ref q30, .ref q31, .ref q32, .ref q33, .ref q34, .ref q35, .int 0, .int 0, .int 0, .null, .null, .null, .null, .null, .null, .int 0]
noncomputable def G9_70 (tc : Nat → ClassId) (h0 q1 q2 q3 q4 q5 q6 q7 q8 q9 q10 q11 q12 q13 q14 q15 q16 q17 q18 q19 q20 q21 q22 q23 q24 q25 q26 q27 q28 q29 q30 q31 q32 q33 q34 q35 : Nat) : va_W := [(h0, .inr (9, F9_35 q1 q2 q3 q4 q5 q6 q7 q8 q9 q10 q11 q12 q13 q14 q15 q16 q17 q18 q19 q20 q21 q22 q23 q24 q25 q26 q27 q28 q29 q30 q31 q32 q33 q34 q35)), (q1, .inl (tc 2, (16 : Int).toNat, .inl (fun _ => 0))), (q2, .inl (tc 0, (8 : Int).toNat, .inl (fun _ => 0))), (q3, .inl (tc 0, (40 : Int).toNat, .inl (fun _ => 0))), (q4, .inl (tc 0, (40 : Int).toNat, .inl (fun _ => 0))), (q5, .inl (tc 1, (40 : Int).toNat, .inr (.inl (fun _ => 0)))), (q6, .inl (tc 2, (40 : Int).toNat, .inl (fun _ => 0))), (q7, .inl (tc 0, (8 : Int).toNat, .inl (fun _ => 0))), (q8, .inl (tc 0, (32 : Int).toNat, .inl (fun _ => 0))), (q9, .inl (tc 0, (32 : Int).toNat, .inl (fun _ => 0))), (q10, .inl (tc 0, (32 : Int).toNat, .inl (fun _ => 0))), (q11, .inl (tc 1, (32 : Int).toNat, .inr (.inl (fun _ => 0)))), (q12, .inl (tc 0, (30 : Int).toNat, .inl (fun _ => 0))), (q13, .inl (tc 1, (150 : Int).toNat, .inr (.inl (fun _ => 0)))), (q14, .inl (tc 0, (400 : Int).toNat, .inl (fun _ => 0))), (q15, .inl (tc 0, (400 : Int).toNat, .inl (fun _ => 0))), (q16, .inl (tc 1, (4800 : Int).toNat, .inr (.inl (fun _ => 0)))), (q17, .inl (tc 2, (400 : Int).toNat, .inl (fun _ => 0))), (q18, .inl (tc 0, (4 : Int).toNat, .inl (fun _ => 0))), (q19, .inl (tc 0, (80 : Int).toNat, .inl (fun _ => 0))), (q20, .inl (tc 0, (80 : Int).toNat, .inl (fun _ => 0))), (q21, .inl (tc 0, (80 : Int).toNat, .inl (fun _ => 0))), (q22, .inl (tc 0, (80 : Int).toNat, .inl (fun _ => 0))), (q23, .inl (tc 1, (80 : Int).toNat, .inr (.inl (fun _ => 0)))), (q24, .inl (tc 0, (5 : Int).toNat, .inl (fun _ => 0))), (q25, .inl (tc 0, (150 : Int).toNat, .inl (fun _ => 0))), (q26, .inl (tc 0, (150 : Int).toNat, .inl (fun _ => 0))), (q27, .inl (tc 0, (750 : Int).toNat, .inl (fun _ => 0))), (q28, .inl (tc 0, (750 : Int).toNat, .inl (fun _ => 0))), (q29, .inl (tc 1, (750 : Int).toNat, .inr (.inl (fun _ => 0)))), (q30, .inl (tc 0, (5 : Int).toNat, .inl (fun _ => 0))), (q31, .inl (tc 0, (750 : Int).toNat, .inl (fun _ => 0))), (q32, .inl (tc 0, (750 : Int).toNat, .inl (fun _ => 0))), (q33, .inl (tc 1, (9000 : Int).toNat, .inr (.inl (fun _ => 0)))), (q34, .inl (tc 0, (30 : Int).toNat, .inl (fun _ => 0))), (q35, .inl (tc 0, (150 : Int).toNat, .inl (fun _ => 0)))]
noncomputable def F9_36 (q1 q2 q3 q4 q5 q6 q7 q8 q9 q10 q11 q12 q13 q14 q15 q16 q17 q18 q19 q20 q21 q22 q23 q24 q25 q26 q27 q28 q29 q30 q31 q32 q33 q34 q35 : Nat) : List Value := [.int 0, .ref q1, .int 0, .ref q2, .ref q3, .ref q4, .ref q5, .ref q6, .ref q7, .ref q8, .ref q9, .ref q10, .ref q11, .int 0, .ref q12, .ref q13, .ref q14, .ref q15, .ref q16, .ref q17, .int 0, .ref q18, .int 0, .ref q19, .ref q20, .ref q21, .ref q22, .ref q23, .int 0, .ref q24, .ref q25, .ref q26, .ref q27, .ref q28, .ref q29, .ref q30, .ref q31, .ref q32, .ref q33, .ref q34, .ref q35, .int (jI (-9)), .int 0, .int 0, .null, .null, .null, .null, .null, .null, .int 0]
noncomputable def G9_71 (tc : Nat → ClassId) (h0 q1 q2 q3 q4 q5 q6 q7 q8 q9 q10 q11 q12 q13 q14 q15 q16 q17 q18 q19 q20 q21 q22 q23 q24 q25 q26 q27 q28 q29 q30 q31 q32 q33 q34 q35 : Nat) : va_W := [(h0, .inr (9, F9_36 q1 q2 q3 q4 q5 q6 q7 q8 q9 q10 q11 q12 q13 q14 q15 q16 q17 q18 q19 q20 q21 q22 q23 q24 q25 q26 q27 q28 q29 q30 q31 q32 q33 q34 q35)), (q1, .inl (tc 2, (16 : Int).toNat, .inl (fun _ => 0))), (q2, .inl (tc 0, (8 : Int).toNat, .inl (fun _ => 0))), (q3, .inl (tc 0, (40 : Int).toNat, .inl (fun _ => 0))), (q4, .inl (tc 0, (40 : Int).toNat, .inl (fun _ => 0))), (q5, .inl (tc 1, (40 : Int).toNat, .inr (.inl (fun _ => 0)))), (q6, .inl (tc 2, (40 : Int).toNat, .inl (fun _ => 0))), (q7, .inl (tc 0, (8 : Int).toNat, .inl (fun _ => 0))), (q8, .inl (tc 0, (32 : Int).toNat, .inl (fun _ => 0))), (q9, .inl (tc 0, (32 : Int).toNat, .inl (fun _ => 0))), (q10, .inl (tc 0, (32 : Int).toNat, .inl (fun _ => 0))), (q11, .inl (tc 1, (32 : Int).toNat, .inr (.inl (fun _ => 0)))), (q12, .inl (tc 0, (30 : Int).toNat, .inl (fun _ => 0))), (q13, .inl (tc 1, (150 : Int).toNat, .inr (.inl (fun _ => 0)))), (q14, .inl (tc 0, (400 : Int).toNat, .inl (fun _ => 0))), (q15, .inl (tc 0, (400 : Int).toNat, .inl (fun _ => 0))), (q16, .inl (tc 1, (4800 : Int).toNat, .inr (.inl (fun _ => 0)))), (q17, .inl (tc 2, (400 : Int).toNat, .inl (fun _ => 0))), (q18, .inl (tc 0, (4 : Int).toNat, .inl (fun _ => 0))), (q19, .inl (tc 0, (80 : Int).toNat, .inl (fun _ => 0))), (q20, .inl (tc 0, (80 : Int).toNat, .inl (fun _ => 0))), (q21, .inl (tc 0, (80 : Int).toNat, .inl (fun _ => 0))), (q22, .inl (tc 0, (80 : Int).toNat, .inl (fun _ => 0))), (q23, .inl (tc 1, (80 : Int).toNat, .inr (.inl (fun _ => 0)))), (q24, .inl (tc 0, (5 : Int).toNat, .inl (fun _ => 0))), (q25, .inl (tc 0, (150 : Int).toNat, .inl (fun _ => 0))), (q26, .inl (tc 0, (150 : Int).toNat, .inl (fun _ => 0))), (q27, .inl (tc 0, (750 : Int).toNat, .inl (fun _ => 0))), (q28, .inl (tc 0, (750 : Int).toNat, .inl (fun _ => 0))), (q29, .inl (tc 1, (750 : Int).toNat, .inr (.inl (fun _ => 0)))), (q30, .inl (tc 0, (5 : Int).toNat, .inl (fun _ => 0))), (q31, .inl (tc 0, (750 : Int).toNat, .inl (fun _ => 0))), (q32, .inl (tc 0, (750 : Int).toNat, .inl (fun _ => 0))), (q33, .inl (tc 1, (9000 : Int).toNat, .inr (.inl (fun _ => 0)))), (q34, .inl (tc 0, (30 : Int).toNat, .inl (fun _ => 0))), (q35, .inl (tc 0, (150 : Int).toNat, .inl (fun _ => 0)))]
noncomputable def F9_37 (q1 q2 q3 q4 q5 q6 q7 q8 q9 q10 q11 q12 q13 q14 q15 q16 q17 q18 q19 q20 q21 q22 q23 q24 q25 q26 q27 q28 q29 q30 q31 q32 q33 q34 q35 : Nat) : List Value := [.int 0, .ref q1, .int 0, .ref q2, .ref q3, .ref q4, .ref q5, .ref q6, .ref q7, .ref q8, .ref q9, .ref q10, .ref q11, .int 0, .ref q12, .ref q13, .ref q14, .ref q15, .ref q16, .ref q17, .int 0, .ref q18, .int 0, .ref q19, .ref q20, .ref q21, .ref q22, .ref q23, .int 0, .ref q24, .ref q25, .ref q26, .ref q27, .ref q28, .ref q29, .ref q30, .ref q31, .ref q32, .ref q33, .ref q34, .ref q35, .int (jI (-9)), .int (jI (-9)), .int 0, .null, .null, .null, .null, .null, .null, .int 0]
noncomputable def G9_72 (tc : Nat → ClassId) (h0 q1 q2 q3 q4 q5 q6 q7 q8 q9 q10 q11 q12 q13 q14 q15 q16 q17 q18 q19 q20 q21 q22 q23 q24 q25 q26 q27 q28 q29 q30 q31 q32 q33 q34 q35 : Nat) : va_W := [(h0, .inr (9, F9_37 q1 q2 q3 q4 q5 q6 q7 q8 q9 q10 q11 q12 q13 q14 q15 q16 q17 q18 q19 q20 q21 q22 q23 q24 q25 q26 q27 q28 q29 q30 q31 q32 q33 q34 q35)), (q1, .inl (tc 2, (16 : Int).toNat, .inl (fun _ => 0))), (q2, .inl (tc 0, (8 : Int).toNat, .inl (fun _ => 0))), (q3, .inl (tc 0, (40 : Int).toNat, .inl (fun _ => 0))), (q4, .inl (tc 0, (40 : Int).toNat, .inl (fun _ => 0))), (q5, .inl (tc 1, (40 : Int).toNat, .inr (.inl (fun _ => 0)))), (q6, .inl (tc 2, (40 : Int).toNat, .inl (fun _ => 0))), (q7, .inl (tc 0, (8 : Int).toNat, .inl (fun _ => 0))), (q8, .inl (tc 0, (32 : Int).toNat, .inl (fun _ => 0))), (q9, .inl (tc 0, (32 : Int).toNat, .inl (fun _ => 0))), (q10, .inl (tc 0, (32 : Int).toNat, .inl (fun _ => 0))), (q11, .inl (tc 1, (32 : Int).toNat, .inr (.inl (fun _ => 0)))), (q12, .inl (tc 0, (30 : Int).toNat, .inl (fun _ => 0))), (q13, .inl (tc 1, (150 : Int).toNat, .inr (.inl (fun _ => 0)))), (q14, .inl (tc 0, (400 : Int).toNat, .inl (fun _ => 0))), (q15, .inl (tc 0, (400 : Int).toNat, .inl (fun _ => 0))), (q16, .inl (tc 1, (4800 : Int).toNat, .inr (.inl (fun _ => 0)))), (q17, .inl (tc 2, (400 : Int).toNat, .inl (fun _ => 0))), (q18, .inl (tc 0, (4 : Int).toNat, .inl (fun _ => 0))), (q19, .inl (tc 0, (80 : Int).toNat, .inl (fun _ => 0))), (q20, .inl (tc 0, (80 : Int).toNat, .inl (fun _ => 0))), (q21, .inl (tc 0, (80 : Int).toNat, .inl (fun _ => 0))), (q22, .inl (tc 0, (80 : Int).toNat, .inl (fun _ => 0))), (q23, .inl (tc 1, (80 : Int).toNat, .inr (.inl (fun _ => 0)))), (q24, .inl (tc 0, (5 : Int).toNat, .inl (fun _ => 0))), (q25, .inl (tc 0, (150 : Int).toNat, .inl (fun _ => 0))), (q26, .inl (tc 0, (150 : Int).toNat, .inl (fun _ => 0))), (q27, .inl (tc 0, (750 : Int).toNat, .inl (fun _ => 0))), (q28, .inl (tc 0, (750 : Int).toNat, .inl (fun _ => 0))), (q29, .inl (tc 1, (750 : Int).toNat, .inr (.inl (fun _ => 0)))), (q30, .inl (tc 0, (5 : Int).toNat, .inl (fun _ => 0))), (q31, .inl (tc 0, (750 : Int).toNat, .inl (fun _ => 0))), (q32, .inl (tc 0, (750 : Int).toNat, .inl (fun _ => 0))), (q33, .inl (tc 1, (9000 : Int).toNat, .inr (.inl (fun _ => 0)))), (q34, .inl (tc 0, (30 : Int).toNat, .inl (fun _ => 0))), (q35, .inl (tc 0, (150 : Int).toNat, .inl (fun _ => 0)))]
noncomputable def F9_38 (q1 q2 q3 q4 q5 q6 q7 q8 q9 q10 q11 q12 q13 q14 q15 q16 q17 q18 q19 q20 q21 q22 q23 q24 q25 q26 q27 q28 q29 q30 q31 q32 q33 q34 q35 : Nat) : List Value := [.int 0, .ref q1, .int 0, .ref q2, .ref q3, .ref q4, .ref q5, .ref q6, .ref q7, .ref q8, .ref q9, .ref q10, .ref q11, .int 0, .ref q12, .ref q13, .ref q14, .ref q15, .ref q16, .ref q17, .int 0, .ref q18, .int 0, .ref q19, .ref q20, .ref q21, .ref q22, .ref q23, .int 0, .ref q24, .ref q25, .ref q26, .ref q27, .ref q28, .ref q29, .ref q30, .ref q31, .ref q32, .ref q33, .ref q34, .ref q35, .int (jI (-9)), .int (jI (-9)), .int (jI (-9)), .null, .null, .null, .null, .null, .null, .int 0]
noncomputable def G9_73 (tc : Nat → ClassId) (h0 q1 q2 q3 q4 q5 q6 q7 q8 q9 q10 q11 q12 q13 q14 q15 q16 q17 q18 q19 q20 q21 q22 q23 q24 q25 q26 q27 q28 q29 q30 q31 q32 q33 q34 q35 : Nat) : va_W := [(h0, .inr (9, F9_38 q1 q2 q3 q4 q5 q6 q7 q8 q9 q10 q11 q12 q13 q14 q15 q16 q17 q18 q19 q20 q21 q22 q23 q24 q25 q26 q27 q28 q29 q30 q31 q32 q33 q34 q35)), (q1, .inl (tc 2, (16 : Int).toNat, .inl (fun _ => 0))), (q2, .inl (tc 0, (8 : Int).toNat, .inl (fun _ => 0))), (q3, .inl (tc 0, (40 : Int).toNat, .inl (fun _ => 0))), (q4, .inl (tc 0, (40 : Int).toNat, .inl (fun _ => 0))), (q5, .inl (tc 1, (40 : Int).toNat, .inr (.inl (fun _ => 0)))), (q6, .inl (tc 2, (40 : Int).toNat, .inl (fun _ => 0))), (q7, .inl (tc 0, (8 : Int).toNat, .inl (fun _ => 0))), (q8, .inl (tc 0, (32 : Int).toNat, .inl (fun _ => 0))), (q9, .inl (tc 0, (32 : Int).toNat, .inl (fun _ => 0))), (q10, .inl (tc 0, (32 : Int).toNat, .inl (fun _ => 0))), (q11, .inl (tc 1, (32 : Int).toNat, .inr (.inl (fun _ => 0)))), (q12, .inl (tc 0, (30 : Int).toNat, .inl (fun _ => 0))), (q13, .inl (tc 1, (150 : Int).toNat, .inr (.inl (fun _ => 0)))), (q14, .inl (tc 0, (400 : Int).toNat, .inl (fun _ => 0))), (q15, .inl (tc 0, (400 : Int).toNat, .inl (fun _ => 0))), (q16, .inl (tc 1, (4800 : Int).toNat, .inr (.inl (fun _ => 0)))), (q17, .inl (tc 2, (400 : Int).toNat, .inl (fun _ => 0))), (q18, .inl (tc 0, (4 : Int).toNat, .inl (fun _ => 0))), (q19, .inl (tc 0, (80 : Int).toNat, .inl (fun _ => 0))), (q20, .inl (tc 0, (80 : Int).toNat, .inl (fun _ => 0))), (q21, .inl (tc 0, (80 : Int).toNat, .inl (fun _ => 0))), (q22, .inl (tc 0, (80 : Int).toNat, .inl (fun _ => 0))), (q23, .inl (tc 1, (80 : Int).toNat, .inr (.inl (fun _ => 0)))), (q24, .inl (tc 0, (5 : Int).toNat, .inl (fun _ => 0))), (q25, .inl (tc 0, (150 : Int).toNat, .inl (fun _ => 0))), (q26, .inl (tc 0, (150 : Int).toNat, .inl (fun _ => 0))), (q27, .inl (tc 0, (750 : Int).toNat, .inl (fun _ => 0))), (q28, .inl (tc 0, (750 : Int).toNat, .inl (fun _ => 0))), (q29, .inl (tc 1, (750 : Int).toNat, .inr (.inl (fun _ => 0)))), (q30, .inl (tc 0, (5 : Int).toNat, .inl (fun _ => 0))), (q31, .inl (tc 0, (750 : Int).toNat, .inl (fun _ => 0))), (q32, .inl (tc 0, (750 : Int).toNat, .inl (fun _ => 0))), (q33, .inl (tc 1, (9000 : Int).toNat, .inr (.inl (fun _ => 0)))), (q34, .inl (tc 0, (30 : Int).toNat, .inl (fun _ => 0))), (q35, .inl (tc 0, (150 : Int).toNat, .inl (fun _ => 0)))]
noncomputable def G9_74 (tc : Nat → ClassId) (h0 q1 q2 q3 q4 q5 q6 q7 q8 q9 q10 q11 q12 q13 q14 q15 q16 q17 q18 q19 q20 q21 q22 q23 q24 q25 q26 q27 q28 q29 q30 q31 q32 q33 q34 q35 q36 : Nat) : va_W := [(h0, .inr (9, F9_38 q1 q2 q3 q4 q5 q6 q7 q8 q9 q10 q11 q12 q13 q14 q15 q16 q17 q18 q19 q20 q21 q22 q23 q24 q25 q26 q27 q28 q29 q30 q31 q32 q33 q34 q35)), (q1, .inl (tc 2, (16 : Int).toNat, .inl (fun _ => 0))), (q2, .inl (tc 0, (8 : Int).toNat, .inl (fun _ => 0))), (q3, .inl (tc 0, (40 : Int).toNat, .inl (fun _ => 0))), (q4, .inl (tc 0, (40 : Int).toNat, .inl (fun _ => 0))), (q5, .inl (tc 1, (40 : Int).toNat, .inr (.inl (fun _ => 0)))), (q6, .inl (tc 2, (40 : Int).toNat, .inl (fun _ => 0))), (q7, .inl (tc 0, (8 : Int).toNat, .inl (fun _ => 0))), (q8, .inl (tc 0, (32 : Int).toNat, .inl (fun _ => 0))), (q9, .inl (tc 0, (32 : Int).toNat, .inl (fun _ => 0))), (q10, .inl (tc 0, (32 : Int).toNat, .inl (fun _ => 0))), (q11, .inl (tc 1, (32 : Int).toNat, .inr (.inl (fun _ => 0)))), (q12, .inl (tc 0, (30 : Int).toNat, .inl (fun _ => 0))), (q13, .inl (tc 1, (150 : Int).toNat, .inr (.inl (fun _ => 0)))), (q14, .inl (tc 0, (400 : Int).toNat, .inl (fun _ => 0))), (q15, .inl (tc 0, (400 : Int).toNat, .inl (fun _ => 0))), (q16, .inl (tc 1, (4800 : Int).toNat, .inr (.inl (fun _ => 0)))), (q17, .inl (tc 2, (400 : Int).toNat, .inl (fun _ => 0))), (q18, .inl (tc 0, (4 : Int).toNat, .inl (fun _ => 0))), (q19, .inl (tc 0, (80 : Int).toNat, .inl (fun _ => 0))), (q20, .inl (tc 0, (80 : Int).toNat, .inl (fun _ => 0))), (q21, .inl (tc 0, (80 : Int).toNat, .inl (fun _ => 0))), (q22, .inl (tc 0, (80 : Int).toNat, .inl (fun _ => 0))), (q23, .inl (tc 1, (80 : Int).toNat, .inr (.inl (fun _ => 0)))), (q24, .inl (tc 0, (5 : Int).toNat, .inl (fun _ => 0))), (q25, .inl (tc 0, (150 : Int).toNat, .inl (fun _ => 0))), (q26, .inl (tc 0, (150 : Int).toNat, .inl (fun _ => 0))), (q27, .inl (tc 0, (750 : Int).toNat, .inl (fun _ => 0))), (q28, .inl (tc 0, (750 : Int).toNat, .inl (fun _ => 0))), (q29, .inl (tc 1, (750 : Int).toNat, .inr (.inl (fun _ => 0)))), (q30, .inl (tc 0, (5 : Int).toNat, .inl (fun _ => 0))), (q31, .inl (tc 0, (750 : Int).toNat, .inl (fun _ => 0))), (q32, .inl (tc 0, (750 : Int).toNat, .inl (fun _ => 0))), (q33, .inl (tc 1, (9000 : Int).toNat, .inr (.inl (fun _ => 0)))), (q34, .inl (tc 0, (30 : Int).toNat, .inl (fun _ => 0))), (q35, .inl (tc 0, (150 : Int).toNat, .inl (fun _ => 0))), (q36, .inl (tc 0, (450 : Int).toNat, .inl (fun _ => 0)))]
noncomputable def F9_39 (q1 q2 q3 q4 q5 q6 q7 q8 q9 q10 q11 q12 q13 q14 q15 q16 q17 q18 q19 q20 q21 q22 q23 q24 q25 q26 q27 q28 q29 q30 q31 q32 q33 q34 q35 q36 : Nat) : List Value := [.int 0, .ref q1, .int 0, .ref q2, .ref q3, .ref q4, .ref q5, .ref q6, .ref q7, .ref q8, .ref q9, .ref q10, .ref q11, .int 0, .ref q12, .ref q13, .ref q14, .ref q15, .ref q16, .ref q17, .int 0, .ref q18, .int 0, .ref q19, .ref q20, .ref q21, .ref q22, .ref q23, .int 0, .ref q24, .ref q25, .ref q26, .ref q27, .ref q28, .ref q29, .ref q30, .ref q31, .ref q32, .ref q33, .ref q34, .ref q35, .int (jI (-9)), .int (jI (-9)), .int (jI (-9)), .ref q36, .null, .null, .null, .null, .null, .int 0]
noncomputable def G9_75 (tc : Nat → ClassId) (h0 q1 q2 q3 q4 q5 q6 q7 q8 q9 q10 q11 q12 q13 q14 q15 q16 q17 q18 q19 q20 q21 q22 q23 q24 q25 q26 q27 q28 q29 q30 q31 q32 q33 q34 q35 q36 : Nat) : va_W := [(h0, .inr (9, F9_39 q1 q2 q3 q4 q5 q6 q7 q8 q9 q10 q11 q12 q13 q14 q15 q16 q17 q18 q19 q20 q21 q22 q23 q24 q25 q26 q27 q28 q29 q30 q31 q32 q33 q34 q35 q36)), (q1, .inl (tc 2, (16 : Int).toNat, .inl (fun _ => 0))), (q2, .inl (tc 0, (8 : Int).toNat, .inl (fun _ => 0))), (q3, .inl (tc 0, (40 : Int).toNat, .inl (fun _ => 0))), (q4, .inl (tc 0, (40 : Int).toNat, .inl (fun _ => 0))), (q5, .inl (tc 1, (40 : Int).toNat, .inr (.inl (fun _ => 0)))), (q6, .inl (tc 2, (40 : Int).toNat, .inl (fun _ => 0))), (q7, .inl (tc 0, (8 : Int).toNat, .inl (fun _ => 0))), (q8, .inl (tc 0, (32 : Int).toNat, .inl (fun _ => 0))), (q9, .inl (tc 0, (32 : Int).toNat, .inl (fun _ => 0))), (q10, .inl (tc 0, (32 : Int).toNat, .inl (fun _ => 0))), (q11, .inl (tc 1, (32 : Int).toNat, .inr (.inl (fun _ => 0)))), (q12, .inl (tc 0, (30 : Int).toNat, .inl (fun _ => 0))), (q13, .inl (tc 1, (150 : Int).toNat, .inr (.inl (fun _ => 0)))), (q14, .inl (tc 0, (400 : Int).toNat, .inl (fun _ => 0))), (q15, .inl (tc 0, (400 : Int).toNat, .inl (fun _ => 0))), (q16, .inl (tc 1, (4800 : Int).toNat, .inr (.inl (fun _ => 0)))), (q17, .inl (tc 2, (400 : Int).toNat, .inl (fun _ => 0))), (q18, .inl (tc 0, (4 : Int).toNat, .inl (fun _ => 0))), (q19, .inl (tc 0, (80 : Int).toNat, .inl (fun _ => 0))), (q20, .inl (tc 0, (80 : Int).toNat, .inl (fun _ => 0))), (q21, .inl (tc 0, (80 : Int).toNat, .inl (fun _ => 0))), (q22, .inl (tc 0, (80 : Int).toNat, .inl (fun _ => 0))), (q23, .inl (tc 1, (80 : Int).toNat, .inr (.inl (fun _ => 0)))), (q24, .inl (tc 0, (5 : Int).toNat, .inl (fun _ => 0))), (q25, .inl (tc 0, (150 : Int).toNat, .inl (fun _ => 0))), (q26, .inl (tc 0, (150 : Int).toNat, .inl (fun _ => 0))), (q27, .inl (tc 0, (750 : Int).toNat, .inl (fun _ => 0))), (q28, .inl (tc 0, (750 : Int).toNat, .inl (fun _ => 0))), (q29, .inl (tc 1, (750 : Int).toNat, .inr (.inl (fun _ => 0)))), (q30, .inl (tc 0, (5 : Int).toNat, .inl (fun _ => 0))), (q31, .inl (tc 0, (750 : Int).toNat, .inl (fun _ => 0))), (q32, .inl (tc 0, (750 : Int).toNat, .inl (fun _ => 0))), (q33, .inl (tc 1, (9000 : Int).toNat, .inr (.inl (fun _ => 0)))), (q34, .inl (tc 0, (30 : Int).toNat, .inl (fun _ => 0))), (q35, .inl (tc 0, (150 : Int).toNat, .inl (fun _ => 0))), (q36, .inl (tc 0, (450 : Int).toNat, .inl (fun _ => 0)))]
noncomputable def G9_76 (tc : Nat → ClassId) (h0 q1 q2 q3 q4 q5 q6 q7 q8 q9 q10 q11 q12 q13 q14 q15 q16 q17 q18 q19 q20 q21 q22 q23 q24 q25 q26 q27 q28 q29 q30 q31 q32 q33 q34 q35 q36 q37 : Nat) : va_W := [(h0, .inr (9, F9_39 q1 q2 q3 q4 q5 q6 q7 q8 q9 q10 q11 q12 q13 q14 q15 q16 q17 q18 q19 q20 q21 q22 q23 q24 q25 q26 q27 q28 q29 q30 q31 q32 q33 q34 q35 q36)), (q1, .inl (tc 2, (16 : Int).toNat, .inl (fun _ => 0))), (q2, .inl (tc 0, (8 : Int).toNat, .inl (fun _ => 0))), (q3, .inl (tc 0, (40 : Int).toNat, .inl (fun _ => 0))), (q4, .inl (tc 0, (40 : Int).toNat, .inl (fun _ => 0))), (q5, .inl (tc 1, (40 : Int).toNat, .inr (.inl (fun _ => 0)))), (q6, .inl (tc 2, (40 : Int).toNat, .inl (fun _ => 0))), (q7, .inl (tc 0, (8 : Int).toNat, .inl (fun _ => 0))), (q8, .inl (tc 0, (32 : Int).toNat, .inl (fun _ => 0))), (q9, .inl (tc 0, (32 : Int).toNat, .inl (fun _ => 0))), (q10, .inl (tc 0, (32 : Int).toNat, .inl (fun _ => 0))), (q11, .inl (tc 1, (32 : Int).toNat, .inr (.inl (fun _ => 0)))), (q12, .inl (tc 0, (30 : Int).toNat, .inl (fun _ => 0))), (q13, .inl (tc 1, (150 : Int).toNat, .inr (.inl (fun _ => 0)))), (q14, .inl (tc 0, (400 : Int).toNat, .inl (fun _ => 0))), (q15, .inl (tc 0, (400 : Int).toNat, .inl (fun _ => 0))), (q16, .inl (tc 1, (4800 : Int).toNat, .inr (.inl (fun _ => 0)))), (q17, .inl (tc 2, (400 : Int).toNat, .inl (fun _ => 0))), (q18, .inl (tc 0, (4 : Int).toNat, .inl (fun _ => 0))), (q19, .inl (tc 0, (80 : Int).toNat, .inl (fun _ => 0))), (q20, .inl (tc 0, (80 : Int).toNat, .inl (fun _ => 0))), (q21, .inl (tc 0, (80 : Int).toNat, .inl (fun _ => 0))), (q22, .inl (tc 0, (80 : Int).toNat, .inl (fun _ => 0))), (q23, .inl (tc 1, (80 : Int).toNat, .inr (.inl (fun _ => 0)))), (q24, .inl (tc 0, (5 : Int).toNat, .inl (fun _ => 0))), (q25, .inl (tc 0, (150 : Int).toNat, .inl (fun _ => 0))), (q26, .inl (tc 0, (150 : Int).toNat, .inl (fun _ => 0))), (q27, .inl (tc 0, (750 : Int).toNat, .inl (fun _ => 0))), (q28, .inl (tc 0, (750 : Int).toNat, .inl (fun _ => 0))), (q29, .inl (tc 1, (750 : Int).toNat, .inr (.inl (fun _ => 0)))), (q30, .inl (tc 0, (5 : Int).toNat, .inl (fun _ => 0))), (q31, .inl (tc 0, (750 : Int).toNat, .inl (fun _ => 0))), (q32, .inl (tc 0, (750 : Int).toNat, .inl (fun _ => 0))), (q33, .inl (tc 1, (9000 : Int).toNat, .inr (.inl (fun _ => 0)))), (q34, .inl (tc 0, (30 : Int).toNat, .inl (fun _ => 0))), (q35, .inl (tc 0, (150 : Int).toNat, .inl (fun _ => 0))), (q36, .inl (tc 0, (450 : Int).toNat, .inl (fun _ => 0))), (q37, .inl (tc 0, (30 : Int).toNat, .inl (fun _ => 0)))]
noncomputable def F9_40 (q1 q2 q3 q4 q5 q6 q7 q8 q9 q10 q11 q12 q13 q14 q15 q16 q17 q18 q19 q20 q21 q22 q23 q24 q25 q26 q27 q28 q29 q30 q31 q32 q33 q34 q35 q36 q37 : Nat) : List Value := [.int 0, .ref q1, .int 0, .ref q2, .ref q3, .ref q4, .ref q5, .ref q6, .ref q7, .ref q8, .ref q9, .ref q10, .ref q11, .int 0, .ref q12, .ref q13, .ref q14, .ref q15, .ref q16, .ref q17, .int 0, .ref q18, .int 0, .ref q19, .ref q20, .ref q21, .ref q22, .ref q23, .int 0, .ref q24, .ref q25, .ref q26, .ref q27, .ref q28, .ref q29, .ref q30, .ref q31, .ref q32, .ref q33, .ref q34, .ref q35, .int (jI (-9)), .int (jI (-9)), .int (jI (-9)), .ref q36, .ref q37, .null, .null, .null, .null, .int 0]
noncomputable def G9_77 (tc : Nat → ClassId) (h0 q1 q2 q3 q4 q5 q6 q7 q8 q9 q10 q11 q12 q13 q14 q15 q16 q17 q18 q19 q20 q21 q22 q23 q24 q25 q26 q27 q28 q29 q30 q31 q32 q33 q34 q35 q36 q37 : Nat) : va_W := [(h0, .inr (9, F9_40 q1 q2 q3 q4 q5 q6 q7 q8 q9 q10 q11 q12 q13 q14 q15 q16 q17 q18 q19 q20 q21 q22 q23 q24 q25 q26 q27 q28 q29 q30 q31 q32 q33 q34 q35 q36 q37)), (q1, .inl (tc 2, (16 : Int).toNat, .inl (fun _ => 0))), (q2, .inl (tc 0, (8 : Int).toNat, .inl (fun _ => 0))), (q3, .inl (tc 0, (40 : Int).toNat, .inl (fun _ => 0))), (q4, .inl (tc 0, (40 : Int).toNat, .inl (fun _ => 0))), (q5, .inl (tc 1, (40 : Int).toNat, .inr (.inl (fun _ => 0)))), (q6, .inl (tc 2, (40 : Int).toNat, .inl (fun _ => 0))), (q7, .inl (tc 0, (8 : Int).toNat, .inl (fun _ => 0))), (q8, .inl (tc 0, (32 : Int).toNat, .inl (fun _ => 0))), (q9, .inl (tc 0, (32 : Int).toNat, .inl (fun _ => 0))), (q10, .inl (tc 0, (32 : Int).toNat, .inl (fun _ => 0))), (q11, .inl (tc 1, (32 : Int).toNat, .inr (.inl (fun _ => 0)))), (q12, .inl (tc 0, (30 : Int).toNat, .inl (fun _ => 0))), (q13, .inl (tc 1, (150 : Int).toNat, .inr (.inl (fun _ => 0)))), (q14, .inl (tc 0, (400 : Int).toNat, .inl (fun _ => 0))), (q15, .inl (tc 0, (400 : Int).toNat, .inl (fun _ => 0))), (q16, .inl (tc 1, (4800 : Int).toNat, .inr (.inl (fun _ => 0)))), (q17, .inl (tc 2, (400 : Int).toNat, .inl (fun _ => 0))), (q18, .inl (tc 0, (4 : Int).toNat, .inl (fun _ => 0))), (q19, .inl (tc 0, (80 : Int).toNat, .inl (fun _ => 0))), (q20, .inl (tc 0, (80 : Int).toNat, .inl (fun _ => 0))), (q21, .inl (tc 0, (80 : Int).toNat, .inl (fun _ => 0))), (q22, .inl (tc 0, (80 : Int).toNat, .inl (fun _ => 0))), (q23, .inl (tc 1, (80 : Int).toNat, .inr (.inl (fun _ => 0)))), (q24, .inl (tc 0, (5 : Int).toNat, .inl (fun _ => 0))), (q25, .inl (tc 0, (150 : Int).toNat, .inl (fun _ => 0))), (q26, .inl (tc 0, (150 : Int).toNat, .inl (fun _ => 0))), (q27, .inl (tc 0, (750 : Int).toNat, .inl (fun _ => 0))), (q28, .inl (tc 0, (750 : Int).toNat, .inl (fun _ => 0))), (q29, .inl (tc 1, (750 : Int).toNat, .inr (.inl (fun _ => 0)))), (q30, .inl (tc 0, (5 : Int).toNat, .inl (fun _ => 0))), (q31, .inl (tc 0, (750 : Int).toNat, .inl (fun _ => 0))), (q32, .inl (tc 0, (750 : Int).toNat, .inl (fun _ => 0))), (q33, .inl (tc 1, (9000 : Int).toNat, .inr (.inl (fun _ => 0)))), (q34, .inl (tc 0, (30 : Int).toNat, .inl (fun _ => 0))), (q35, .inl (tc 0, (150 : Int).toNat, .inl (fun _ => 0))), (q36, .inl (tc 0, (450 : Int).toNat, .inl (fun _ => 0))), (q37, .inl (tc 0, (30 : Int).toNat, .inl (fun _ => 0)))]
noncomputable def G9_78 (tc : Nat → ClassId) (h0 q1 q2 q3 q4 q5 q6 q7 q8 q9 q10 q11 q12 q13 q14 q15 q16 q17 q18 q19 q20 q21 q22 q23 q24 q25 q26 q27 q28 q29 q30 q31 q32 q33 q34 q35 q36 q37 q38 : Nat) : va_W := [(h0, .inr (9, F9_40 q1 q2 q3 q4 q5 q6 q7 q8 q9 q10 q11 q12 q13 q14 q15 q16 q17 q18 q19 q20 q21 q22 q23 q24 q25 q26 q27 q28 q29 q30 q31 q32 q33 q34 q35 q36 q37)), (q1, .inl (tc 2, (16 : Int).toNat, .inl (fun _ => 0))), (q2, .inl (tc 0, (8 : Int).toNat, .inl (fun _ => 0))), (q3, .inl (tc 0, (40 : Int).toNat, .inl (fun _ => 0))), (q4, .inl (tc 0, (40 : Int).toNat, .inl (fun _ => 0))), (q5, .inl (tc 1, (40 : Int).toNat, .inr (.inl (fun _ => 0)))), (q6, .inl (tc 2, (40 : Int).toNat, .inl (fun _ => 0))), (q7, .inl (tc 0, (8 : Int).toNat, .inl (fun _ => 0))), (q8, .inl (tc 0, (32 : Int).toNat, .inl (fun _ => 0))), (q9, .inl (tc 0, (32 : Int).toNat, .inl (fun _ => 0))), (q10, .inl (tc 0, (32 : Int).toNat, .inl (fun _ => 0))), (q11, .inl (tc 1, (32 : Int).toNat, .inr (.inl (fun _ => 0)))), (q12, .inl (tc 0, (30 : Int).toNat, .inl (fun _ => 0))), (q13, .inl (tc 1, (150 : Int).toNat, .inr (.inl (fun _ => 0)))), (q14, .inl (tc 0, (400 : Int).toNat, .inl (fun _ => 0))), (q15, .inl (tc 0, (400 : Int).toNat, .inl (fun _ => 0))), (q16, .inl (tc 1, (4800 : Int).toNat, .inr (.inl (fun _ => 0)))), (q17, .inl (tc 2, (400 : Int).toNat, .inl (fun _ => 0))), (q18, .inl (tc 0, (4 : Int).toNat, .inl (fun _ => 0))), (q19, .inl (tc 0, (80 : Int).toNat, .inl (fun _ => 0))), (q20, .inl (tc 0, (80 : Int).toNat, .inl (fun _ => 0))), (q21, .inl (tc 0, (80 : Int).toNat, .inl (fun _ => 0))), (q22, .inl (tc 0, (80 : Int).toNat, .inl (fun _ => 0))), (q23, .inl (tc 1, (80 : Int).toNat, .inr (.inl (fun _ => 0)))), (q24, .inl (tc 0, (5 : Int).toNat, .inl (fun _ => 0))), (q25, .inl (tc 0, (150 : Int).toNat, .inl (fun _ => 0))), (q26, .inl (tc 0, (150 : Int).toNat, .inl (fun _ => 0))), (q27, .inl (tc 0, (750 : Int).toNat, .inl (fun _ => 0))), (q28, .inl (tc 0, (750 : Int).toNat, .inl (fun _ => 0))), (q29, .inl (tc 1, (750 : Int).toNat, .inr (.inl (fun _ => 0)))), (q30, .inl (tc 0, (5 : Int).toNat, .inl (fun _ => 0))), (q31, .inl (tc 0, (750 : Int).toNat, .inl (fun _ => 0))), (q32, .inl (tc 0, (750 : Int).toNat, .inl (fun _ => 0))), (q33, .inl (tc 1, (9000 : Int).toNat, .inr (.inl (fun _ => 0)))), (q34, .inl (tc 0, (30 : Int).toNat, .inl (fun _ => 0))), (q35, .inl (tc 0, (150 : Int).toNat, .inl (fun _ => 0))), (q36, .inl (tc 0, (450 : Int).toNat, .inl (fun _ => 0))), (q37, .inl (tc 0, (30 : Int).toNat, .inl (fun _ => 0))), (q38, .inl (tc 0, (30 : Int).toNat, .inl (fun _ => 0)))]
noncomputable def F9_41 (q1 q2 q3 q4 q5 q6 q7 q8 q9 q10 q11 q12 q13 q14 q15 q16 q17 q18 q19 q20 q21 q22 q23 q24 q25 q26 q27 q28 q29 q30 q31 q32 q33 q34 q35 q36 q37 q38 : Nat) : List Value := [.int 0, .ref q1, .int 0, .ref q2, .ref q3, .ref q4, .ref q5, .ref q6, .ref q7, .ref q8, .ref q9, .ref q10, .ref q11, .int 0, .ref q12, .ref q13, .ref q14, .ref q15, .ref q16, .ref q17, .int 0, .ref q18, .int 0, .ref q19, .ref q20, .ref q21, .ref q22, .ref q23, .int 0, .ref q24, .ref q25, .ref q26, .ref q27, .ref q28, .ref q29, .ref q30, .ref q31, .ref q32, .ref q33, .ref q34, .ref q35, .int (jI (-9)), .int (jI (-9)), .int (jI (-9)), .ref q36, .ref q37, .ref q38, .null, .null, .null, .int 0]
noncomputable def G9_79 (tc : Nat → ClassId) (h0 q1 q2 q3 q4 q5 q6 q7 q8 q9 q10 q11 q12 q13 q14 q15 q16 q17 q18 q19 q20 q21 q22 q23 q24 q25 q26 q27 q28 q29 q30 q31 q32 q33 q34 q35 q36 q37 q38 : Nat) : va_W := [(h0, .inr (9, F9_41 q1 q2 q3 q4 q5 q6 q7 q8 q9 q10 q11 q12 q13 q14 q15 q16 q17 q18 q19 q20 q21 q22 q23 q24 q25 q26 q27 q28 q29 q30 q31 q32 q33 q34 q35 q36 q37 q38)), (q1, .inl (tc 2, (16 : Int).toNat, .inl (fun _ => 0))), (q2, .inl (tc 0, (8 : Int).toNat, .inl (fun _ => 0))), (q3, .inl (tc 0, (40 : Int).toNat, .inl (fun _ => 0))), (q4, .inl (tc 0, (40 : Int).toNat, .inl (fun _ => 0))), (q5, .inl (tc 1, (40 : Int).toNat, .inr (.inl (fun _ => 0)))), (q6, .inl (tc 2, (40 : Int).toNat, .inl (fun _ => 0))), (q7, .inl (tc 0, (8 : Int).toNat, .inl (fun _ => 0))), (q8, .inl (tc 0, (32 : Int).toNat, .inl (fun _ => 0))), (q9, .inl (tc 0, (32 : Int).toNat, .inl (fun _ => 0))), (q10, .inl (tc 0, (32 : Int).toNat, .inl (fun _ => 0))), (q11, .inl (tc 1, (32 : Int).toNat, .inr (.inl (fun _ => 0)))), (q12, .inl (tc 0, (30 : Int).toNat, .inl (fun _ => 0))), (q13, .inl (tc 1, (150 : Int).toNat, .inr (.inl (fun _ => 0)))), (q14, .inl (tc 0, (400 : Int).toNat, .inl (fun _ => 0))), (q15, .inl (tc 0, (400 : Int).toNat, .inl (fun _ => 0))), (q16, .inl (tc 1, (4800 : Int).toNat, .inr (.inl (fun _ => 0)))), (q17, .inl (tc 2, (400 : Int).toNat, .inl (fun _ => 0))), (q18, .inl (tc 0, (4 : Int).toNat, .inl (fun _ => 0))), (q19, .inl (tc 0, (80 : Int).toNat, .inl (fun _ => 0))), (q20, .inl (tc 0, (80 : Int).toNat, .inl (fun _ => 0))), (q21, .inl (tc 0, (80 : Int).toNat, .inl (fun _ => 0))), (q22, .inl (tc 0, (80 : Int).toNat, .inl (fun _ => 0))), (q23, .inl (tc 1, (80 : Int).toNat, .inr (.inl (fun _ => 0)))), (q24, .inl (tc 0, (5 : Int).toNat, .inl (fun _ => 0))), (q25, .inl (tc 0, (150 : Int).toNat, .inl (fun _ => 0))), (q26, .inl (tc 0, (150 : Int).toNat, .inl (fun _ => 0))), (q27, .inl (tc 0, (750 : Int).toNat, .inl (fun _ => 0))), (q28, .inl (tc 0, (750 : Int).toNat, .inl (fun _ => 0))), (q29, .inl (tc 1, (750 : Int).toNat, .inr (.inl (fun _ => 0)))), (q30, .inl (tc 0, (5 : Int).toNat, .inl (fun _ => 0))), (q31, .inl (tc 0, (750 : Int).toNat, .inl (fun _ => 0))), (q32, .inl (tc 0, (750 : Int).toNat, .inl (fun _ => 0))), (q33, .inl (tc 1, (9000 : Int).toNat, .inr (.inl (fun _ => 0)))), (q34, .inl (tc 0, (30 : Int).toNat, .inl (fun _ => 0))), (q35, .inl (tc 0, (150 : Int).toNat, .inl (fun _ => 0))), (q36, .inl (tc 0, (450 : Int).toNat, .inl (fun _ => 0))), (q37, .inl (tc 0, (30 : Int).toNat, .inl (fun _ => 0))), (q38, .inl (tc 0, (30 : Int).toNat, .inl (fun _ => 0)))]
noncomputable def G9_80 (tc : Nat → ClassId) (h0 q1 q2 q3 q4 q5 q6 q7 q8 q9 q10 q11 q12 q13 q14 q15 q16 q17 q18 q19 q20 q21 q22 q23 q24 q25 q26 q27 q28 q29 q30 q31 q32 q33 q34 q35 q36 q37 q38 q39 : Nat) : va_W := [(h0, .inr (9, F9_41 q1 q2 q3 q4 q5 q6 q7 q8 q9 q10 q11 q12 q13 q14 q15 q16 q17 q18 q19 q20 q21 q22 q23 q24 q25 q26 q27 q28 q29 q30 q31 q32 q33 q34 q35 q36 q37 q38)), (q1, .inl (tc 2, (16 : Int).toNat, .inl (fun _ => 0))), (q2, .inl (tc 0, (8 : Int).toNat, .inl (fun _ => 0))), (q3, .inl (tc 0, (40 : Int).toNat, .inl (fun _ => 0))), (q4, .inl (tc 0, (40 : Int).toNat, .inl (fun _ => 0))), (q5, .inl (tc 1, (40 : Int).toNat, .inr (.inl (fun _ => 0)))), (q6, .inl (tc 2, (40 : Int).toNat, .inl (fun _ => 0))), (q7, .inl (tc 0, (8 : Int).toNat, .inl (fun _ => 0))), (q8, .inl (tc 0, (32 : Int).toNat, .inl (fun _ => 0))), (q9, .inl (tc 0, (32 : Int).toNat, .inl (fun _ => 0))), (q10, .inl (tc 0, (32 : Int).toNat, .inl (fun _ => 0))), (q11, .inl (tc 1, (32 : Int).toNat, .inr (.inl (fun _ => 0)))), (q12, .inl (tc 0, (30 : Int).toNat, .inl (fun _ => 0))), (q13, .inl (tc 1, (150 : Int).toNat, .inr (.inl (fun _ => 0)))), (q14, .inl (tc 0, (400 : Int).toNat, .inl (fun _ => 0))), (q15, .inl (tc 0, (400 : Int).toNat, .inl (fun _ => 0))), (q16, .inl (tc 1, (4800 : Int).toNat, .inr (.inl (fun _ => 0)))), (q17, .inl (tc 2, (400 : Int).toNat, .inl (fun _ => 0))), (q18, .inl (tc 0, (4 : Int).toNat, .inl (fun _ => 0))), (q19, .inl (tc 0, (80 : Int).toNat, .inl (fun _ => 0))), (q20, .inl (tc 0, (80 : Int).toNat, .inl (fun _ => 0))), (q21, .inl (tc 0, (80 : Int).toNat, .inl (fun _ => 0))), (q22, .inl (tc 0, (80 : Int).toNat, .inl (fun _ => 0))), (q23, .inl (tc 1, (80 : Int).toNat, .inr (.inl (fun _ => 0)))), (q24, .inl (tc 0, (5 : Int).toNat, .inl (fun _ => 0))), (q25, .inl (tc 0, (150 : Int).toNat, .inl (fun _ => 0))), (q26, .inl (tc 0, (150 : Int).toNat, .inl (fun _ => 0))), (q27, .inl (tc 0, (750 : Int).toNat, .inl (fun _ => 0))), (q28, .inl (tc 0, (750 : Int).toNat, .inl (fun _ => 0))), (q29, .inl (tc 1, (750 : Int).toNat, .inr (.inl (fun _ => 0)))), (q30, .inl (tc 0, (5 : Int).toNat, .inl (fun _ => 0))), (q31, .inl (tc 0, (750 : Int).toNat, .inl (fun _ => 0))), (q32, .inl (tc 0, (750 : Int).toNat, .inl (fun _ => 0))), (q33, .inl (tc 1, (9000 : Int).toNat, .inr (.inl (fun _ => 0)))), (q34, .inl (tc 0, (30 : Int).toNat, .inl (fun _ => 0))), (q35, .inl (tc 0, (150 : Int).toNat, .inl (fun _ => 0))), (q36, .inl (tc 0, (450 : Int).toNat, .inl (fun _ => 0))), (q37, .inl (tc 0, (30 : Int).toNat, .inl (fun _ => 0))), (q38, .inl (tc 0, (30 : Int).toNat, .inl (fun _ => 0))), (q39, .inl (tc 0, (400 : Int).toNat, .inl (fun _ => 0)))]
noncomputable def F9_42 (q1 q2 q3 q4 q5 q6 q7 q8 q9 q10 q11 q12 q13 q14 q15 q16 q17 q18 q19 q20 q21 q22 q23 q24 q25 q26 q27 q28 q29 q30 q31 q32 q33 q34 q35 q36 q37 q38 q39 : Nat) : List Value := [.int 0, .ref q1, .int 0, .ref q2, .ref q3, .ref q4, .ref q5, .ref q6, .ref q7, .ref q8, .ref q9, .ref q10, .ref q11, .int 0, .ref q12, .ref q13, .ref q14, .ref q15, .ref q16, .ref q17, .int 0, .ref q18, .int 0, .ref q19, .ref q20, .ref q21, .ref q22, .ref q23, .int 0, .ref q24, .ref q25, .ref q26, .ref q27, .ref q28, .ref q29, .ref q30, .ref q31, .ref q32, .ref q33, .ref q34, .ref q35, .int (jI (-9)), .int (jI (-9)), .int (jI (-9)), .ref q36, .ref q37, .ref q38, .ref q39, .null, .null, .int 0]
noncomputable def G9_81 (tc : Nat → ClassId) (h0 q1 q2 q3 q4 q5 q6 q7 q8 q9 q10 q11 q12 q13 q14 q15 q16 q17 q18 q19 q20 q21 q22 q23 q24 q25 q26 q27 q28 q29 q30 q31 q32 q33 q34 q35 q36 q37 q38 q39 : Nat) : va_W := [(h0, .inr (9, F9_42 q1 q2 q3 q4 q5 q6 q7 q8 q9 q10 q11 q12 q13 q14 q15 q16 q17 q18 q19 q20 q21 q22 q23 q24 q25 q26 q27 q28 q29 q30 q31 q32 q33 q34 q35 q36 q37 q38 q39)), (q1, .inl (tc 2, (16 : Int).toNat, .inl (fun _ => 0))), (q2, .inl (tc 0, (8 : Int).toNat, .inl (fun _ => 0))), (q3, .inl (tc 0, (40 : Int).toNat, .inl (fun _ => 0))), (q4, .inl (tc 0, (40 : Int).toNat, .inl (fun _ => 0))), (q5, .inl (tc 1, (40 : Int).toNat, .inr (.inl (fun _ => 0)))), (q6, .inl (tc 2, (40 : Int).toNat, .inl (fun _ => 0))), (q7, .inl (tc 0, (8 : Int).toNat, .inl (fun _ => 0))), (q8, .inl (tc 0, (32 : Int).toNat, .inl (fun _ => 0))), (q9, .inl (tc 0, (32 : Int).toNat, .inl (fun _ => 0))), (q10, .inl (tc 0, (32 : Int).toNat, .inl (fun _ => 0))), (q11, .inl (tc 1, (32 : Int).toNat, .inr (.inl (fun _ => 0)))), (q12, .inl (tc 0, (30 : Int).toNat, .inl (fun _ => 0))), (q13, .inl (tc 1, (150 : Int).toNat, .inr (.inl (fun _ => 0)))), (q14, .inl (tc 0, (400 : Int).toNat, .inl (fun _ => 0))), (q15, .inl (tc 0, (400 : Int).toNat, .inl (fun _ => 0))), (q16, .inl (tc 1, (4800 : Int).toNat, .inr (.inl (fun _ => 0)))), (q17, .inl (tc 2, (400 : Int).toNat, .inl (fun _ => 0))), (q18, .inl (tc 0, (4 : Int).toNat, .inl (fun _ => 0))), (q19, .inl (tc 0, (80 : Int).toNat, .inl (fun _ => 0))), (q20, .inl (tc 0, (80 : Int).toNat, .inl (fun _ => 0))), (q21, .inl (tc 0, (80 : Int).toNat, .inl (fun _ => 0))), (q22, .inl (tc 0, (80 : Int).toNat, .inl (fun _ => 0))), (q23, .inl (tc 1, (80 : Int).toNat, .inr (.inl (fun _ => 0)))), (q24, .inl (tc 0, (5 : Int).toNat, .inl (fun _ => 0))), (q25, .inl (tc 0, (150 : Int).toNat, .inl (fun _ => 0))), (q26, .inl (tc 0, (150 : Int).toNat, .inl (fun _ => 0))), (q27, .inl (tc 0, (750 : Int).toNat, .inl (fun _ => 0))), (q28, .inl (tc 0, (750 : Int).toNat, .inl (fun _ => 0))), (q29, .inl (tc 1, (750 : Int).toNat, .inr (.inl (fun _ => 0)))), (q30, .inl (tc 0, (5 : Int).toNat, .inl (fun _ => 0))), (q31, .inl (tc 0, (750 : Int).toNat, .inl (fun _ => 0))), (q32, .inl (tc 0, (750 : Int).toNat, .inl (fun _ => 0))), (q33, .inl (tc 1, (9000 : Int).toNat, .inr (.inl (fun _ => 0)))), (q34, .inl (tc 0, (30 : Int).toNat, .inl (fun _ => 0))), (q35, .inl (tc 0, (150 : Int).toNat, .inl (fun _ => 0))), (q36, .inl (tc 0, (450 : Int).toNat, .inl (fun _ => 0))), (q37, .inl (tc 0, (30 : Int).toNat, .inl (fun _ => 0))), (q38, .inl (tc 0, (30 : Int).toNat, .inl (fun _ => 0))), (q39, .inl (tc 0, (400 : Int).toNat, .inl (fun _ => 0)))]
noncomputable def G9_82 (tc : Nat → ClassId) (h0 q1 q2 q3 q4 q5 q6 q7 q8 q9 q10 q11 q12 q13 q14 q15 q16 q17 q18 q19 q20 q21 q22 q23 q24 q25 q26 q27 q28 q29 q30 q31 q32 q33 q34 q35 q36 q37 q38 q39 q40 : Nat) : va_W := [(h0, .inr (9, F9_42 q1 q2 q3 q4 q5 q6 q7 q8 q9 q10 q11 q12 q13 q14 q15 q16 q17 q18 q19 q20 q21 q22 q23 q24 q25 q26 q27 q28 q29 q30 q31 q32 q33 q34 q35 q36 q37 q38 q39)), (q1, .inl (tc 2, (16 : Int).toNat, .inl (fun _ => 0))), (q2, .inl (tc 0, (8 : Int).toNat, .inl (fun _ => 0))), (q3, .inl (tc 0, (40 : Int).toNat, .inl (fun _ => 0))), (q4, .inl (tc 0, (40 : Int).toNat, .inl (fun _ => 0))), (q5, .inl (tc 1, (40 : Int).toNat, .inr (.inl (fun _ => 0)))), (q6, .inl (tc 2, (40 : Int).toNat, .inl (fun _ => 0))), (q7, .inl (tc 0, (8 : Int).toNat, .inl (fun _ => 0))), (q8, .inl (tc 0, (32 : Int).toNat, .inl (fun _ => 0))), (q9, .inl (tc 0, (32 : Int).toNat, .inl (fun _ => 0))), (q10, .inl (tc 0, (32 : Int).toNat, .inl (fun _ => 0))), (q11, .inl (tc 1, (32 : Int).toNat, .inr (.inl (fun _ => 0)))), (q12, .inl (tc 0, (30 : Int).toNat, .inl (fun _ => 0))), (q13, .inl (tc 1, (150 : Int).toNat, .inr (.inl (fun _ => 0)))), (q14, .inl (tc 0, (400 : Int).toNat, .inl (fun _ => 0))), (q15, .inl (tc 0, (400 : Int).toNat, .inl (fun _ => 0))), (q16, .inl (tc 1, (4800 : Int).toNat, .inr (.inl (fun _ => 0)))), (q17, .inl (tc 2, (400 : Int).toNat, .inl (fun _ => 0))), (q18, .inl (tc 0, (4 : Int).toNat, .inl (fun _ => 0))), (q19, .inl (tc 0, (80 : Int).toNat, .inl (fun _ => 0))), (q20, .inl (tc 0, (80 : Int).toNat, .inl (fun _ => 0))), (q21, .inl (tc 0, (80 : Int).toNat, .inl (fun _ => 0))), (q22, .inl (tc 0, (80 : Int).toNat, .inl (fun _ => 0))), (q23, .inl (tc 1, (80 : Int).toNat, .inr (.inl (fun _ => 0)))), (q24, .inl (tc 0, (5 : Int).toNat, .inl (fun _ => 0))), (q25, .inl (tc 0, (150 : Int).toNat, .inl (fun _ => 0))), (q26, .inl (tc 0, (150 : Int).toNat, .inl (fun _ => 0))), (q27, .inl (tc 0, (750 : Int).toNat, .inl (fun _ => 0))), (q28, .inl (tc 0, (750 : Int).toNat, .inl (fun _ => 0))), (q29, .inl (tc 1, (750 : Int).toNat, .inr (.inl (fun _ => 0)))), (q30, .inl (tc 0, (5 : Int).toNat, .inl (fun _ => 0))), (q31, .inl (tc 0, (750 : Int).toNat, .inl (fun _ => 0))), (q32, .inl (tc 0, (750 : Int).toNat, .inl (fun _ => 0))), (q33, .inl (tc 1, (9000 : Int).toNat, .inr (.inl (fun _ => 0)))), (q34, .inl (tc 0, (30 : Int).toNat, .inl (fun _ => 0))), (q35, .inl (tc 0, (150 : Int).toNat, .inl (fun _ => 0))), (q36, .inl (tc 0, (450 : Int).toNat, .inl (fun _ => 0))), (q37, .inl (tc 0, (30 : Int).toNat, .inl (fun _ => 0))), (q38, .inl (tc 0, (30 : Int).toNat, .inl (fun _ => 0))), (q39, .inl (tc 0, (400 : Int).toNat, .inl (fun _ => 0))), (q40, .inl (tc 0, (400 : Int).toNat, .inl (fun _ => 0)))]
noncomputable def F9_43 (q1 q2 q3 q4 q5 q6 q7 q8 q9 q10 q11 q12 q13 q14 q15 q16 q17 q18 q19 q20 q21 q22 q23 q24 q25 q26 q27 q28 q29 q30 q31 q32 q33 q34 q35 q36 q37 q38 q39 q40 : Nat) : List Value := [.int 0, .ref q1, .int 0, .ref q2, .ref q3, .ref q4, .ref q5, .ref q6, .ref q7, .ref q8, .ref q9, .ref q10, .ref q11, .int 0, .ref q12, .ref q13, .ref q14, .ref q15, .ref q16, .ref q17, .int 0, .ref q18, .int 0, .ref q19, .ref q20, .ref q21, .ref q22, .ref q23, .int 0, .ref q24, .ref q25, .ref q26, .ref q27, .ref q28, .ref q29, .ref q30, .ref q31, .ref q32, .ref q33, .ref q34, .ref q35, .int (jI (-9)), .int (jI (-9)), .int (jI (-9)), .ref q36, .ref q37, .ref q38, .ref q39, .ref q40, .null, .int 0]
noncomputable def G9_83 (tc : Nat → ClassId) (h0 q1 q2 q3 q4 q5 q6 q7 q8 q9 q10 q11 q12 q13 q14 q15 q16 q17 q18 q19 q20 q21 q22 q23 q24 q25 q26 q27 q28 q29 q30 q31 q32 q33 q34 q35 q36 q37 q38 q39 q40 : Nat) : va_W := [(h0, .inr (9, F9_43 q1 q2 q3 q4 q5 q6 q7 q8 q9 q10 q11 q12 q13 q14 q15 q16 q17 q18 q19 q20 q21 q22 q23 q24 q25 q26 q27 q28 q29 q30 q31 q32 q33 q34 q35 q36 q37 q38 q39 q40)), (q1, .inl (tc 2, (16 : Int).toNat, .inl (fun _ => 0))), (q2, .inl (tc 0, (8 : Int).toNat, .inl (fun _ => 0))), (q3, .inl (tc 0, (40 : Int).toNat, .inl (fun _ => 0))), (q4, .inl (tc 0, (40 : Int).toNat, .inl (fun _ => 0))), (q5, .inl (tc 1, (40 : Int).toNat, .inr (.inl (fun _ => 0)))), (q6, .inl (tc 2, (40 : Int).toNat, .inl (fun _ => 0))), (q7, .inl (tc 0, (8 : Int).toNat, .inl (fun _ => 0))), (q8, .inl (tc 0, (32 : Int).toNat, .inl (fun _ => 0))), (q9, .inl (tc 0, (32 : Int).toNat, .inl (fun _ => 0))), (q10, .inl (tc 0, (32 : Int).toNat, .inl (fun _ => 0))), (q11, .inl (tc 1, (32 : Int).toNat, .inr (.inl (fun _ => 0)))), (q12, .inl (tc 0, (30 : Int).toNat, .inl (fun _ => 0))), (q13, .inl (tc 1, (150 : Int).toNat, .inr (.inl (fun _ => 0)))), (q14, .inl (tc 0, (400 : Int).toNat, .inl (fun _ => 0))), (q15, .inl (tc 0, (400 : Int).toNat, .inl (fun _ => 0))), (q16, .inl (tc 1, (4800 : Int).toNat, .inr (.inl (fun _ => 0)))), (q17, .inl (tc 2, (400 : Int).toNat, .inl (fun _ => 0))), (q18, .inl (tc 0, (4 : Int).toNat, .inl (fun _ => 0))), (q19, .inl (tc 0, (80 : Int).toNat, .inl (fun _ => 0))), (q20, .inl (tc 0, (80 : Int).toNat, .inl (fun _ => 0))), (q21, .inl (tc 0, (80 : Int).toNat, .inl (fun _ => 0))), (q22, .inl (tc 0, (80 : Int).toNat, .inl (fun _ => 0))), (q23, .inl (tc 1, (80 : Int).toNat, .inr (.inl (fun _ => 0)))), (q24, .inl (tc 0, (5 : Int).toNat, .inl (fun _ => 0))), (q25, .inl (tc 0, (150 : Int).toNat, .inl (fun _ => 0))), (q26, .inl (tc 0, (150 : Int).toNat, .inl (fun _ => 0))), (q27, .inl (tc 0, (750 : Int).toNat, .inl (fun _ => 0))), (q28, .inl (tc 0, (750 : Int).toNat, .inl (fun _ => 0))), (q29, .inl (tc 1, (750 : Int).toNat, .inr (.inl (fun _ => 0)))), (q30, .inl (tc 0, (5 : Int).toNat, .inl (fun _ => 0))), (q31, .inl (tc 0, (750 : Int).toNat, .inl (fun _ => 0))), (q32, .inl (tc 0, (750 : Int).toNat, .inl (fun _ => 0))), (q33, .inl (tc 1, (9000 : Int).toNat, .inr (.inl (fun _ => 0)))), (q34, .inl (tc 0, (30 : Int).toNat, .inl (fun _ => 0))), (q35, .inl (tc 0, (150 : Int).toNat, .inl (fun _ => 0))), (q36, .inl (tc 0, (450 : Int).toNat, .inl (fun _ => 0))), (q37, .inl (tc 0, (30 : Int).toNat, .inl (fun _ => 0))), (q38, .inl (tc 0, (30 : Int).toNat, .inl (fun _ => 0))), (q39, .inl (tc 0, (400 : Int).toNat, .inl (fun _ => 0))), (q40, .inl (tc 0, (400 : Int).toNat, .inl (fun _ => 0)))]
noncomputable def G9_84 (tc : Nat → ClassId) (h0 q1 q2 q3 q4 q5 q6 q7 q8 q9 q10 q11 q12 q13 q14 q15 q16 q17 q18 q19 q20 q21 q22 q23 q24 q25 q26 q27 q28 q29 q30 q31 q32 q33 q34 q35 q36 q37 q38 q39 q40 q41 : Nat) : va_W := [(h0, .inr (9, F9_43 q1 q2 q3 q4 q5 q6 q7 q8 q9 q10 q11 q12 q13 q14 q15 q16 q17 q18 q19 q20 q21 q22 q23 q24 q25 q26 q27 q28 q29 q30 q31 q32 q33 q34 q35 q36 q37 q38 q39 q40)), (q1, .inl (tc 2, (16 : Int).toNat, .inl (fun _ => 0))), (q2, .inl (tc 0, (8 : Int).toNat, .inl (fun _ => 0))), (q3, .inl (tc 0, (40 : Int).toNat, .inl (fun _ => 0))), (q4, .inl (tc 0, (40 : Int).toNat, .inl (fun _ => 0))), (q5, .inl (tc 1, (40 : Int).toNat, .inr (.inl (fun _ => 0)))), (q6, .inl (tc 2, (40 : Int).toNat, .inl (fun _ => 0))), (q7, .inl (tc 0, (8 : Int).toNat, .inl (fun _ => 0))), (q8, .inl (tc 0, (32 : Int).toNat, .inl (fun _ => 0))), (q9, .inl (tc 0, (32 : Int).toNat, .inl (fun _ => 0))), (q10, .inl (tc 0, (32 : Int).toNat, .inl (fun _ => 0))), (q11, .inl (tc 1, (32 : Int).toNat, .inr (.inl (fun _ => 0)))), (q12, .inl (tc 0, (30 : Int).toNat, .inl (fun _ => 0))), (q13, .inl (tc 1, (150 : Int).toNat, .inr (.inl (fun _ => 0)))), (q14, .inl (tc 0, (400 : Int).toNat, .inl (fun _ => 0))), (q15, .inl (tc 0, (400 : Int).toNat, .inl (fun _ => 0))), (q16, .inl (tc 1, (4800 : Int).toNat, .inr (.inl (fun _ => 0)))), (q17, .inl (tc 2, (400 : Int).toNat, .inl (fun _ => 0))), (q18, .inl (tc 0, (4 : Int).toNat, .inl (fun _ => 0))), (q19, .inl (tc 0, (80 : Int).toNat, .inl (fun _ => 0))), (q20, .inl (tc 0, (80 : Int).toNat, .inl (fun _ => 0))), (q21, .inl (tc 0, (80 : Int).toNat, .inl (fun _ => 0))), (q22, .inl (tc 0, (80 : Int).toNat, .inl (fun _ => 0))), (q23, .inl (tc 1, (80 : Int).toNat, .inr (.inl (fun _ => 0)))), (q24, .inl (tc 0, (5 : Int).toNat, .inl (fun _ => 0))), (q25, .inl (tc 0, (150 : Int).toNat, .inl (fun _ => 0))), (q26, .inl (tc 0, (150 : Int).toNat, .inl (fun _ => 0))), (q27, .inl (tc 0, (750 : Int).toNat, .inl (fun _ => 0))), (q28, .inl (tc 0, (750 : Int).toNat, .inl (fun _ => 0))), (q29, .inl (tc 1, (750 : Int).toNat, .inr (.inl (fun _ => 0)))), (q30, .inl (tc 0, (5 : Int).toNat, .inl (fun _ => 0))), (q31, .inl (tc 0, (750 : Int).toNat, .inl (fun _ => 0))), (q32, .inl (tc 0, (750 : Int).toNat, .inl (fun _ => 0))), (q33, .inl (tc 1, (9000 : Int).toNat, .inr (.inl (fun _ => 0)))), (q34, .inl (tc 0, (30 : Int).toNat, .inl (fun _ => 0))), (q35, .inl (tc 0, (150 : Int).toNat, .inl (fun _ => 0))), (q36, .inl (tc 0, (450 : Int).toNat, .inl (fun _ => 0))), (q37, .inl (tc 0, (30 : Int).toNat, .inl (fun _ => 0))), (q38, .inl (tc 0, (30 : Int).toNat, .inl (fun _ => 0))), (q39, .inl (tc 0, (400 : Int).toNat, .inl (fun _ => 0))), (q40, .inl (tc 0, (400 : Int).toNat, .inl (fun _ => 0))), (q41, .inl (tc 0, (30 : Int).toNat, .inl (fun _ => 0)))]
noncomputable def F9_44 (q1 q2 q3 q4 q5 q6 q7 q8 q9 q10 q11 q12 q13 q14 q15 q16 q17 q18 q19 q20 q21 q22 q23 q24 q25 q26 q27 q28 q29 q30 q31 q32 q33 q34 q35 q36 q37 q38 q39 q40 q41 : Nat) : List Value := [.int 0, .ref q1, .int 0, .ref q2, .ref q3, .ref q4, .ref q5, .ref q6, .ref q7, .ref q8, .ref q9, .ref q10, .ref q11, .int 0, .ref q12, .ref q13, .ref q14, .ref q15, .ref q16, .ref q17, .int 0, .ref q18, .int 0, .ref q19, .ref q20, .ref q21, .ref q22, .ref q23, .int 0, .ref q24, .ref q25, .ref q26, .ref q27, .ref q28, .ref q29, .ref q30, .ref q31, .ref q32, .ref q33, .ref q34, .ref q35, .int (jI (-9)), .int (jI (-9)), .int (jI (-9)), .ref q36, .ref q37, .ref q38, .ref q39, .ref q40, .ref q41, .int 0]
noncomputable def G9_85 (tc : Nat → ClassId) (h0 q1 q2 q3 q4 q5 q6 q7 q8 q9 q10 q11 q12 q13 q14 q15 q16 q17 q18 q19 q20 q21 q22 q23 q24 q25 q26 q27 q28 q29 q30 q31 q32 q33 q34 q35 q36 q37 q38 q39 q40 q41 : Nat) : va_W := [(h0, .inr (9, F9_44 q1 q2 q3 q4 q5 q6 q7 q8 q9 q10 q11 q12 q13 q14 q15 q16 q17 q18 q19 q20 q21 q22 q23 q24 q25 q26 q27 q28 q29 q30 q31 q32 q33 q34 q35 q36 q37 q38 q39 q40 q41)), (q1, .inl (tc 2, (16 : Int).toNat, .inl (fun _ => 0))), (q2, .inl (tc 0, (8 : Int).toNat, .inl (fun _ => 0))), (q3, .inl (tc 0, (40 : Int).toNat, .inl (fun _ => 0))), (q4, .inl (tc 0, (40 : Int).toNat, .inl (fun _ => 0))), (q5, .inl (tc 1, (40 : Int).toNat, .inr (.inl (fun _ => 0)))), (q6, .inl (tc 2, (40 : Int).toNat, .inl (fun _ => 0))), (q7, .inl (tc 0, (8 : Int).toNat, .inl (fun _ => 0))), (q8, .inl (tc 0, (32 : Int).toNat, .inl (fun _ => 0))), (q9, .inl (tc 0, (32 : Int).toNat, .inl (fun _ => 0))), (q10, .inl (tc 0, (32 : Int).toNat, .inl (fun _ => 0))), (q11, .inl (tc 1, (32 : Int).toNat, .inr (.inl (fun _ => 0)))), (q12, .inl (tc 0, (30 : Int).toNat, .inl (fun _ => 0))), (q13, .inl (tc 1, (150 : Int).toNat, .inr (.inl (fun _ => 0)))), (q14, .inl (tc 0, (400 : Int).toNat, .inl (fun _ => 0))), (q15, .inl (tc 0, (400 : Int).toNat, .inl (fun _ => 0))), (q16, .inl (tc 1, (4800 : Int).toNat, .inr (.inl (fun _ => 0)))), (q17, .inl (tc 2, (400 : Int).toNat, .inl (fun _ => 0))), (q18, .inl (tc 0, (4 : Int).toNat, .inl (fun _ => 0))), (q19, .inl (tc 0, (80 : Int).toNat, .inl (fun _ => 0))), (q20, .inl (tc 0, (80 : Int).toNat, .inl (fun _ => 0))), (q21, .inl (tc 0, (80 : Int).toNat, .inl (fun _ => 0))), (q22, .inl (tc 0, (80 : Int).toNat, .inl (fun _ => 0))), (q23, .inl (tc 1, (80 : Int).toNat, .inr (.inl (fun _ => 0)))), (q24, .inl (tc 0, (5 : Int).toNat, .inl (fun _ => 0))), (q25, .inl (tc 0, (150 : Int).toNat, .inl (fun _ => 0))), (q26, .inl (tc 0, (150 : Int).toNat, .inl (fun _ => 0))), (q27, .inl (tc 0, (750 : Int).toNat, .inl (fun _ => 0))), (q28, .inl (tc 0, (750 : Int).toNat, .inl (fun _ => 0))), (q29, .inl (tc 1, (750 : Int).toNat, .inr (.inl (fun _ => 0)))), (q30, .inl (tc 0, (5 : Int).toNat, .inl (fun _ => 0))), (q31, .inl (tc 0, (750 : Int).toNat, .inl (fun _ => 0))), (q32, .inl (tc 0, (750 : Int).toNat, .inl (fun _ => 0))), (q33, .inl (tc 1, (9000 : Int).toNat, .inr (.inl (fun _ => 0)))), (q34, .inl (tc 0, (30 : Int).toNat, .inl (fun _ => 0))), (q35, .inl (tc 0, (150 : Int).toNat, .inl (fun _ => 0))), (q36, .inl (tc 0, (450 : Int).toNat, .inl (fun _ => 0))), (q37, .inl (tc 0, (30 : Int).toNat, .inl (fun _ => 0))), (q38, .inl (tc 0, (30 : Int).toNat, .inl (fun _ => 0))), (q39, .inl (tc 0, (400 : Int).toNat, .inl (fun _ => 0))), (q40, .inl (tc 0, (400 : Int).toNat, .inl (fun _ => 0))), (q41, .inl (tc 0, (30 : Int).toNat, .inl (fun _ => 0)))]
set_option maxHeartbeats 4000000 in
set_option maxRecDepth 100000 in
theorem c_X9_init (l : Launch) (D : va_G) (tc : Nat → ClassId) (base : Nat) (u : St) (E : va_W) (h0 : Nat)  : KC l D tc base yX9_init wsX9_init ({ frames := 1, cells := 41, slots := 21484, locals := 12 } : Room) [.ref h0] u (E ++ ([(h0, .inr (9, [.int 0, .null, .int 0, .null, .null, .null, .null, .null, .null, .null, .null, .null, .null, .int 0, .null, .null, .null, .null, .null, .null, .int 0, .null, .int 0, .null, .null, .null, .null, .null, .int 0, .null, .null, .null, .null, .null, .null, .null, .null, .null, .null, .null, .null, .int 0, .int 0, .int 0, .null, .null, .null, .null, .null, .null, .int 0]))] : va_W)) 41 21484 (fun u' E' => u' = u ∧ ∃ q1 : Nat, ∃ q2 : Nat, ∃ q3 : Nat, ∃ q4 : Nat, ∃ q5 : Nat, ∃ q6 : Nat, ∃ q7 : Nat, ∃ q8 : Nat, ∃ q9 : Nat, ∃ q10 : Nat, ∃ q11 : Nat, ∃ q12 : Nat, ∃ q13 : Nat, ∃ q14 : Nat, ∃ q15 : Nat, ∃ q16 : Nat, ∃ q17 : Nat, ∃ q18 : Nat, ∃ q19 : Nat, ∃ q20 : Nat, ∃ q21 : Nat, ∃ q22 : Nat, ∃ q23 : Nat, ∃ q24 : Nat, ∃ q25 : Nat, ∃ q26 : Nat, ∃ q27 : Nat, ∃ q28 : Nat, ∃ q29 : Nat, ∃ q30 : Nat, ∃ q31 : Nat, ∃ q32 : Nat, ∃ q33 : Nat, ∃ q34 : Nat, ∃ q35 : Nat, ∃ q36 : Nat, ∃ q37 : Nat, ∃ q38 : Nat, ∃ q39 : Nat, ∃ q40 : Nat, ∃ q41 : Nat, E' = E ++ ([(h0, .inr (9, [.int 0, .ref q1, .int 0, .ref q2, .ref q3, .ref q4, .ref q5, .ref q6, .ref q7, .ref q8, .ref q9, .ref q10, .ref q11, .int 0, .ref q12, .ref q13, .ref q14, .ref q15, .ref q16, .ref q17, .int 0, .ref q18, .int 0, .ref q19, .ref q20, .ref q21, .ref q22, .ref q23, .int 0, .ref q24, .ref q25, .ref q26, .ref q27, .ref q28, .ref q29, .ref q30, .ref q31, .ref q32, .ref q33, .ref q34, .ref q35, .int (jI (-9)), .int (jI (-9)), .int (jI (-9)), .ref q36, .ref q37, .ref q38, .ref q39, .ref q40, .ref q41, .int 0])), (q1, .inl (tc 2, (16 : Int).toNat, .inl (fun _ => 0))), (q2, .inl (tc 0, (8 : Int).toNat, .inl (fun _ => 0))), (q3, .inl (tc 0, (40 : Int).toNat, .inl (fun _ => 0))), (q4, .inl (tc 0, (40 : Int).toNat, .inl (fun _ => 0))), (q5, .inl (tc 1, (40 : Int).toNat, .inr (.inl (fun _ => 0)))), (q6, .inl (tc 2, (40 : Int).toNat, .inl (fun _ => 0))), (q7, .inl (tc 0, (8 : Int).toNat, .inl (fun _ => 0))), (q8, .inl (tc 0, (32 : Int).toNat, .inl (fun _ => 0))), (q9, .inl (tc 0, (32 : Int).toNat, .inl (fun _ => 0))), (q10, .inl (tc 0, (32 : Int).toNat, .inl (fun _ => 0))), (q11, .inl (tc 1, (32 : Int).toNat, .inr (.inl (fun _ => 0)))), (q12, .inl (tc 0, (30 : Int).toNat, .inl (fun _ => 0))), (q13, .inl (tc 1, (150 : Int).toNat, .inr (.inl (fun _ => 0)))), (q14, .inl (tc 0, (400 : Int).toNat, .inl (fun _ => 0))), (q15, .inl (tc 0, (400 : Int).toNat, .inl (fun _ => 0))), (q16, .inl (tc 1, (4800 : Int).toNat, .inr (.inl (fun _ => 0)))), (q17, .inl (tc 2, (400 : Int).toNat, .inl (fun _ => 0))), (q18, .inl (tc 0, (4 : Int).toNat, .inl (fun _ => 0))), (q19, .inl (tc 0, (80 : Int).toNat, .inl (fun _ => 0))), (q20, .inl (tc 0, (80 : Int).toNat, .inl (fun _ => 0))), (q21, .inl (tc 0, (80 : Int).toNat, .inl (fun _ => 0))), (q22, .inl (tc 0, (80 : Int).toNat, .inl (fun _ => 0))), (q23, .inl (tc 1, (80 : Int).toNat, .inr (.inl (fun _ => 0)))), (q24, .inl (tc 0, (5 : Int).toNat, .inl (fun _ => 0))), (q25, .inl (tc 0, (150 : Int).toNat, .inl (fun _ => 0))), (q26, .inl (tc 0, (150 : Int).toNat, .inl (fun _ => 0))), (q27, .inl (tc 0, (750 : Int).toNat, .inl (fun _ => 0))), (q28, .inl (tc 0, (750 : Int).toNat, .inl (fun _ => 0))), (q29, .inl (tc 1, (750 : Int).toNat, .inr (.inl (fun _ => 0)))), (q30, .inl (tc 0, (5 : Int).toNat, .inl (fun _ => 0))), (q31, .inl (tc 0, (750 : Int).toNat, .inl (fun _ => 0))), (q32, .inl (tc 0, (750 : Int).toNat, .inl (fun _ => 0))), (q33, .inl (tc 1, (9000 : Int).toNat, .inr (.inl (fun _ => 0)))), (q34, .inl (tc 0, (30 : Int).toNat, .inl (fun _ => 0))), (q35, .inl (tc 0, (150 : Int).toNat, .inl (fun _ => 0))), (q36, .inl (tc 0, (450 : Int).toNat, .inl (fun _ => 0))), (q37, .inl (tc 0, (30 : Int).toNat, .inl (fun _ => 0))), (q38, .inl (tc 0, (30 : Int).toNat, .inl (fun _ => 0))), (q39, .inl (tc 0, (400 : Int).toNat, .inl (fun _ => 0))), (q40, .inl (tc 0, (400 : Int).toNat, .inl (fun _ => 0))), (q41, .inl (tc 0, (30 : Int).toNat, .inl (fun _ => 0)))] : va_W)) := by
  refine KC_of (cc := cX9_init) (maxL := 1) (ret := none) (by decide) rfl (Nat.le_of_ble_eq_true rfl) ?_
  intro p e s m below meth c ls hx hb hr hml hown hts hlocks hnm hl hK hw hS
  have hnm : meth.name = "<init>" := hnm
  have hown : s.vm.findClass RX9 = some m.cls := hown
  have hbs : base ≤ s.heap.size := hw.2.2
  have hi9 : ∀ w ∈ wsX90, w ∈ wsX9_init := fun w h => List.mem_cons_of_mem _ (List.mem_append_right _ h)
  have hf9 : fctx s m _ RX9 wsX9_init D tc RX9 TX9 51 9 := ⟨hts, hi9, hown, hK.1, rfl⟩
  have lk7 := hts (.fieldLink RX9 7 (TX9 1).1 (TX9 1).2.1 (TX9 1).2.2.1) (gj_X9_init_0 _ (gp_4 gp_h))
  have lk13 := hts (.fieldLink RX9 13 (TX9 3).1 (TX9 3).2.1 (TX9 3).2.2.1) (gj_X9_init_0 _ (gp_4 (gp_1 (gp_1 gp_h))))
  have lk17 := hts (.fieldLink RX9 17 (TX9 4).1 (TX9 4).2.1 (TX9 4).2.2.1) (gj_X9_init_0 _ (gp_4 (gp_1 (gp_1 (gp_1 gp_h)))))
  have lk20 := hts (.fieldLink RX9 20 (TX9 5).1 (TX9 5).2.1 (TX9 5).2.2.1) (gj_X9_init_0 _ (gp_4 (gp_4 gp_h)))
  have lk23 := hts (.fieldLink RX9 23 (TX9 6).1 (TX9 6).2.1 (TX9 6).2.2.1) (gj_X9_init_0 _ (gp_4 (gp_4 (gp_1 (gp_1 gp_h)))))
  have lk27 := hts (.fieldLink RX9 27 (TX9 7).1 (TX9 7).2.1 (TX9 7).2.2.1) (gj_X9_init_0 _ (gp_4 (gp_4 (gp_1 (gp_1 (gp_1 gp_h))))))
  have lk30 := hts (.fieldLink RX9 30 (TX9 8).1 (TX9 8).2.1 (TX9 8).2.2.1) (gj_X9_init_0 _ (gp_4 (gp_4 (gp_4 gp_h))))
  have lk33 := hts (.fieldLink RX9 33 (TX9 9).1 (TX9 9).2.1 (TX9 9).2.2.1) (gj_X9_init_0 _ (gp_4 (gp_4 (gp_4 (gp_1 gp_h)))))
  have lk36 := hts (.fieldLink RX9 36 (TX9 10).1 (TX9 10).2.1 (TX9 10).2.2.1) (gj_X9_init_0 _ (gp_4 (gp_4 (gp_4 (gp_1 (gp_1 gp_h))))))
  have lk39 := hts (.fieldLink RX9 39 (TX9 11).1 (TX9 11).2.1 (TX9 11).2.2.1) (gj_X9_init_0 _ (gp_4 (gp_4 (gp_4 (gp_1 (gp_1 (gp_1 gp_h)))))))
  have lk42 := hts (.fieldLink RX9 42 (TX9 12).1 (TX9 12).2.1 (TX9 12).2.2.1) (gj_X9_init_0 _ (gp_16 gp_h))
  have lk45 := hts (.fieldLink RX9 45 (TX9 14).1 (TX9 14).2.1 (TX9 14).2.2.1) (gj_X9_init_0 _ (gp_16 (gp_1 gp_h)))
  have lk48 := hts (.fieldLink RX9 48 (TX9 15).1 (TX9 15).2.1 (TX9 15).2.2.1) (gj_X9_init_0 _ (gp_16 (gp_1 (gp_1 gp_h))))
  have lk51 := hts (.fieldLink RX9 51 (TX9 16).1 (TX9 16).2.1 (TX9 16).2.2.1) (gj_X9_init_0 _ (gp_16 (gp_1 (gp_1 (gp_1 gp_h)))))
  have lk54 := hts (.fieldLink RX9 54 (TX9 17).1 (TX9 17).2.1 (TX9 17).2.2.1) (gj_X9_init_0 _ (gp_16 (gp_4 gp_h)))
  have lk57 := hts (.fieldLink RX9 57 (TX9 18).1 (TX9 18).2.1 (TX9 18).2.2.1) (gj_X9_init_0 _ (gp_16 (gp_4 (gp_1 gp_h))))
  have lk60 := hts (.fieldLink RX9 60 (TX9 19).1 (TX9 19).2.1 (TX9 19).2.2.1) (gj_X9_init_0 _ (gp_16 (gp_4 (gp_1 (gp_1 gp_h)))))
  have lk63 := hts (.fieldLink RX9 63 (TX9 21).1 (TX9 21).2.1 (TX9 21).2.2.1) (gj_X9_init_0 _ (gp_16 (gp_4 (gp_1 (gp_1 (gp_1 gp_h))))))
  have lk66 := hts (.fieldLink RX9 66 (TX9 23).1 (TX9 23).2.1 (TX9 23).2.2.1) (gj_X9_init_1 _ (gp_h))
  have lk69 := hts (.fieldLink RX9 69 (TX9 24).1 (TX9 24).2.1 (TX9 24).2.2.1) (gj_X9_init_1 _ (gp_1 gp_h))
  have lk72 := hts (.fieldLink RX9 72 (TX9 25).1 (TX9 25).2.1 (TX9 25).2.2.1) (gj_X9_init_1 _ (gp_1 (gp_1 gp_h)))
  have lk75 := hts (.fieldLink RX9 75 (TX9 26).1 (TX9 26).2.1 (TX9 26).2.2.1) (gj_X9_init_1 _ (gp_1 (gp_1 (gp_1 gp_h))))
  have lk78 := hts (.fieldLink RX9 78 (TX9 27).1 (TX9 27).2.1 (TX9 27).2.2.1) (gj_X9_init_1 _ (gp_4 gp_h))
  have lk81 := hts (.fieldLink RX9 81 (TX9 29).1 (TX9 29).2.1 (TX9 29).2.2.1) (gj_X9_init_1 _ (gp_4 (gp_1 gp_h)))
  have lk84 := hts (.fieldLink RX9 84 (TX9 30).1 (TX9 30).2.1 (TX9 30).2.2.1) (gj_X9_init_1 _ (gp_4 (gp_1 (gp_1 gp_h))))
  have lk87 := hts (.fieldLink RX9 87 (TX9 31).1 (TX9 31).2.1 (TX9 31).2.2.1) (gj_X9_init_1 _ (gp_4 (gp_1 (gp_1 (gp_1 gp_h)))))
  have lk90 := hts (.fieldLink RX9 90 (TX9 32).1 (TX9 32).2.1 (TX9 32).2.2.1) (gj_X9_init_1 _ (gp_4 (gp_4 gp_h)))
  have lk93 := hts (.fieldLink RX9 93 (TX9 33).1 (TX9 33).2.1 (TX9 33).2.2.1) (gj_X9_init_1 _ (gp_4 (gp_4 (gp_1 gp_h))))
  have lk96 := hts (.fieldLink RX9 96 (TX9 34).1 (TX9 34).2.1 (TX9 34).2.2.1) (gj_X9_init_1 _ (gp_4 (gp_4 (gp_1 (gp_1 gp_h)))))
  have lk99 := hts (.fieldLink RX9 99 (TX9 35).1 (TX9 35).2.1 (TX9 35).2.2.1) (gj_X9_init_1 _ (gp_4 (gp_4 (gp_1 (gp_1 (gp_1 gp_h))))))
  have lk102 := hts (.fieldLink RX9 102 (TX9 36).1 (TX9 36).2.1 (TX9 36).2.2.1) (gj_X9_init_1 _ (gp_4 (gp_4 (gp_4 gp_h))))
  have lk105 := hts (.fieldLink RX9 105 (TX9 37).1 (TX9 37).2.1 (TX9 37).2.2.1) (gj_X9_init_1 _ (gp_4 (gp_4 (gp_4 (gp_1 gp_h)))))
  have lk108 := hts (.fieldLink RX9 108 (TX9 38).1 (TX9 38).2.1 (TX9 38).2.2.1) (gj_X9_init_1 _ (gp_4 (gp_4 (gp_4 (gp_1 (gp_1 gp_h))))))
  have lk111 := hts (.fieldLink RX9 111 (TX9 39).1 (TX9 39).2.1 (TX9 39).2.2.1) (gj_X9_init_1 _ (gp_4 (gp_4 (gp_4 (gp_1 (gp_1 (gp_1 gp_h)))))))
  have lk114 := hts (.fieldLink RX9 114 (TX9 40).1 (TX9 40).2.1 (TX9 40).2.2.1) (gj_X9_init_1 _ (gp_16 gp_h))
  have lk117 := hts (.fieldLink RX9 117 (TX9 41).1 (TX9 41).2.1 (TX9 41).2.2.1) (gj_X9_init_1 _ (gp_16 (gp_1 gp_h)))
  have lk121 := hts (.fieldLink RX9 121 (TX9 42).1 (TX9 42).2.1 (TX9 42).2.2.1) (gj_X9_init_1 _ (gp_16 (gp_1 (gp_1 gp_h))))
  have lk124 := hts (.fieldLink RX9 124 (TX9 43).1 (TX9 43).2.1 (TX9 43).2.2.1) (gj_X9_init_1 _ (gp_16 (gp_1 (gp_1 (gp_1 gp_h)))))
  have lk127 := hts (.fieldLink RX9 127 (TX9 44).1 (TX9 44).2.1 (TX9 44).2.2.1) (gj_X9_init_1 _ (gp_16 (gp_4 gp_h)))
  have lk130 := hts (.fieldLink RX9 130 (TX9 45).1 (TX9 45).2.1 (TX9 45).2.2.1) (gj_X9_init_1 _ (gp_16 (gp_4 (gp_1 gp_h))))
  have lk133 := hts (.fieldLink RX9 133 (TX9 46).1 (TX9 46).2.1 (TX9 46).2.2.1) (gj_X9_init_1 _ (gp_16 (gp_4 (gp_1 (gp_1 gp_h)))))
  have lk136 := hts (.fieldLink RX9 136 (TX9 47).1 (TX9 47).2.1 (TX9 47).2.2.1) (gj_X9_init_1 _ (gp_16 (gp_4 (gp_1 (gp_1 (gp_1 gp_h))))))
  have lk139 := hts (.fieldLink RX9 139 (TX9 48).1 (TX9 48).2.1 (TX9 48).2.2.1) (gj_X9_init_2 _ (gp_h))
  have lk142 := hts (.fieldLink RX9 142 (TX9 49).1 (TX9 49).2.1 (TX9 49).2.2.1) (gj_X9_init_2 _ (gp_1 gp_h))
  have hl : lv_has ls 1 [(0, .ref h0)] := hl
  refine lv_aload_n hx hb dX9_init_0 rfl (lv_at hl 0 rfl) ?_
  refine W.objInit hx hb hown (hts (.methodLink RX9 1 objectInit) (by first | exact gj_X9_init_0 _ (gp_h) | decide +kernel)) (hts (.instanceMethod objectInit) (by first | exact gj_X9_init_0 _ (gp_1 gp_h) | decide +kernel)) (hts _ (List.mem_cons_of_mem _ (List.mem_append_left _ (List.mem_append_left _ (List.mem_of_getElem? (i := 2) rfl))))) rfl (by rw [hml]; exact hl.1) rfl dX9_init_1 (Nat.le_of_ble_eq_true rfl) (Nat.le_of_ble_eq_true rfl) ?_
  refine W.eq (g2 := F0 m 4 ls []) rfl ?_
  refine lv_aload_n hx hb dX9_init_4 rfl (lv_at hl 0 rfl) ?_
  refine lv_bipush (v := jI 16) hx hb dX9_init_5 (by decide) ?_
  refine g_newa (t := 2) (z := 16) (a0 := ((16 : Int).toNat, .inl (fun _ => 0))) (atype := .boolean) hx hb (hts (.arrayClass .boolean) (by first | exact gj_X9_init_0 _ (gp_1 (gp_1 (gp_1 gp_h))) | decide +kernel)) rfl hK.1 rfl hw hS hbs (fun _ => rfl) (by decide) (by decide) (by decide) (show 0 + 1 ≤ 41 from Nat.le_of_ble_eq_true rfl) (show 0 + (16 : Int).toNat ≤ 21484 from Nat.le_of_ble_eq_true rfl) dX9_init_7 (fun q1 H hw hS => ?_)
  replace hw : wx D tc base u (E ++ G9_1 tc h0 q1) H := hw
  refine W.widen (k := 1) (n := 16) (by exact Nat.le_of_ble_eq_true rfl) (by exact Nat.le_of_ble_eq_true rfl) ?_
  refine g_putF (ci := 9) hx hb hf9 ⟨tyX9_ok, nmX9⟩ hw hS 0 rfl 1 (by decide) lk7 rfl hnm rfl (tyX9_ok 1 (by decide)) rfl rfl (Nat.le_of_ble_eq_true rfl) dX9_init_9 (fun H locs hw hS => ?_)
  replace hw : wx D tc base u (E ++ G9_2 tc h0 q1) H := hw
  refine lv_aload_n hx hb dX9_init_12 rfl (lv_at hl 0 rfl) ?_
  refine lv_bipush (v := jI 8) hx hb dX9_init_13 (by decide) ?_
  refine g_newa (t := 0) (z := 8) (a0 := ((8 : Int).toNat, .inl (fun _ => 0))) (atype := .int) hx hb (hts (.arrayClass .int) (by first | exact gj_X9_init_0 _ (gp_4 (gp_1 gp_h)) | decide +kernel)) rfl hK.1 rfl hw hS hbs (fun _ => rfl) (by decide) (by decide) (by decide) (show 1 + 1 ≤ 41 from Nat.le_of_ble_eq_true rfl) (show 16 + (8 : Int).toNat ≤ 21484 from Nat.le_of_ble_eq_true rfl) dX9_init_15 (fun q2 H hw hS => ?_)
  replace hw : wx D tc base u (E ++ G9_3 tc h0 q1 q2) H := hw
  refine W.widen (k := 2) (n := 24) (by exact Nat.le_of_ble_eq_true rfl) (by exact Nat.le_of_ble_eq_true rfl) ?_
  refine g_putF (ci := 9) hx hb hf9 ⟨tyX9_ok, nmX9⟩ hw hS 0 rfl 3 (by decide) lk13 rfl hnm rfl (tyX9_ok 3 (by decide)) rfl rfl (Nat.le_of_ble_eq_true rfl) dX9_init_17 (fun H locs hw hS => ?_)
  replace hw : wx D tc base u (E ++ G9_4 tc h0 q1 q2) H := hw
  refine lv_aload_n hx hb dX9_init_20 rfl (lv_at hl 0 rfl) ?_
  refine lv_bipush (v := jI 40) hx hb dX9_init_21 (by decide) ?_
  refine g_newa (t := 0) (z := 40) (a0 := ((40 : Int).toNat, .inl (fun _ => 0))) (atype := .int) hx hb (hts (.arrayClass .int) (by first | exact gj_X9_init_0 _ (gp_4 (gp_1 gp_h)) | decide +kernel)) rfl hK.1 rfl hw hS hbs (fun _ => rfl) (by decide) (by decide) (by decide) (show 2 + 1 ≤ 41 from Nat.le_of_ble_eq_true rfl) (show 24 + (40 : Int).toNat ≤ 21484 from Nat.le_of_ble_eq_true rfl) dX9_init_23 (fun q3 H hw hS => ?_)
  replace hw : wx D tc base u (E ++ G9_5 tc h0 q1 q2 q3) H := hw
  refine W.widen (k := 3) (n := 64) (by exact Nat.le_of_ble_eq_true rfl) (by exact Nat.le_of_ble_eq_true rfl) ?_
  refine g_putF (ci := 9) hx hb hf9 ⟨tyX9_ok, nmX9⟩ hw hS 0 rfl 4 (by decide) lk17 rfl hnm rfl (tyX9_ok 4 (by decide)) rfl rfl (Nat.le_of_ble_eq_true rfl) dX9_init_25 (fun H locs hw hS => ?_)
  replace hw : wx D tc base u (E ++ G9_6 tc h0 q1 q2 q3) H := hw
  refine lv_aload_n hx hb dX9_init_28 rfl (lv_at hl 0 rfl) ?_
  refine lv_bipush (v := jI 40) hx hb dX9_init_29 (by decide) ?_
  refine g_newa (t := 0) (z := 40) (a0 := ((40 : Int).toNat, .inl (fun _ => 0))) (atype := .int) hx hb (hts (.arrayClass .int) (by first | exact gj_X9_init_0 _ (gp_4 (gp_1 gp_h)) | decide +kernel)) rfl hK.1 rfl hw hS hbs (fun _ => rfl) (by decide) (by decide) (by decide) (show 3 + 1 ≤ 41 from Nat.le_of_ble_eq_true rfl) (show 64 + (40 : Int).toNat ≤ 21484 from Nat.le_of_ble_eq_true rfl) dX9_init_31 (fun q4 H hw hS => ?_)
  replace hw : wx D tc base u (E ++ G9_7 tc h0 q1 q2 q3 q4) H := hw
  refine W.widen (k := 4) (n := 104) (by exact Nat.le_of_ble_eq_true rfl) (by exact Nat.le_of_ble_eq_true rfl) ?_
  refine g_putF (ci := 9) hx hb hf9 ⟨tyX9_ok, nmX9⟩ hw hS 0 rfl 5 (by decide) lk20 rfl hnm rfl (tyX9_ok 5 (by decide)) rfl rfl (Nat.le_of_ble_eq_true rfl) dX9_init_33 (fun H locs hw hS => ?_)
  replace hw : wx D tc base u (E ++ G9_8 tc h0 q1 q2 q3 q4) H := hw
  refine lv_aload_n hx hb dX9_init_36 rfl (lv_at hl 0 rfl) ?_
  refine lv_bipush (v := jI 40) hx hb dX9_init_37 (by decide) ?_
  refine g_newa (t := 1) (z := 40) (a0 := ((40 : Int).toNat, .inr (.inl (fun _ => 0)))) (atype := .long) hx hb (hts (.arrayClass .long) (by first | exact gj_X9_init_0 _ (gp_4 (gp_4 (gp_1 gp_h))) | decide +kernel)) rfl hK.1 rfl hw hS hbs (fun _ => rfl) (by decide) (by decide) (by decide) (show 4 + 1 ≤ 41 from Nat.le_of_ble_eq_true rfl) (show 104 + (40 : Int).toNat ≤ 21484 from Nat.le_of_ble_eq_true rfl) dX9_init_39 (fun q5 H hw hS => ?_)
  replace hw : wx D tc base u (E ++ G9_9 tc h0 q1 q2 q3 q4 q5) H := hw
  refine W.widen (k := 5) (n := 144) (by exact Nat.le_of_ble_eq_true rfl) (by exact Nat.le_of_ble_eq_true rfl) ?_
  refine g_putF (ci := 9) hx hb hf9 ⟨tyX9_ok, nmX9⟩ hw hS 0 rfl 6 (by decide) lk23 rfl hnm rfl (tyX9_ok 6 (by decide)) rfl rfl (Nat.le_of_ble_eq_true rfl) dX9_init_41 (fun H locs hw hS => ?_)
  replace hw : wx D tc base u (E ++ G9_10 tc h0 q1 q2 q3 q4 q5) H := hw
  refine lv_aload_n hx hb dX9_init_44 rfl (lv_at hl 0 rfl) ?_
  refine lv_bipush (v := jI 40) hx hb dX9_init_45 (by decide) ?_
  refine g_newa (t := 2) (z := 40) (a0 := ((40 : Int).toNat, .inl (fun _ => 0))) (atype := .boolean) hx hb (hts (.arrayClass .boolean) (by first | exact gj_X9_init_0 _ (gp_1 (gp_1 (gp_1 gp_h))) | decide +kernel)) rfl hK.1 rfl hw hS hbs (fun _ => rfl) (by decide) (by decide) (by decide) (show 5 + 1 ≤ 41 from Nat.le_of_ble_eq_true rfl) (show 144 + (40 : Int).toNat ≤ 21484 from Nat.le_of_ble_eq_true rfl) dX9_init_47 (fun q6 H hw hS => ?_)
  replace hw : wx D tc base u (E ++ G9_11 tc h0 q1 q2 q3 q4 q5 q6) H := hw
  refine W.widen (k := 6) (n := 184) (by exact Nat.le_of_ble_eq_true rfl) (by exact Nat.le_of_ble_eq_true rfl) ?_
  refine g_putF (ci := 9) hx hb hf9 ⟨tyX9_ok, nmX9⟩ hw hS 0 rfl 7 (by decide) lk27 rfl hnm rfl (tyX9_ok 7 (by decide)) rfl rfl (Nat.le_of_ble_eq_true rfl) dX9_init_49 (fun H locs hw hS => ?_)
  replace hw : wx D tc base u (E ++ G9_12 tc h0 q1 q2 q3 q4 q5 q6) H := hw
  refine lv_aload_n hx hb dX9_init_52 rfl (lv_at hl 0 rfl) ?_
  refine lv_bipush (v := jI 8) hx hb dX9_init_53 (by decide) ?_
  refine g_newa (t := 0) (z := 8) (a0 := ((8 : Int).toNat, .inl (fun _ => 0))) (atype := .int) hx hb (hts (.arrayClass .int) (by first | exact gj_X9_init_0 _ (gp_4 (gp_1 gp_h)) | decide +kernel)) rfl hK.1 rfl hw hS hbs (fun _ => rfl) (by decide) (by decide) (by decide) (show 6 + 1 ≤ 41 from Nat.le_of_ble_eq_true rfl) (show 184 + (8 : Int).toNat ≤ 21484 from Nat.le_of_ble_eq_true rfl) dX9_init_55 (fun q7 H hw hS => ?_)
  replace hw : wx D tc base u (E ++ G9_13 tc h0 q1 q2 q3 q4 q5 q6 q7) H := hw
  refine W.widen (k := 7) (n := 192) (by exact Nat.le_of_ble_eq_true rfl) (by exact Nat.le_of_ble_eq_true rfl) ?_
  refine g_putF (ci := 9) hx hb hf9 ⟨tyX9_ok, nmX9⟩ hw hS 0 rfl 8 (by decide) lk30 rfl hnm rfl (tyX9_ok 8 (by decide)) rfl rfl (Nat.le_of_ble_eq_true rfl) dX9_init_57 (fun H locs hw hS => ?_)
  replace hw : wx D tc base u (E ++ G9_14 tc h0 q1 q2 q3 q4 q5 q6 q7) H := hw
  refine lv_aload_n hx hb dX9_init_60 rfl (lv_at hl 0 rfl) ?_
  refine lv_bipush (v := jI 32) hx hb dX9_init_61 (by decide) ?_
  refine g_newa (t := 0) (z := 32) (a0 := ((32 : Int).toNat, .inl (fun _ => 0))) (atype := .int) hx hb (hts (.arrayClass .int) (by first | exact gj_X9_init_0 _ (gp_4 (gp_1 gp_h)) | decide +kernel)) rfl hK.1 rfl hw hS hbs (fun _ => rfl) (by decide) (by decide) (by decide) (show 7 + 1 ≤ 41 from Nat.le_of_ble_eq_true rfl) (show 192 + (32 : Int).toNat ≤ 21484 from Nat.le_of_ble_eq_true rfl) dX9_init_63 (fun q8 H hw hS => ?_)
  replace hw : wx D tc base u (E ++ G9_15 tc h0 q1 q2 q3 q4 q5 q6 q7 q8) H := hw
  refine W.widen (k := 8) (n := 224) (by exact Nat.le_of_ble_eq_true rfl) (by exact Nat.le_of_ble_eq_true rfl) ?_
  refine g_putF (ci := 9) hx hb hf9 ⟨tyX9_ok, nmX9⟩ hw hS 0 rfl 9 (by decide) lk33 rfl hnm rfl (tyX9_ok 9 (by decide)) rfl rfl (Nat.le_of_ble_eq_true rfl) dX9_init_65 (fun H locs hw hS => ?_)
  replace hw : wx D tc base u (E ++ G9_16 tc h0 q1 q2 q3 q4 q5 q6 q7 q8) H := hw
  refine lv_aload_n hx hb dX9_init_68 rfl (lv_at hl 0 rfl) ?_
  refine lv_bipush (v := jI 32) hx hb dX9_init_69 (by decide) ?_
  refine g_newa (t := 0) (z := 32) (a0 := ((32 : Int).toNat, .inl (fun _ => 0))) (atype := .int) hx hb (hts (.arrayClass .int) (by first | exact gj_X9_init_0 _ (gp_4 (gp_1 gp_h)) | decide +kernel)) rfl hK.1 rfl hw hS hbs (fun _ => rfl) (by decide) (by decide) (by decide) (show 8 + 1 ≤ 41 from Nat.le_of_ble_eq_true rfl) (show 224 + (32 : Int).toNat ≤ 21484 from Nat.le_of_ble_eq_true rfl) dX9_init_71 (fun q9 H hw hS => ?_)
  replace hw : wx D tc base u (E ++ G9_17 tc h0 q1 q2 q3 q4 q5 q6 q7 q8 q9) H := hw
  refine W.widen (k := 9) (n := 256) (by exact Nat.le_of_ble_eq_true rfl) (by exact Nat.le_of_ble_eq_true rfl) ?_
  refine g_putF (ci := 9) hx hb hf9 ⟨tyX9_ok, nmX9⟩ hw hS 0 rfl 10 (by decide) lk36 rfl hnm rfl (tyX9_ok 10 (by decide)) rfl rfl (Nat.le_of_ble_eq_true rfl) dX9_init_73 (fun H locs hw hS => ?_)
  replace hw : wx D tc base u (E ++ G9_18 tc h0 q1 q2 q3 q4 q5 q6 q7 q8 q9) H := hw
  refine lv_aload_n hx hb dX9_init_76 rfl (lv_at hl 0 rfl) ?_
  refine lv_bipush (v := jI 32) hx hb dX9_init_77 (by decide) ?_
  refine g_newa (t := 0) (z := 32) (a0 := ((32 : Int).toNat, .inl (fun _ => 0))) (atype := .int) hx hb (hts (.arrayClass .int) (by first | exact gj_X9_init_0 _ (gp_4 (gp_1 gp_h)) | decide +kernel)) rfl hK.1 rfl hw hS hbs (fun _ => rfl) (by decide) (by decide) (by decide) (show 9 + 1 ≤ 41 from Nat.le_of_ble_eq_true rfl) (show 256 + (32 : Int).toNat ≤ 21484 from Nat.le_of_ble_eq_true rfl) dX9_init_79 (fun q10 H hw hS => ?_)
  replace hw : wx D tc base u (E ++ G9_19 tc h0 q1 q2 q3 q4 q5 q6 q7 q8 q9 q10) H := hw
  refine W.widen (k := 10) (n := 288) (by exact Nat.le_of_ble_eq_true rfl) (by exact Nat.le_of_ble_eq_true rfl) ?_
  refine g_putF (ci := 9) hx hb hf9 ⟨tyX9_ok, nmX9⟩ hw hS 0 rfl 11 (by decide) lk39 rfl hnm rfl (tyX9_ok 11 (by decide)) rfl rfl (Nat.le_of_ble_eq_true rfl) dX9_init_81 (fun H locs hw hS => ?_)
  replace hw : wx D tc base u (E ++ G9_20 tc h0 q1 q2 q3 q4 q5 q6 q7 q8 q9 q10) H := hw
  refine lv_aload_n hx hb dX9_init_84 rfl (lv_at hl 0 rfl) ?_
  refine lv_bipush (v := jI 32) hx hb dX9_init_85 (by decide) ?_
  refine g_newa (t := 1) (z := 32) (a0 := ((32 : Int).toNat, .inr (.inl (fun _ => 0)))) (atype := .long) hx hb (hts (.arrayClass .long) (by first | exact gj_X9_init_0 _ (gp_4 (gp_4 (gp_1 gp_h))) | decide +kernel)) rfl hK.1 rfl hw hS hbs (fun _ => rfl) (by decide) (by decide) (by decide) (show 10 + 1 ≤ 41 from Nat.le_of_ble_eq_true rfl) (show 288 + (32 : Int).toNat ≤ 21484 from Nat.le_of_ble_eq_true rfl) dX9_init_87 (fun q11 H hw hS => ?_)
  replace hw : wx D tc base u (E ++ G9_21 tc h0 q1 q2 q3 q4 q5 q6 q7 q8 q9 q10 q11) H := hw
  refine W.widen (k := 11) (n := 320) (by exact Nat.le_of_ble_eq_true rfl) (by exact Nat.le_of_ble_eq_true rfl) ?_
  refine g_putF (ci := 9) hx hb hf9 ⟨tyX9_ok, nmX9⟩ hw hS 0 rfl 12 (by decide) lk42 rfl hnm rfl (tyX9_ok 12 (by decide)) rfl rfl (Nat.le_of_ble_eq_true rfl) dX9_init_89 (fun H locs hw hS => ?_)
  replace hw : wx D tc base u (E ++ G9_22 tc h0 q1 q2 q3 q4 q5 q6 q7 q8 q9 q10 q11) H := hw
  refine lv_aload_n hx hb dX9_init_92 rfl (lv_at hl 0 rfl) ?_
  refine lv_bipush (v := jI 30) hx hb dX9_init_93 (by decide) ?_
  refine g_newa (t := 0) (z := 30) (a0 := ((30 : Int).toNat, .inl (fun _ => 0))) (atype := .int) hx hb (hts (.arrayClass .int) (by first | exact gj_X9_init_0 _ (gp_4 (gp_1 gp_h)) | decide +kernel)) rfl hK.1 rfl hw hS hbs (fun _ => rfl) (by decide) (by decide) (by decide) (show 11 + 1 ≤ 41 from Nat.le_of_ble_eq_true rfl) (show 320 + (30 : Int).toNat ≤ 21484 from Nat.le_of_ble_eq_true rfl) dX9_init_95 (fun q12 H hw hS => ?_)
  replace hw : wx D tc base u (E ++ G9_23 tc h0 q1 q2 q3 q4 q5 q6 q7 q8 q9 q10 q11 q12) H := hw
  refine W.widen (k := 12) (n := 350) (by exact Nat.le_of_ble_eq_true rfl) (by exact Nat.le_of_ble_eq_true rfl) ?_
  refine g_putF (ci := 9) hx hb hf9 ⟨tyX9_ok, nmX9⟩ hw hS 0 rfl 14 (by decide) lk45 rfl hnm rfl (tyX9_ok 14 (by decide)) rfl rfl (Nat.le_of_ble_eq_true rfl) dX9_init_97 (fun H locs hw hS => ?_)
  replace hw : wx D tc base u (E ++ G9_24 tc h0 q1 q2 q3 q4 q5 q6 q7 q8 q9 q10 q11 q12) H := hw
  refine lv_aload_n hx hb dX9_init_100 rfl (lv_at hl 0 rfl) ?_
  refine lv_sipush (v := jI 150) hx hb dX9_init_101 (by decide) ?_
  refine g_newa (t := 1) (z := 150) (a0 := ((150 : Int).toNat, .inr (.inl (fun _ => 0)))) (atype := .long) hx hb (hts (.arrayClass .long) (by first | exact gj_X9_init_0 _ (gp_4 (gp_4 (gp_1 gp_h))) | decide +kernel)) rfl hK.1 rfl hw hS hbs (fun _ => rfl) (by decide) (by decide) (by decide) (show 12 + 1 ≤ 41 from Nat.le_of_ble_eq_true rfl) (show 350 + (150 : Int).toNat ≤ 21484 from Nat.le_of_ble_eq_true rfl) dX9_init_104 (fun q13 H hw hS => ?_)
  replace hw : wx D tc base u (E ++ G9_25 tc h0 q1 q2 q3 q4 q5 q6 q7 q8 q9 q10 q11 q12 q13) H := hw
  refine W.widen (k := 13) (n := 500) (by exact Nat.le_of_ble_eq_true rfl) (by exact Nat.le_of_ble_eq_true rfl) ?_
  refine g_putF (ci := 9) hx hb hf9 ⟨tyX9_ok, nmX9⟩ hw hS 0 rfl 15 (by decide) lk48 rfl hnm rfl (tyX9_ok 15 (by decide)) rfl rfl (Nat.le_of_ble_eq_true rfl) dX9_init_106 (fun H locs hw hS => ?_)
  replace hw : wx D tc base u (E ++ G9_26 tc h0 q1 q2 q3 q4 q5 q6 q7 q8 q9 q10 q11 q12 q13) H := hw
  refine lv_aload_n hx hb dX9_init_109 rfl (lv_at hl 0 rfl) ?_
  refine lv_sipush (v := jI 400) hx hb dX9_init_110 (by decide) ?_
  refine g_newa (t := 0) (z := 400) (a0 := ((400 : Int).toNat, .inl (fun _ => 0))) (atype := .int) hx hb (hts (.arrayClass .int) (by first | exact gj_X9_init_0 _ (gp_4 (gp_1 gp_h)) | decide +kernel)) rfl hK.1 rfl hw hS hbs (fun _ => rfl) (by decide) (by decide) (by decide) (show 13 + 1 ≤ 41 from Nat.le_of_ble_eq_true rfl) (show 500 + (400 : Int).toNat ≤ 21484 from Nat.le_of_ble_eq_true rfl) dX9_init_113 (fun q14 H hw hS => ?_)
  replace hw : wx D tc base u (E ++ G9_27 tc h0 q1 q2 q3 q4 q5 q6 q7 q8 q9 q10 q11 q12 q13 q14) H := hw
  refine W.widen (k := 14) (n := 900) (by exact Nat.le_of_ble_eq_true rfl) (by exact Nat.le_of_ble_eq_true rfl) ?_
  refine g_putF (ci := 9) hx hb hf9 ⟨tyX9_ok, nmX9⟩ hw hS 0 rfl 16 (by decide) lk51 rfl hnm rfl (tyX9_ok 16 (by decide)) rfl rfl (Nat.le_of_ble_eq_true rfl) dX9_init_115 (fun H locs hw hS => ?_)
  replace hw : wx D tc base u (E ++ G9_28 tc h0 q1 q2 q3 q4 q5 q6 q7 q8 q9 q10 q11 q12 q13 q14) H := hw
  refine lv_aload_n hx hb dX9_init_118 rfl (lv_at hl 0 rfl) ?_
  refine lv_sipush (v := jI 400) hx hb dX9_init_119 (by decide) ?_
  refine g_newa (t := 0) (z := 400) (a0 := ((400 : Int).toNat, .inl (fun _ => 0))) (atype := .int) hx hb (hts (.arrayClass .int) (by first | exact gj_X9_init_0 _ (gp_4 (gp_1 gp_h)) | decide +kernel)) rfl hK.1 rfl hw hS hbs (fun _ => rfl) (by decide) (by decide) (by decide) (show 14 + 1 ≤ 41 from Nat.le_of_ble_eq_true rfl) (show 900 + (400 : Int).toNat ≤ 21484 from Nat.le_of_ble_eq_true rfl) dX9_init_122 (fun q15 H hw hS => ?_)
  replace hw : wx D tc base u (E ++ G9_29 tc h0 q1 q2 q3 q4 q5 q6 q7 q8 q9 q10 q11 q12 q13 q14 q15) H := hw
  refine W.widen (k := 15) (n := 1300) (by exact Nat.le_of_ble_eq_true rfl) (by exact Nat.le_of_ble_eq_true rfl) ?_
  refine g_putF (ci := 9) hx hb hf9 ⟨tyX9_ok, nmX9⟩ hw hS 0 rfl 17 (by decide) lk54 rfl hnm rfl (tyX9_ok 17 (by decide)) rfl rfl (Nat.le_of_ble_eq_true rfl) dX9_init_124 (fun H locs hw hS => ?_)
  replace hw : wx D tc base u (E ++ G9_30 tc h0 q1 q2 q3 q4 q5 q6 q7 q8 q9 q10 q11 q12 q13 q14 q15) H := hw
  refine lv_aload_n hx hb dX9_init_127 rfl (lv_at hl 0 rfl) ?_
  refine lv_sipush (v := jI 4800) hx hb dX9_init_128 (by decide) ?_
  refine g_newa (t := 1) (z := 4800) (a0 := ((4800 : Int).toNat, .inr (.inl (fun _ => 0)))) (atype := .long) hx hb (hts (.arrayClass .long) (by first | exact gj_X9_init_0 _ (gp_4 (gp_4 (gp_1 gp_h))) | decide +kernel)) rfl hK.1 rfl hw hS hbs (fun _ => rfl) (by decide) (by decide) (by decide) (show 15 + 1 ≤ 41 from Nat.le_of_ble_eq_true rfl) (show 1300 + (4800 : Int).toNat ≤ 21484 from Nat.le_of_ble_eq_true rfl) dX9_init_131 (fun q16 H hw hS => ?_)
  replace hw : wx D tc base u (E ++ G9_31 tc h0 q1 q2 q3 q4 q5 q6 q7 q8 q9 q10 q11 q12 q13 q14 q15 q16) H := hw
  refine W.widen (k := 16) (n := 6100) (by exact Nat.le_of_ble_eq_true rfl) (by exact Nat.le_of_ble_eq_true rfl) ?_
  refine g_putF (ci := 9) hx hb hf9 ⟨tyX9_ok, nmX9⟩ hw hS 0 rfl 18 (by decide) lk57 rfl hnm rfl (tyX9_ok 18 (by decide)) rfl rfl (Nat.le_of_ble_eq_true rfl) dX9_init_133 (fun H locs hw hS => ?_)
  replace hw : wx D tc base u (E ++ G9_32 tc h0 q1 q2 q3 q4 q5 q6 q7 q8 q9 q10 q11 q12 q13 q14 q15 q16) H := hw
  refine lv_aload_n hx hb dX9_init_136 rfl (lv_at hl 0 rfl) ?_
  refine lv_sipush (v := jI 400) hx hb dX9_init_137 (by decide) ?_
  refine g_newa (t := 2) (z := 400) (a0 := ((400 : Int).toNat, .inl (fun _ => 0))) (atype := .boolean) hx hb (hts (.arrayClass .boolean) (by first | exact gj_X9_init_0 _ (gp_1 (gp_1 (gp_1 gp_h))) | decide +kernel)) rfl hK.1 rfl hw hS hbs (fun _ => rfl) (by decide) (by decide) (by decide) (show 16 + 1 ≤ 41 from Nat.le_of_ble_eq_true rfl) (show 6100 + (400 : Int).toNat ≤ 21484 from Nat.le_of_ble_eq_true rfl) dX9_init_140 (fun q17 H hw hS => ?_)
  replace hw : wx D tc base u (E ++ G9_33 tc h0 q1 q2 q3 q4 q5 q6 q7 q8 q9 q10 q11 q12 q13 q14 q15 q16 q17) H := hw
  refine W.widen (k := 17) (n := 6500) (by exact Nat.le_of_ble_eq_true rfl) (by exact Nat.le_of_ble_eq_true rfl) ?_
  refine g_putF (ci := 9) hx hb hf9 ⟨tyX9_ok, nmX9⟩ hw hS 0 rfl 19 (by decide) lk60 rfl hnm rfl (tyX9_ok 19 (by decide)) rfl rfl (Nat.le_of_ble_eq_true rfl) dX9_init_142 (fun H locs hw hS => ?_)
  replace hw : wx D tc base u (E ++ G9_34 tc h0 q1 q2 q3 q4 q5 q6 q7 q8 q9 q10 q11 q12 q13 q14 q15 q16 q17) H := hw
  refine lv_aload_n hx hb dX9_init_145 rfl (lv_at hl 0 rfl) ?_
  refine lv_iconst (v := jI 4) hx hb dX9_init_146 rfl ?_
  refine g_newa (t := 0) (z := 4) (a0 := ((4 : Int).toNat, .inl (fun _ => 0))) (atype := .int) hx hb (hts (.arrayClass .int) (by first | exact gj_X9_init_0 _ (gp_4 (gp_1 gp_h)) | decide +kernel)) rfl hK.1 rfl hw hS hbs (fun _ => rfl) (by decide) (by decide) (by decide) (show 17 + 1 ≤ 41 from Nat.le_of_ble_eq_true rfl) (show 6500 + (4 : Int).toNat ≤ 21484 from Nat.le_of_ble_eq_true rfl) dX9_init_147 (fun q18 H hw hS => ?_)
  replace hw : wx D tc base u (E ++ G9_35 tc h0 q1 q2 q3 q4 q5 q6 q7 q8 q9 q10 q11 q12 q13 q14 q15 q16 q17 q18) H := hw
  refine W.widen (k := 18) (n := 6504) (by exact Nat.le_of_ble_eq_true rfl) (by exact Nat.le_of_ble_eq_true rfl) ?_
  refine g_putF (ci := 9) hx hb hf9 ⟨tyX9_ok, nmX9⟩ hw hS 0 rfl 21 (by decide) lk63 rfl hnm rfl (tyX9_ok 21 (by decide)) rfl rfl (Nat.le_of_ble_eq_true rfl) dX9_init_149 (fun H locs hw hS => ?_)
  replace hw : wx D tc base u (E ++ G9_36 tc h0 q1 q2 q3 q4 q5 q6 q7 q8 q9 q10 q11 q12 q13 q14 q15 q16 q17 q18) H := hw
  refine lv_aload_n hx hb dX9_init_152 rfl (lv_at hl 0 rfl) ?_
  refine lv_bipush (v := jI 80) hx hb dX9_init_153 (by decide) ?_
  refine g_newa (t := 0) (z := 80) (a0 := ((80 : Int).toNat, .inl (fun _ => 0))) (atype := .int) hx hb (hts (.arrayClass .int) (by first | exact gj_X9_init_0 _ (gp_4 (gp_1 gp_h)) | decide +kernel)) rfl hK.1 rfl hw hS hbs (fun _ => rfl) (by decide) (by decide) (by decide) (show 18 + 1 ≤ 41 from Nat.le_of_ble_eq_true rfl) (show 6504 + (80 : Int).toNat ≤ 21484 from Nat.le_of_ble_eq_true rfl) dX9_init_155 (fun q19 H hw hS => ?_)
  replace hw : wx D tc base u (E ++ G9_37 tc h0 q1 q2 q3 q4 q5 q6 q7 q8 q9 q10 q11 q12 q13 q14 q15 q16 q17 q18 q19) H := hw
  refine W.widen (k := 19) (n := 6584) (by exact Nat.le_of_ble_eq_true rfl) (by exact Nat.le_of_ble_eq_true rfl) ?_
  refine g_putF (ci := 9) hx hb hf9 ⟨tyX9_ok, nmX9⟩ hw hS 0 rfl 23 (by decide) lk66 rfl hnm rfl (tyX9_ok 23 (by decide)) rfl rfl (Nat.le_of_ble_eq_true rfl) dX9_init_157 (fun H locs hw hS => ?_)
  replace hw : wx D tc base u (E ++ G9_38 tc h0 q1 q2 q3 q4 q5 q6 q7 q8 q9 q10 q11 q12 q13 q14 q15 q16 q17 q18 q19) H := hw
  refine lv_aload_n hx hb dX9_init_160 rfl (lv_at hl 0 rfl) ?_
  refine lv_bipush (v := jI 80) hx hb dX9_init_161 (by decide) ?_
  refine g_newa (t := 0) (z := 80) (a0 := ((80 : Int).toNat, .inl (fun _ => 0))) (atype := .int) hx hb (hts (.arrayClass .int) (by first | exact gj_X9_init_0 _ (gp_4 (gp_1 gp_h)) | decide +kernel)) rfl hK.1 rfl hw hS hbs (fun _ => rfl) (by decide) (by decide) (by decide) (show 19 + 1 ≤ 41 from Nat.le_of_ble_eq_true rfl) (show 6584 + (80 : Int).toNat ≤ 21484 from Nat.le_of_ble_eq_true rfl) dX9_init_163 (fun q20 H hw hS => ?_)
  replace hw : wx D tc base u (E ++ G9_39 tc h0 q1 q2 q3 q4 q5 q6 q7 q8 q9 q10 q11 q12 q13 q14 q15 q16 q17 q18 q19 q20) H := hw
  refine W.widen (k := 20) (n := 6664) (by exact Nat.le_of_ble_eq_true rfl) (by exact Nat.le_of_ble_eq_true rfl) ?_
  refine g_putF (ci := 9) hx hb hf9 ⟨tyX9_ok, nmX9⟩ hw hS 0 rfl 24 (by decide) lk69 rfl hnm rfl (tyX9_ok 24 (by decide)) rfl rfl (Nat.le_of_ble_eq_true rfl) dX9_init_165 (fun H locs hw hS => ?_)
  replace hw : wx D tc base u (E ++ G9_40 tc h0 q1 q2 q3 q4 q5 q6 q7 q8 q9 q10 q11 q12 q13 q14 q15 q16 q17 q18 q19 q20) H := hw
  refine lv_aload_n hx hb dX9_init_168 rfl (lv_at hl 0 rfl) ?_
  refine lv_bipush (v := jI 80) hx hb dX9_init_169 (by decide) ?_
  refine g_newa (t := 0) (z := 80) (a0 := ((80 : Int).toNat, .inl (fun _ => 0))) (atype := .int) hx hb (hts (.arrayClass .int) (by first | exact gj_X9_init_0 _ (gp_4 (gp_1 gp_h)) | decide +kernel)) rfl hK.1 rfl hw hS hbs (fun _ => rfl) (by decide) (by decide) (by decide) (show 20 + 1 ≤ 41 from Nat.le_of_ble_eq_true rfl) (show 6664 + (80 : Int).toNat ≤ 21484 from Nat.le_of_ble_eq_true rfl) dX9_init_171 (fun q21 H hw hS => ?_)
  replace hw : wx D tc base u (E ++ G9_41 tc h0 q1 q2 q3 q4 q5 q6 q7 q8 q9 q10 q11 q12 q13 q14 q15 q16 q17 q18 q19 q20 q21) H := hw
  refine W.widen (k := 21) (n := 6744) (by exact Nat.le_of_ble_eq_true rfl) (by exact Nat.le_of_ble_eq_true rfl) ?_
  refine g_putF (ci := 9) hx hb hf9 ⟨tyX9_ok, nmX9⟩ hw hS 0 rfl 25 (by decide) lk72 rfl hnm rfl (tyX9_ok 25 (by decide)) rfl rfl (Nat.le_of_ble_eq_true rfl) dX9_init_173 (fun H locs hw hS => ?_)
  replace hw : wx D tc base u (E ++ G9_42 tc h0 q1 q2 q3 q4 q5 q6 q7 q8 q9 q10 q11 q12 q13 q14 q15 q16 q17 q18 q19 q20 q21) H := hw
  refine lv_aload_n hx hb dX9_init_176 rfl (lv_at hl 0 rfl) ?_
  refine lv_bipush (v := jI 80) hx hb dX9_init_177 (by decide) ?_
  refine g_newa (t := 0) (z := 80) (a0 := ((80 : Int).toNat, .inl (fun _ => 0))) (atype := .int) hx hb (hts (.arrayClass .int) (by first | exact gj_X9_init_0 _ (gp_4 (gp_1 gp_h)) | decide +kernel)) rfl hK.1 rfl hw hS hbs (fun _ => rfl) (by decide) (by decide) (by decide) (show 21 + 1 ≤ 41 from Nat.le_of_ble_eq_true rfl) (show 6744 + (80 : Int).toNat ≤ 21484 from Nat.le_of_ble_eq_true rfl) dX9_init_179 (fun q22 H hw hS => ?_)
  replace hw : wx D tc base u (E ++ G9_43 tc h0 q1 q2 q3 q4 q5 q6 q7 q8 q9 q10 q11 q12 q13 q14 q15 q16 q17 q18 q19 q20 q21 q22) H := hw
  refine W.widen (k := 22) (n := 6824) (by exact Nat.le_of_ble_eq_true rfl) (by exact Nat.le_of_ble_eq_true rfl) ?_
  refine g_putF (ci := 9) hx hb hf9 ⟨tyX9_ok, nmX9⟩ hw hS 0 rfl 26 (by decide) lk75 rfl hnm rfl (tyX9_ok 26 (by decide)) rfl rfl (Nat.le_of_ble_eq_true rfl) dX9_init_181 (fun H locs hw hS => ?_)
  replace hw : wx D tc base u (E ++ G9_44 tc h0 q1 q2 q3 q4 q5 q6 q7 q8 q9 q10 q11 q12 q13 q14 q15 q16 q17 q18 q19 q20 q21 q22) H := hw
  refine lv_aload_n hx hb dX9_init_184 rfl (lv_at hl 0 rfl) ?_
  refine lv_bipush (v := jI 80) hx hb dX9_init_185 (by decide) ?_
  refine g_newa (t := 1) (z := 80) (a0 := ((80 : Int).toNat, .inr (.inl (fun _ => 0)))) (atype := .long) hx hb (hts (.arrayClass .long) (by first | exact gj_X9_init_0 _ (gp_4 (gp_4 (gp_1 gp_h))) | decide +kernel)) rfl hK.1 rfl hw hS hbs (fun _ => rfl) (by decide) (by decide) (by decide) (show 22 + 1 ≤ 41 from Nat.le_of_ble_eq_true rfl) (show 6824 + (80 : Int).toNat ≤ 21484 from Nat.le_of_ble_eq_true rfl) dX9_init_187 (fun q23 H hw hS => ?_)
  replace hw : wx D tc base u (E ++ G9_45 tc h0 q1 q2 q3 q4 q5 q6 q7 q8 q9 q10 q11 q12 q13 q14 q15 q16 q17 q18 q19 q20 q21 q22 q23) H := hw
  refine W.widen (k := 23) (n := 6904) (by exact Nat.le_of_ble_eq_true rfl) (by exact Nat.le_of_ble_eq_true rfl) ?_
  refine g_putF (ci := 9) hx hb hf9 ⟨tyX9_ok, nmX9⟩ hw hS 0 rfl 27 (by decide) lk78 rfl hnm rfl (tyX9_ok 27 (by decide)) rfl rfl (Nat.le_of_ble_eq_true rfl) dX9_init_189 (fun H locs hw hS => ?_)
  replace hw : wx D tc base u (E ++ G9_46 tc h0 q1 q2 q3 q4 q5 q6 q7 q8 q9 q10 q11 q12 q13 q14 q15 q16 q17 q18 q19 q20 q21 q22 q23) H := hw
  refine lv_aload_n hx hb dX9_init_192 rfl (lv_at hl 0 rfl) ?_
  refine lv_iconst (v := jI 5) hx hb dX9_init_193 rfl ?_
  refine g_newa (t := 0) (z := 5) (a0 := ((5 : Int).toNat, .inl (fun _ => 0))) (atype := .int) hx hb (hts (.arrayClass .int) (by first | exact gj_X9_init_0 _ (gp_4 (gp_1 gp_h)) | decide +kernel)) rfl hK.1 rfl hw hS hbs (fun _ => rfl) (by decide) (by decide) (by decide) (show 23 + 1 ≤ 41 from Nat.le_of_ble_eq_true rfl) (show 6904 + (5 : Int).toNat ≤ 21484 from Nat.le_of_ble_eq_true rfl) dX9_init_194 (fun q24 H hw hS => ?_)
  replace hw : wx D tc base u (E ++ G9_47 tc h0 q1 q2 q3 q4 q5 q6 q7 q8 q9 q10 q11 q12 q13 q14 q15 q16 q17 q18 q19 q20 q21 q22 q23 q24) H := hw
  refine W.widen (k := 24) (n := 6909) (by exact Nat.le_of_ble_eq_true rfl) (by exact Nat.le_of_ble_eq_true rfl) ?_
  refine g_putF (ci := 9) hx hb hf9 ⟨tyX9_ok, nmX9⟩ hw hS 0 rfl 29 (by decide) lk81 rfl hnm rfl (tyX9_ok 29 (by decide)) rfl rfl (Nat.le_of_ble_eq_true rfl) dX9_init_196 (fun H locs hw hS => ?_)
  replace hw : wx D tc base u (E ++ G9_48 tc h0 q1 q2 q3 q4 q5 q6 q7 q8 q9 q10 q11 q12 q13 q14 q15 q16 q17 q18 q19 q20 q21 q22 q23 q24) H := hw
  refine lv_aload_n hx hb dX9_init_199 rfl (lv_at hl 0 rfl) ?_
  refine lv_sipush (v := jI 150) hx hb dX9_init_200 (by decide) ?_
  refine g_newa (t := 0) (z := 150) (a0 := ((150 : Int).toNat, .inl (fun _ => 0))) (atype := .int) hx hb (hts (.arrayClass .int) (by first | exact gj_X9_init_0 _ (gp_4 (gp_1 gp_h)) | decide +kernel)) rfl hK.1 rfl hw hS hbs (fun _ => rfl) (by decide) (by decide) (by decide) (show 24 + 1 ≤ 41 from Nat.le_of_ble_eq_true rfl) (show 6909 + (150 : Int).toNat ≤ 21484 from Nat.le_of_ble_eq_true rfl) dX9_init_203 (fun q25 H hw hS => ?_)
  replace hw : wx D tc base u (E ++ G9_49 tc h0 q1 q2 q3 q4 q5 q6 q7 q8 q9 q10 q11 q12 q13 q14 q15 q16 q17 q18 q19 q20 q21 q22 q23 q24 q25) H := hw
  refine W.widen (k := 25) (n := 7059) (by exact Nat.le_of_ble_eq_true rfl) (by exact Nat.le_of_ble_eq_true rfl) ?_
  refine g_putF (ci := 9) hx hb hf9 ⟨tyX9_ok, nmX9⟩ hw hS 0 rfl 30 (by decide) lk84 rfl hnm rfl (tyX9_ok 30 (by decide)) rfl rfl (Nat.le_of_ble_eq_true rfl) dX9_init_205 (fun H locs hw hS => ?_)
  replace hw : wx D tc base u (E ++ G9_50 tc h0 q1 q2 q3 q4 q5 q6 q7 q8 q9 q10 q11 q12 q13 q14 q15 q16 q17 q18 q19 q20 q21 q22 q23 q24 q25) H := hw
  refine lv_aload_n hx hb dX9_init_208 rfl (lv_at hl 0 rfl) ?_
  refine lv_sipush (v := jI 150) hx hb dX9_init_209 (by decide) ?_
  refine g_newa (t := 0) (z := 150) (a0 := ((150 : Int).toNat, .inl (fun _ => 0))) (atype := .int) hx hb (hts (.arrayClass .int) (by first | exact gj_X9_init_0 _ (gp_4 (gp_1 gp_h)) | decide +kernel)) rfl hK.1 rfl hw hS hbs (fun _ => rfl) (by decide) (by decide) (by decide) (show 25 + 1 ≤ 41 from Nat.le_of_ble_eq_true rfl) (show 7059 + (150 : Int).toNat ≤ 21484 from Nat.le_of_ble_eq_true rfl) dX9_init_212 (fun q26 H hw hS => ?_)
  replace hw : wx D tc base u (E ++ G9_51 tc h0 q1 q2 q3 q4 q5 q6 q7 q8 q9 q10 q11 q12 q13 q14 q15 q16 q17 q18 q19 q20 q21 q22 q23 q24 q25 q26) H := hw
  refine W.widen (k := 26) (n := 7209) (by exact Nat.le_of_ble_eq_true rfl) (by exact Nat.le_of_ble_eq_true rfl) ?_
  refine g_putF (ci := 9) hx hb hf9 ⟨tyX9_ok, nmX9⟩ hw hS 0 rfl 31 (by decide) lk87 rfl hnm rfl (tyX9_ok 31 (by decide)) rfl rfl (Nat.le_of_ble_eq_true rfl) dX9_init_214 (fun H locs hw hS => ?_)
  replace hw : wx D tc base u (E ++ G9_52 tc h0 q1 q2 q3 q4 q5 q6 q7 q8 q9 q10 q11 q12 q13 q14 q15 q16 q17 q18 q19 q20 q21 q22 q23 q24 q25 q26) H := hw
  refine lv_aload_n hx hb dX9_init_217 rfl (lv_at hl 0 rfl) ?_
  refine lv_sipush (v := jI 750) hx hb dX9_init_218 (by decide) ?_
  refine g_newa (t := 0) (z := 750) (a0 := ((750 : Int).toNat, .inl (fun _ => 0))) (atype := .int) hx hb (hts (.arrayClass .int) (by first | exact gj_X9_init_0 _ (gp_4 (gp_1 gp_h)) | decide +kernel)) rfl hK.1 rfl hw hS hbs (fun _ => rfl) (by decide) (by decide) (by decide) (show 26 + 1 ≤ 41 from Nat.le_of_ble_eq_true rfl) (show 7209 + (750 : Int).toNat ≤ 21484 from Nat.le_of_ble_eq_true rfl) dX9_init_221 (fun q27 H hw hS => ?_)
  replace hw : wx D tc base u (E ++ G9_53 tc h0 q1 q2 q3 q4 q5 q6 q7 q8 q9 q10 q11 q12 q13 q14 q15 q16 q17 q18 q19 q20 q21 q22 q23 q24 q25 q26 q27) H := hw
  refine W.widen (k := 27) (n := 7959) (by exact Nat.le_of_ble_eq_true rfl) (by exact Nat.le_of_ble_eq_true rfl) ?_
  refine g_putF (ci := 9) hx hb hf9 ⟨tyX9_ok, nmX9⟩ hw hS 0 rfl 32 (by decide) lk90 rfl hnm rfl (tyX9_ok 32 (by decide)) rfl rfl (Nat.le_of_ble_eq_true rfl) dX9_init_223 (fun H locs hw hS => ?_)
  replace hw : wx D tc base u (E ++ G9_54 tc h0 q1 q2 q3 q4 q5 q6 q7 q8 q9 q10 q11 q12 q13 q14 q15 q16 q17 q18 q19 q20 q21 q22 q23 q24 q25 q26 q27) H := hw
  refine lv_aload_n hx hb dX9_init_226 rfl (lv_at hl 0 rfl) ?_
  refine lv_sipush (v := jI 750) hx hb dX9_init_227 (by decide) ?_
  refine g_newa (t := 0) (z := 750) (a0 := ((750 : Int).toNat, .inl (fun _ => 0))) (atype := .int) hx hb (hts (.arrayClass .int) (by first | exact gj_X9_init_0 _ (gp_4 (gp_1 gp_h)) | decide +kernel)) rfl hK.1 rfl hw hS hbs (fun _ => rfl) (by decide) (by decide) (by decide) (show 27 + 1 ≤ 41 from Nat.le_of_ble_eq_true rfl) (show 7959 + (750 : Int).toNat ≤ 21484 from Nat.le_of_ble_eq_true rfl) dX9_init_230 (fun q28 H hw hS => ?_)
  replace hw : wx D tc base u (E ++ G9_55 tc h0 q1 q2 q3 q4 q5 q6 q7 q8 q9 q10 q11 q12 q13 q14 q15 q16 q17 q18 q19 q20 q21 q22 q23 q24 q25 q26 q27 q28) H := hw
  refine W.widen (k := 28) (n := 8709) (by exact Nat.le_of_ble_eq_true rfl) (by exact Nat.le_of_ble_eq_true rfl) ?_
  refine g_putF (ci := 9) hx hb hf9 ⟨tyX9_ok, nmX9⟩ hw hS 0 rfl 33 (by decide) lk93 rfl hnm rfl (tyX9_ok 33 (by decide)) rfl rfl (Nat.le_of_ble_eq_true rfl) dX9_init_232 (fun H locs hw hS => ?_)
  replace hw : wx D tc base u (E ++ G9_56 tc h0 q1 q2 q3 q4 q5 q6 q7 q8 q9 q10 q11 q12 q13 q14 q15 q16 q17 q18 q19 q20 q21 q22 q23 q24 q25 q26 q27 q28) H := hw
  refine lv_aload_n hx hb dX9_init_235 rfl (lv_at hl 0 rfl) ?_
  refine lv_sipush (v := jI 750) hx hb dX9_init_236 (by decide) ?_
  refine g_newa (t := 1) (z := 750) (a0 := ((750 : Int).toNat, .inr (.inl (fun _ => 0)))) (atype := .long) hx hb (hts (.arrayClass .long) (by first | exact gj_X9_init_0 _ (gp_4 (gp_4 (gp_1 gp_h))) | decide +kernel)) rfl hK.1 rfl hw hS hbs (fun _ => rfl) (by decide) (by decide) (by decide) (show 28 + 1 ≤ 41 from Nat.le_of_ble_eq_true rfl) (show 8709 + (750 : Int).toNat ≤ 21484 from Nat.le_of_ble_eq_true rfl) dX9_init_239 (fun q29 H hw hS => ?_)
  replace hw : wx D tc base u (E ++ G9_57 tc h0 q1 q2 q3 q4 q5 q6 q7 q8 q9 q10 q11 q12 q13 q14 q15 q16 q17 q18 q19 q20 q21 q22 q23 q24 q25 q26 q27 q28 q29) H := hw
  refine W.widen (k := 29) (n := 9459) (by exact Nat.le_of_ble_eq_true rfl) (by exact Nat.le_of_ble_eq_true rfl) ?_
  refine g_putF (ci := 9) hx hb hf9 ⟨tyX9_ok, nmX9⟩ hw hS 0 rfl 34 (by decide) lk96 rfl hnm rfl (tyX9_ok 34 (by decide)) rfl rfl (Nat.le_of_ble_eq_true rfl) dX9_init_241 (fun H locs hw hS => ?_)
  replace hw : wx D tc base u (E ++ G9_58 tc h0 q1 q2 q3 q4 q5 q6 q7 q8 q9 q10 q11 q12 q13 q14 q15 q16 q17 q18 q19 q20 q21 q22 q23 q24 q25 q26 q27 q28 q29) H := hw
  refine lv_aload_n hx hb dX9_init_244 rfl (lv_at hl 0 rfl) ?_
  refine lv_iconst (v := jI 5) hx hb dX9_init_245 rfl ?_
  refine g_newa (t := 0) (z := 5) (a0 := ((5 : Int).toNat, .inl (fun _ => 0))) (atype := .int) hx hb (hts (.arrayClass .int) (by first | exact gj_X9_init_0 _ (gp_4 (gp_1 gp_h)) | decide +kernel)) rfl hK.1 rfl hw hS hbs (fun _ => rfl) (by decide) (by decide) (by decide) (show 29 + 1 ≤ 41 from Nat.le_of_ble_eq_true rfl) (show 9459 + (5 : Int).toNat ≤ 21484 from Nat.le_of_ble_eq_true rfl) dX9_init_246 (fun q30 H hw hS => ?_)
  replace hw : wx D tc base u (E ++ G9_59 tc h0 q1 q2 q3 q4 q5 q6 q7 q8 q9 q10 q11 q12 q13 q14 q15 q16 q17 q18 q19 q20 q21 q22 q23 q24 q25 q26 q27 q28 q29 q30) H := hw
  refine W.widen (k := 30) (n := 9464) (by exact Nat.le_of_ble_eq_true rfl) (by exact Nat.le_of_ble_eq_true rfl) ?_
  refine g_putF (ci := 9) hx hb hf9 ⟨tyX9_ok, nmX9⟩ hw hS 0 rfl 35 (by decide) lk99 rfl hnm rfl (tyX9_ok 35 (by decide)) rfl rfl (Nat.le_of_ble_eq_true rfl) dX9_init_248 (fun H locs hw hS => ?_)
  replace hw : wx D tc base u (E ++ G9_60 tc h0 q1 q2 q3 q4 q5 q6 q7 q8 q9 q10 q11 q12 q13 q14 q15 q16 q17 q18 q19 q20 q21 q22 q23 q24 q25 q26 q27 q28 q29 q30) H := hw
  refine lv_aload_n hx hb dX9_init_251 rfl (lv_at hl 0 rfl) ?_
  refine lv_sipush (v := jI 750) hx hb dX9_init_252 (by decide) ?_
  refine g_newa (t := 0) (z := 750) (a0 := ((750 : Int).toNat, .inl (fun _ => 0))) (atype := .int) hx hb (hts (.arrayClass .int) (by first | exact gj_X9_init_0 _ (gp_4 (gp_1 gp_h)) | decide +kernel)) rfl hK.1 rfl hw hS hbs (fun _ => rfl) (by decide) (by decide) (by decide) (show 30 + 1 ≤ 41 from Nat.le_of_ble_eq_true rfl) (show 9464 + (750 : Int).toNat ≤ 21484 from Nat.le_of_ble_eq_true rfl) dX9_init_255 (fun q31 H hw hS => ?_)
  replace hw : wx D tc base u (E ++ G9_61 tc h0 q1 q2 q3 q4 q5 q6 q7 q8 q9 q10 q11 q12 q13 q14 q15 q16 q17 q18 q19 q20 q21 q22 q23 q24 q25 q26 q27 q28 q29 q30 q31) H := hw
  refine W.widen (k := 31) (n := 10214) (by exact Nat.le_of_ble_eq_true rfl) (by exact Nat.le_of_ble_eq_true rfl) ?_
  refine g_putF (ci := 9) hx hb hf9 ⟨tyX9_ok, nmX9⟩ hw hS 0 rfl 36 (by decide) lk102 rfl hnm rfl (tyX9_ok 36 (by decide)) rfl rfl (Nat.le_of_ble_eq_true rfl) dX9_init_257 (fun H locs hw hS => ?_)
  replace hw : wx D tc base u (E ++ G9_62 tc h0 q1 q2 q3 q4 q5 q6 q7 q8 q9 q10 q11 q12 q13 q14 q15 q16 q17 q18 q19 q20 q21 q22 q23 q24 q25 q26 q27 q28 q29 q30 q31) H := hw
  refine lv_aload_n hx hb dX9_init_260 rfl (lv_at hl 0 rfl) ?_
  refine lv_sipush (v := jI 750) hx hb dX9_init_261 (by decide) ?_
  refine g_newa (t := 0) (z := 750) (a0 := ((750 : Int).toNat, .inl (fun _ => 0))) (atype := .int) hx hb (hts (.arrayClass .int) (by first | exact gj_X9_init_0 _ (gp_4 (gp_1 gp_h)) | decide +kernel)) rfl hK.1 rfl hw hS hbs (fun _ => rfl) (by decide) (by decide) (by decide) (show 31 + 1 ≤ 41 from Nat.le_of_ble_eq_true rfl) (show 10214 + (750 : Int).toNat ≤ 21484 from Nat.le_of_ble_eq_true rfl) dX9_init_264 (fun q32 H hw hS => ?_)
  replace hw : wx D tc base u (E ++ G9_63 tc h0 q1 q2 q3 q4 q5 q6 q7 q8 q9 q10 q11 q12 q13 q14 q15 q16 q17 q18 q19 q20 q21 q22 q23 q24 q25 q26 q27 q28 q29 q30 q31 q32) H := hw
  refine W.widen (k := 32) (n := 10964) (by exact Nat.le_of_ble_eq_true rfl) (by exact Nat.le_of_ble_eq_true rfl) ?_
  refine g_putF (ci := 9) hx hb hf9 ⟨tyX9_ok, nmX9⟩ hw hS 0 rfl 37 (by decide) lk105 rfl hnm rfl (tyX9_ok 37 (by decide)) rfl rfl (Nat.le_of_ble_eq_true rfl) dX9_init_266 (fun H locs hw hS => ?_)
  replace hw : wx D tc base u (E ++ G9_64 tc h0 q1 q2 q3 q4 q5 q6 q7 q8 q9 q10 q11 q12 q13 q14 q15 q16 q17 q18 q19 q20 q21 q22 q23 q24 q25 q26 q27 q28 q29 q30 q31 q32) H := hw
  refine lv_aload_n hx hb dX9_init_269 rfl (lv_at hl 0 rfl) ?_
  refine lv_sipush (v := jI 9000) hx hb dX9_init_270 (by decide) ?_
  refine g_newa (t := 1) (z := 9000) (a0 := ((9000 : Int).toNat, .inr (.inl (fun _ => 0)))) (atype := .long) hx hb (hts (.arrayClass .long) (by first | exact gj_X9_init_0 _ (gp_4 (gp_4 (gp_1 gp_h))) | decide +kernel)) rfl hK.1 rfl hw hS hbs (fun _ => rfl) (by decide) (by decide) (by decide) (show 32 + 1 ≤ 41 from Nat.le_of_ble_eq_true rfl) (show 10964 + (9000 : Int).toNat ≤ 21484 from Nat.le_of_ble_eq_true rfl) dX9_init_273 (fun q33 H hw hS => ?_)
  replace hw : wx D tc base u (E ++ G9_65 tc h0 q1 q2 q3 q4 q5 q6 q7 q8 q9 q10 q11 q12 q13 q14 q15 q16 q17 q18 q19 q20 q21 q22 q23 q24 q25 q26 q27 q28 q29 q30 q31 q32 q33) H := hw
  refine W.widen (k := 33) (n := 19964) (by exact Nat.le_of_ble_eq_true rfl) (by exact Nat.le_of_ble_eq_true rfl) ?_
  refine g_putF (ci := 9) hx hb hf9 ⟨tyX9_ok, nmX9⟩ hw hS 0 rfl 38 (by decide) lk108 rfl hnm rfl (tyX9_ok 38 (by decide)) rfl rfl (Nat.le_of_ble_eq_true rfl) dX9_init_275 (fun H locs hw hS => ?_)
  replace hw : wx D tc base u (E ++ G9_66 tc h0 q1 q2 q3 q4 q5 q6 q7 q8 q9 q10 q11 q12 q13 q14 q15 q16 q17 q18 q19 q20 q21 q22 q23 q24 q25 q26 q27 q28 q29 q30 q31 q32 q33) H := hw
  refine lv_aload_n hx hb dX9_init_278 rfl (lv_at hl 0 rfl) ?_
  refine lv_bipush (v := jI 30) hx hb dX9_init_279 (by decide) ?_
  refine g_newa (t := 0) (z := 30) (a0 := ((30 : Int).toNat, .inl (fun _ => 0))) (atype := .int) hx hb (hts (.arrayClass .int) (by first | exact gj_X9_init_0 _ (gp_4 (gp_1 gp_h)) | decide +kernel)) rfl hK.1 rfl hw hS hbs (fun _ => rfl) (by decide) (by decide) (by decide) (show 33 + 1 ≤ 41 from Nat.le_of_ble_eq_true rfl) (show 19964 + (30 : Int).toNat ≤ 21484 from Nat.le_of_ble_eq_true rfl) dX9_init_281 (fun q34 H hw hS => ?_)
  replace hw : wx D tc base u (E ++ G9_67 tc h0 q1 q2 q3 q4 q5 q6 q7 q8 q9 q10 q11 q12 q13 q14 q15 q16 q17 q18 q19 q20 q21 q22 q23 q24 q25 q26 q27 q28 q29 q30 q31 q32 q33 q34) H := hw
  refine W.widen (k := 34) (n := 19994) (by exact Nat.le_of_ble_eq_true rfl) (by exact Nat.le_of_ble_eq_true rfl) ?_
  refine g_putF (ci := 9) hx hb hf9 ⟨tyX9_ok, nmX9⟩ hw hS 0 rfl 39 (by decide) lk111 rfl hnm rfl (tyX9_ok 39 (by decide)) rfl rfl (Nat.le_of_ble_eq_true rfl) dX9_init_283 (fun H locs hw hS => ?_)
  replace hw : wx D tc base u (E ++ G9_68 tc h0 q1 q2 q3 q4 q5 q6 q7 q8 q9 q10 q11 q12 q13 q14 q15 q16 q17 q18 q19 q20 q21 q22 q23 q24 q25 q26 q27 q28 q29 q30 q31 q32 q33 q34) H := hw
  refine lv_aload_n hx hb dX9_init_286 rfl (lv_at hl 0 rfl) ?_
  refine lv_sipush (v := jI 150) hx hb dX9_init_287 (by decide) ?_
  refine g_newa (t := 0) (z := 150) (a0 := ((150 : Int).toNat, .inl (fun _ => 0))) (atype := .int) hx hb (hts (.arrayClass .int) (by first | exact gj_X9_init_0 _ (gp_4 (gp_1 gp_h)) | decide +kernel)) rfl hK.1 rfl hw hS hbs (fun _ => rfl) (by decide) (by decide) (by decide) (show 34 + 1 ≤ 41 from Nat.le_of_ble_eq_true rfl) (show 19994 + (150 : Int).toNat ≤ 21484 from Nat.le_of_ble_eq_true rfl) dX9_init_290 (fun q35 H hw hS => ?_)
  replace hw : wx D tc base u (E ++ G9_69 tc h0 q1 q2 q3 q4 q5 q6 q7 q8 q9 q10 q11 q12 q13 q14 q15 q16 q17 q18 q19 q20 q21 q22 q23 q24 q25 q26 q27 q28 q29 q30 q31 q32 q33 q34 q35) H := hw
  refine W.widen (k := 35) (n := 20144) (by exact Nat.le_of_ble_eq_true rfl) (by exact Nat.le_of_ble_eq_true rfl) ?_
  refine g_putF (ci := 9) hx hb hf9 ⟨tyX9_ok, nmX9⟩ hw hS 0 rfl 40 (by decide) lk114 rfl hnm rfl (tyX9_ok 40 (by decide)) rfl rfl (Nat.le_of_ble_eq_true rfl) dX9_init_292 (fun H locs hw hS => ?_)
  replace hw : wx D tc base u (E ++ G9_70 tc h0 q1 q2 q3 q4 q5 q6 q7 q8 q9 q10 q11 q12 q13 q14 q15 q16 q17 q18 q19 q20 q21 q22 q23 q24 q25 q26 q27 q28 q29 q30 q31 q32 q33 q34 q35) H := hw
  refine lv_aload_n hx hb dX9_init_295 rfl (lv_at hl 0 rfl) ?_
  refine lv_bipush (v := jI (-9)) hx hb dX9_init_296 (by decide) ?_
  refine g_put (ci := 9) hx hb hf9 ⟨tyX9_ok, nmX9⟩ hw hS 0 rfl 41 (by decide) lk117 rfl (tyX9_ok 41 (by decide)) rfl rfl (Nat.le_of_ble_eq_true rfl) dX9_init_298 (fun H locs hw hS => ?_)
  replace hw : wx D tc base u (E ++ G9_71 tc h0 q1 q2 q3 q4 q5 q6 q7 q8 q9 q10 q11 q12 q13 q14 q15 q16 q17 q18 q19 q20 q21 q22 q23 q24 q25 q26 q27 q28 q29 q30 q31 q32 q33 q34 q35) H := hw
  refine lv_aload_n hx hb dX9_init_301 rfl (lv_at hl 0 rfl) ?_
  refine lv_bipush (v := jI (-9)) hx hb dX9_init_302 (by decide) ?_
  refine g_put (ci := 9) hx hb hf9 ⟨tyX9_ok, nmX9⟩ hw hS 0 rfl 42 (by decide) lk121 rfl (tyX9_ok 42 (by decide)) rfl rfl (Nat.le_of_ble_eq_true rfl) dX9_init_304 (fun H locs hw hS => ?_)
  replace hw : wx D tc base u (E ++ G9_72 tc h0 q1 q2 q3 q4 q5 q6 q7 q8 q9 q10 q11 q12 q13 q14 q15 q16 q17 q18 q19 q20 q21 q22 q23 q24 q25 q26 q27 q28 q29 q30 q31 q32 q33 q34 q35) H := hw
  refine lv_aload_n hx hb dX9_init_307 rfl (lv_at hl 0 rfl) ?_
  refine lv_bipush (v := jI (-9)) hx hb dX9_init_308 (by decide) ?_
  refine g_put (ci := 9) hx hb hf9 ⟨tyX9_ok, nmX9⟩ hw hS 0 rfl 43 (by decide) lk124 rfl (tyX9_ok 43 (by decide)) rfl rfl (Nat.le_of_ble_eq_true rfl) dX9_init_310 (fun H locs hw hS => ?_)
  replace hw : wx D tc base u (E ++ G9_73 tc h0 q1 q2 q3 q4 q5 q6 q7 q8 q9 q10 q11 q12 q13 q14 q15 q16 q17 q18 q19 q20 q21 q22 q23 q24 q25 q26 q27 q28 q29 q30 q31 q32 q33 q34 q35) H := hw
  refine lv_aload_n hx hb dX9_init_313 rfl (lv_at hl 0 rfl) ?_
  refine lv_sipush (v := jI 450) hx hb dX9_init_314 (by decide) ?_
  refine g_newa (t := 0) (z := 450) (a0 := ((450 : Int).toNat, .inl (fun _ => 0))) (atype := .int) hx hb (hts (.arrayClass .int) (by first | exact gj_X9_init_0 _ (gp_4 (gp_1 gp_h)) | decide +kernel)) rfl hK.1 rfl hw hS hbs (fun _ => rfl) (by decide) (by decide) (by decide) (show 35 + 1 ≤ 41 from Nat.le_of_ble_eq_true rfl) (show 20144 + (450 : Int).toNat ≤ 21484 from Nat.le_of_ble_eq_true rfl) dX9_init_317 (fun q36 H hw hS => ?_)
  replace hw : wx D tc base u (E ++ G9_74 tc h0 q1 q2 q3 q4 q5 q6 q7 q8 q9 q10 q11 q12 q13 q14 q15 q16 q17 q18 q19 q20 q21 q22 q23 q24 q25 q26 q27 q28 q29 q30 q31 q32 q33 q34 q35 q36) H := hw
  refine W.widen (k := 36) (n := 20594) (by exact Nat.le_of_ble_eq_true rfl) (by exact Nat.le_of_ble_eq_true rfl) ?_
  refine g_putF (ci := 9) hx hb hf9 ⟨tyX9_ok, nmX9⟩ hw hS 0 rfl 44 (by decide) lk127 rfl hnm rfl (tyX9_ok 44 (by decide)) rfl rfl (Nat.le_of_ble_eq_true rfl) dX9_init_319 (fun H locs hw hS => ?_)
  replace hw : wx D tc base u (E ++ G9_75 tc h0 q1 q2 q3 q4 q5 q6 q7 q8 q9 q10 q11 q12 q13 q14 q15 q16 q17 q18 q19 q20 q21 q22 q23 q24 q25 q26 q27 q28 q29 q30 q31 q32 q33 q34 q35 q36) H := hw
  refine lv_aload_n hx hb dX9_init_322 rfl (lv_at hl 0 rfl) ?_
  refine lv_bipush (v := jI 30) hx hb dX9_init_323 (by decide) ?_
  refine g_newa (t := 0) (z := 30) (a0 := ((30 : Int).toNat, .inl (fun _ => 0))) (atype := .int) hx hb (hts (.arrayClass .int) (by first | exact gj_X9_init_0 _ (gp_4 (gp_1 gp_h)) | decide +kernel)) rfl hK.1 rfl hw hS hbs (fun _ => rfl) (by decide) (by decide) (by decide) (show 36 + 1 ≤ 41 from Nat.le_of_ble_eq_true rfl) (show 20594 + (30 : Int).toNat ≤ 21484 from Nat.le_of_ble_eq_true rfl) dX9_init_325 (fun q37 H hw hS => ?_)
  replace hw : wx D tc base u (E ++ G9_76 tc h0 q1 q2 q3 q4 q5 q6 q7 q8 q9 q10 q11 q12 q13 q14 q15 q16 q17 q18 q19 q20 q21 q22 q23 q24 q25 q26 q27 q28 q29 q30 q31 q32 q33 q34 q35 q36 q37) H := hw
  refine W.widen (k := 37) (n := 20624) (by exact Nat.le_of_ble_eq_true rfl) (by exact Nat.le_of_ble_eq_true rfl) ?_
  refine g_putF (ci := 9) hx hb hf9 ⟨tyX9_ok, nmX9⟩ hw hS 0 rfl 45 (by decide) lk130 rfl hnm rfl (tyX9_ok 45 (by decide)) rfl rfl (Nat.le_of_ble_eq_true rfl) dX9_init_327 (fun H locs hw hS => ?_)
  replace hw : wx D tc base u (E ++ G9_77 tc h0 q1 q2 q3 q4 q5 q6 q7 q8 q9 q10 q11 q12 q13 q14 q15 q16 q17 q18 q19 q20 q21 q22 q23 q24 q25 q26 q27 q28 q29 q30 q31 q32 q33 q34 q35 q36 q37) H := hw
  refine lv_aload_n hx hb dX9_init_330 rfl (lv_at hl 0 rfl) ?_
  refine lv_bipush (v := jI 30) hx hb dX9_init_331 (by decide) ?_
  refine g_newa (t := 0) (z := 30) (a0 := ((30 : Int).toNat, .inl (fun _ => 0))) (atype := .int) hx hb (hts (.arrayClass .int) (by first | exact gj_X9_init_0 _ (gp_4 (gp_1 gp_h)) | decide +kernel)) rfl hK.1 rfl hw hS hbs (fun _ => rfl) (by decide) (by decide) (by decide) (show 37 + 1 ≤ 41 from Nat.le_of_ble_eq_true rfl) (show 20624 + (30 : Int).toNat ≤ 21484 from Nat.le_of_ble_eq_true rfl) dX9_init_333 (fun q38 H hw hS => ?_)
  replace hw : wx D tc base u (E ++ G9_78 tc h0 q1 q2 q3 q4 q5 q6 q7 q8 q9 q10 q11 q12 q13 q14 q15 q16 q17 q18 q19 q20 q21 q22 q23 q24 q25 q26 q27 q28 q29 q30 q31 q32 q33 q34 q35 q36 q37 q38) H := hw
  refine W.widen (k := 38) (n := 20654) (by exact Nat.le_of_ble_eq_true rfl) (by exact Nat.le_of_ble_eq_true rfl) ?_
  refine g_putF (ci := 9) hx hb hf9 ⟨tyX9_ok, nmX9⟩ hw hS 0 rfl 46 (by decide) lk133 rfl hnm rfl (tyX9_ok 46 (by decide)) rfl rfl (Nat.le_of_ble_eq_true rfl) dX9_init_335 (fun H locs hw hS => ?_)
  replace hw : wx D tc base u (E ++ G9_79 tc h0 q1 q2 q3 q4 q5 q6 q7 q8 q9 q10 q11 q12 q13 q14 q15 q16 q17 q18 q19 q20 q21 q22 q23 q24 q25 q26 q27 q28 q29 q30 q31 q32 q33 q34 q35 q36 q37 q38) H := hw
  refine lv_aload_n hx hb dX9_init_338 rfl (lv_at hl 0 rfl) ?_
  refine lv_sipush (v := jI 400) hx hb dX9_init_339 (by decide) ?_
  refine g_newa (t := 0) (z := 400) (a0 := ((400 : Int).toNat, .inl (fun _ => 0))) (atype := .int) hx hb (hts (.arrayClass .int) (by first | exact gj_X9_init_0 _ (gp_4 (gp_1 gp_h)) | decide +kernel)) rfl hK.1 rfl hw hS hbs (fun _ => rfl) (by decide) (by decide) (by decide) (show 38 + 1 ≤ 41 from Nat.le_of_ble_eq_true rfl) (show 20654 + (400 : Int).toNat ≤ 21484 from Nat.le_of_ble_eq_true rfl) dX9_init_342 (fun q39 H hw hS => ?_)
  replace hw : wx D tc base u (E ++ G9_80 tc h0 q1 q2 q3 q4 q5 q6 q7 q8 q9 q10 q11 q12 q13 q14 q15 q16 q17 q18 q19 q20 q21 q22 q23 q24 q25 q26 q27 q28 q29 q30 q31 q32 q33 q34 q35 q36 q37 q38 q39) H := hw
  refine W.widen (k := 39) (n := 21054) (by exact Nat.le_of_ble_eq_true rfl) (by exact Nat.le_of_ble_eq_true rfl) ?_
  refine g_putF (ci := 9) hx hb hf9 ⟨tyX9_ok, nmX9⟩ hw hS 0 rfl 47 (by decide) lk136 rfl hnm rfl (tyX9_ok 47 (by decide)) rfl rfl (Nat.le_of_ble_eq_true rfl) dX9_init_344 (fun H locs hw hS => ?_)
  replace hw : wx D tc base u (E ++ G9_81 tc h0 q1 q2 q3 q4 q5 q6 q7 q8 q9 q10 q11 q12 q13 q14 q15 q16 q17 q18 q19 q20 q21 q22 q23 q24 q25 q26 q27 q28 q29 q30 q31 q32 q33 q34 q35 q36 q37 q38 q39) H := hw
  refine lv_aload_n hx hb dX9_init_347 rfl (lv_at hl 0 rfl) ?_
  refine lv_sipush (v := jI 400) hx hb dX9_init_348 (by decide) ?_
  refine g_newa (t := 0) (z := 400) (a0 := ((400 : Int).toNat, .inl (fun _ => 0))) (atype := .int) hx hb (hts (.arrayClass .int) (by first | exact gj_X9_init_0 _ (gp_4 (gp_1 gp_h)) | decide +kernel)) rfl hK.1 rfl hw hS hbs (fun _ => rfl) (by decide) (by decide) (by decide) (show 39 + 1 ≤ 41 from Nat.le_of_ble_eq_true rfl) (show 21054 + (400 : Int).toNat ≤ 21484 from Nat.le_of_ble_eq_true rfl) dX9_init_351 (fun q40 H hw hS => ?_)
  replace hw : wx D tc base u (E ++ G9_82 tc h0 q1 q2 q3 q4 q5 q6 q7 q8 q9 q10 q11 q12 q13 q14 q15 q16 q17 q18 q19 q20 q21 q22 q23 q24 q25 q26 q27 q28 q29 q30 q31 q32 q33 q34 q35 q36 q37 q38 q39 q40) H := hw
  refine W.widen (k := 40) (n := 21454) (by exact Nat.le_of_ble_eq_true rfl) (by exact Nat.le_of_ble_eq_true rfl) ?_
  refine g_putF (ci := 9) hx hb hf9 ⟨tyX9_ok, nmX9⟩ hw hS 0 rfl 48 (by decide) lk139 rfl hnm rfl (tyX9_ok 48 (by decide)) rfl rfl (Nat.le_of_ble_eq_true rfl) dX9_init_353 (fun H locs hw hS => ?_)
  replace hw : wx D tc base u (E ++ G9_83 tc h0 q1 q2 q3 q4 q5 q6 q7 q8 q9 q10 q11 q12 q13 q14 q15 q16 q17 q18 q19 q20 q21 q22 q23 q24 q25 q26 q27 q28 q29 q30 q31 q32 q33 q34 q35 q36 q37 q38 q39 q40) H := hw
  refine lv_aload_n hx hb dX9_init_356 rfl (lv_at hl 0 rfl) ?_
  refine lv_bipush (v := jI 30) hx hb dX9_init_357 (by decide) ?_
  refine g_newa (t := 0) (z := 30) (a0 := ((30 : Int).toNat, .inl (fun _ => 0))) (atype := .int) hx hb (hts (.arrayClass .int) (by first | exact gj_X9_init_0 _ (gp_4 (gp_1 gp_h)) | decide +kernel)) rfl hK.1 rfl hw hS hbs (fun _ => rfl) (by decide) (by decide) (by decide) (show 40 + 1 ≤ 41 from Nat.le_of_ble_eq_true rfl) (show 21454 + (30 : Int).toNat ≤ 21484 from Nat.le_of_ble_eq_true rfl) dX9_init_359 (fun q41 H hw hS => ?_)
  replace hw : wx D tc base u (E ++ G9_84 tc h0 q1 q2 q3 q4 q5 q6 q7 q8 q9 q10 q11 q12 q13 q14 q15 q16 q17 q18 q19 q20 q21 q22 q23 q24 q25 q26 q27 q28 q29 q30 q31 q32 q33 q34 q35 q36 q37 q38 q39 q40 q41) H := hw
  refine W.widen (k := 41) (n := 21484) (by exact Nat.le_of_ble_eq_true rfl) (by exact Nat.le_of_ble_eq_true rfl) ?_
  refine g_putF (ci := 9) hx hb hf9 ⟨tyX9_ok, nmX9⟩ hw hS 0 rfl 49 (by decide) lk142 rfl hnm rfl (tyX9_ok 49 (by decide)) rfl rfl (Nat.le_of_ble_eq_true rfl) dX9_init_361 (fun H locs hw hS => ?_)
  replace hw : wx D tc base u (E ++ G9_85 tc h0 q1 q2 q3 q4 q5 q6 q7 q8 q9 q10 q11 q12 q13 q14 q15 q16 q17 q18 q19 q20 q21 q22 q23 q24 q25 q26 q27 q28 q29 q30 q31 q32 q33 q34 q35 q36 q37 q38 q39 q40 q41) H := hw
  refine ret_x hx hb hr hlocks hw hS (show 41 ≤ 41 by omega) (show 21484 ≤ 21484 by omega) dX9_init_364 ?_
  exact ⟨rfl, q1, q2, q3, q4, q5, q6, q7, q8, q9, q10, q11, q12, q13, q14, q15, q16, q17, q18, q19, q20, q21, q22, q23, q24, q25, q26, q27, q28, q29, q30, q31, q32, q33, q34, q35, q36, q37, q38, q39, q40, q41, rfl⟩
end
section
/-! more of what holds of the reference -/
def MInv5 (X : Nat → Int → Int → Int) : Prop := mA X ∧ mB X ∧ mC X ∧ mD X ∧ mF X
/-! the reference's changes of state -/
theorem tyv_up {a b lane v : Int} (h : tyv a lane v) (hab : a ≤ b) : tyv b lane v := ⟨h.1, fun q => ⟨(h.2.1 q).1, by have := (h.2.1 q).2; omega⟩, h.2.2⟩
theorem tyv_none {a lane : Int} (ha : 0 ≤ a) : tyv a lane (-1) := ⟨fun _ => by omega, fun _ => by omega, fun _ => by omega⟩
theorem tyv_0 {a v : Int} : tyv a 0 v := ⟨fun _ => by omega, fun _ => by omega, fun _ => by omega⟩
section M3
variable {M : List Nat} {X X1 : Nat → Int → Int → Int}
/-- the columns behind the saves stay -/
theorem mC_of (h : mC X) (hF : Frm M X X1) (hd : ∀ c ∈ [7000, 7100, 7200, 7400, 7500], c ∉ M) (ht : X 40 0 2 ≤ X1 40 0 2) : mC X1 := by
  have e0 : ∀ j, X1 70 0 j = X 70 0 j := fun j => hF 70 0 j (hd 7000 (by decide))
  have e1 : ∀ j, X1 71 0 j = X 71 0 j := fun j => hF 71 0 j (hd 7100 (by decide))
  have e2 : ∀ j, X1 72 0 j = X 72 0 j := fun j => hF 72 0 j (hd 7200 (by decide))
  have e4 : ∀ j, X1 74 0 j = X 74 0 j := fun j => hF 74 0 j (hd 7400 (by decide))
  have e5 : ∀ j, X1 75 0 j = X 75 0 j := fun j => hF 75 0 j (hd 7500 (by decide))
  intro s r h0 h1 h2 h3
  rw [e0] at h3
  obtain ⟨c1, c2⟩ := h s r h0 h1 h2 h3
  refine ⟨by rw [e1]; omega, fun k k0 k1 => ?_⟩
  rw [e2] at k1
  simp only [e0, e4, e5]
  exact c2 k k0 k1
theorem mE_of (h : mE X) (hF : Frm M X X1) (hd : ∀ c ∈ [6200, 4021, 4023], c ∉ M) : mE X1 := by
  have e0 : ∀ j, X1 62 0 j = X 62 0 j := fun j => hF 62 0 j (hd 6200 (by decide))
  have e1 : X1 40 0 20 = X 40 0 20 := hF 40 0 20 (hd 4021 (by decide))
  have e2 : X1 40 0 22 = X 40 0 22 := hF 40 0 22 (hd 4023 (by decide))
  unfold mE at *
  simp only [e0, e1, e2]
  exact h
theorem mD_of (h : mD X) (hF : Frm M X X1) (hd : ∀ c ∈ [5500, 6400, 6500, 6600, 6700, 6800, 4014, 4023], c ∉ M) (e : ∀ n : Int, 0 ≤ n → n < X 40 0 22 → X 67 0 n < 0 → X 64 0 n < X 40 0 13 → X 65 0 n < X 44 0 (X 55 0 (X 64 0 n)) → X 44 0 (X 55 0 (X 64 0 n)) ≤ X1 44 0 (X 55 0 (X 64 0 n)) ∧ X1 46 0 (5 * X 55 0 (X 64 0 n) + X 65 0 n) = X 46 0 (5 * X 55 0 (X 64 0 n) + X 65 0 n)) : mD X1 := by
  have e0 : ∀ j, X1 55 0 j = X 55 0 j := fun j => hF 55 0 j (hd 5500 (by decide))
  have e1 : ∀ j, X1 64 0 j = X 64 0 j := fun j => hF 64 0 j (hd 6400 (by decide))
  have e2 : ∀ j, X1 65 0 j = X 65 0 j := fun j => hF 65 0 j (hd 6500 (by decide))
  have e3 : ∀ j, X1 66 0 j = X 66 0 j := fun j => hF 66 0 j (hd 6600 (by decide))
  have e4 : ∀ j, X1 67 0 j = X 67 0 j := fun j => hF 67 0 j (hd 6700 (by decide))
  have e5 : ∀ j, X1 68 0 j = X 68 0 j := fun j => hF 68 0 j (hd 6800 (by decide))
  have e6 : X1 40 0 13 = X 40 0 13 := hF 40 0 13 (hd 4014 (by decide))
  have e7 : X1 40 0 22 = X 40 0 22 := hF 40 0 22 (hd 4023 (by decide))
  intro n n0 n1
  rw [e7] at n1
  simp only [e0, e1, e2, e3, e4, e5, e6]
  obtain ⟨d1, d2⟩ := h n n0 n1
  refine ⟨fun q => ?_, d2⟩
  obtain ⟨a, b, c⟩ := d1 q
  obtain ⟨f, g⟩ := e n n0 n1 q a b
  refine ⟨a, by omega, ?_⟩
  rw [g]
  exact c
theorem minv_type (h : MInv X) (hR : Rng X) (hF : Frm [4001, 4400, 4900, 4003] X X1) (e1 : ∀ j, j ≠ X 40 0 2 → X1 44 0 j = X 44 0 j) (e2 : X1 44 0 (X 40 0 2) = 0) (e3 : X1 40 0 2 = X 40 0 2 + 1) : MInv X1 := by
  obtain ⟨hA, hB, hC, hD, hE, hG⟩ := h
  have f46 : ∀ j, X1 46 0 j = X 46 0 j := fun j => hF 46 0 j (show 4600 ∉ _ by decide)
  have f47 : ∀ j, X1 47 0 j = X 47 0 j := fun j => hF 47 0 j (show 4700 ∉ _ by decide)
  have f55 : ∀ j, X1 55 0 j = X 55 0 j := fun j => hF 55 0 j (show 5500 ∉ _ by decide)
  have f56 : ∀ j, X1 56 0 j = X 56 0 j := fun j => hF 56 0 j (show 5600 ∉ _ by decide)
  have fth : X1 40 0 13 = X 40 0 13 := hF 40 0 13 (show 4014 ∉ _ by decide)
  refine ⟨?_, ?_, mC_of hC hF (by decide) (by omega), ?_, mE_of hE hF (by decide), ?_⟩
  · intro x k h0 h1 k0 k1
    simp only [f46, f55, f56, fth] at *
    have := hG x h0 h1
    rw [e1 _ (by omega)] at k1
    exact hA x k h0 h1 k0 k1
  · intro t k h0 h1 k0 k1
    simp only [f46, f47] at *
    by_cases ht : t = X 40 0 2
    · rw [ht, e2] at k1; omega
    · rw [e1 _ ht] at k1; exact hB t k h0 h1 k0 k1
  · refine mD_of hD hF (by decide) (fun n n0 n1 q a b => ?_)
    have h1 : 0 ≤ X 64 0 n ∧ X 64 0 n ≤ 29 := hR 64 0 n
    have := hG (X 64 0 n) h1.1 a
    rw [e1 _ (by omega), f46]
    exact ⟨Int.le_refl _, rfl⟩
  · intro x h0 h1
    rw [fth] at h1
    rw [f55, e3]
    have := hG x h0 h1
    omega
theorem minv_forget (h : MInv X) (hm : X 40 0 20 = 0) (hF : Frm [4001, 4014] X X1) (e : X1 40 0 13 = 0) : MInv X1 := by
  obtain ⟨hA, hB, hC, hD, hE, hG⟩ := h
  have f44 : ∀ j, X1 44 0 j = X 44 0 j := fun j => hF 44 0 j (show 4400 ∉ _ by decide)
  have f46 : ∀ j, X1 46 0 j = X 46 0 j := fun j => hF 46 0 j (show 4600 ∉ _ by decide)
  have f47 : ∀ j, X1 47 0 j = X 47 0 j := fun j => hF 47 0 j (show 4700 ∉ _ by decide)
  have fty : X1 40 0 2 = X 40 0 2 := hF 40 0 2 (show 4003 ∉ _ by decide)
  have fno : X1 40 0 22 = X 40 0 22 := hF 40 0 22 (show 4023 ∉ _ by decide)
  have hn := hE.1 hm
  refine ⟨fun x k h0 h1 => by omega, ?_, mC_of hC hF (by decide) (by omega), fun n n0 n1 => by omega, mE_of hE hF (by decide), fun x h0 h1 => by omega⟩
  unfold mB at *
  simp only [f44, f46, f47]
  exact hB
theorem minv_mark (h : MInv X) (hR : Rng X) (hF : Frm [4001, 6200, 4021] X X1) (e1 : ∀ j, j ≠ X 40 0 20 → X1 62 0 j = X 62 0 j) (e2 : X1 62 0 (X 40 0 20) = X 40 0 22) (e3 : X1 40 0 20 = X 40 0 20 + 1) : MInv X1 := by
  obtain ⟨hA, hB, hC, hD, hE, hG⟩ := h
  have f44 : ∀ j, X1 44 0 j = X 44 0 j := fun j => hF 44 0 j (show 4400 ∉ _ by decide)
  have f46 : ∀ j, X1 46 0 j = X 46 0 j := fun j => hF 46 0 j (show 4600 ∉ _ by decide)
  have f47 : ∀ j, X1 47 0 j = X 47 0 j := fun j => hF 47 0 j (show 4700 ∉ _ by decide)
  have f55 : ∀ j, X1 55 0 j = X 55 0 j := fun j => hF 55 0 j (show 5500 ∉ _ by decide)
  have f56 : ∀ j, X1 56 0 j = X 56 0 j := fun j => hF 56 0 j (show 5600 ∉ _ by decide)
  have fth : X1 40 0 13 = X 40 0 13 := hF 40 0 13 (show 4014 ∉ _ by decide)
  have fty : X1 40 0 2 = X 40 0 2 := hF 40 0 2 (show 4003 ∉ _ by decide)
  have fno : X1 40 0 22 = X 40 0 22 := hF 40 0 22 (show 4023 ∉ _ by decide)
  have hm : 0 ≤ X 40 0 20 ∧ X 40 0 20 ≤ 4 := hR 40 0 20
  refine ⟨?_, ?_, mC_of hC hF (by decide) (by omega), mD_of hD hF (by decide) (fun n _ _ _ _ _ => ⟨by rw [f44]; exact Int.le_refl _, by rw [f46]⟩), ⟨fun q => by omega, fun q => ?_⟩, ?_⟩
  · unfold mA at *; simp only [f44, f46, f55, f56, fth]; exact hA
  · unfold mB at *; simp only [f44, f46, f47]; exact hB
  · by_cases hq : X 40 0 20 = 0
    · rw [hq] at e2; rw [e2]; exact hE.1 hq
    · rw [e1 0 (by omega)]; exact hE.2 (by omega)
  · unfold mF at *; simp only [f55, fth, fty]; exact hG
/-- a note is written: N is its number -/
theorem minv_note {th fd rw it ws : Int} (h : MInv X) (hm : 0 < X 40 0 20) (hF : Frm [4001, 6400, 6500, 6600, 6700, 6800, 4023, 5900] X X1) (e0 : X1 40 0 22 = X 40 0 22 + 1)
    (e4 : ∀ j, j < X 40 0 22 → X1 64 0 j = X 64 0 j ∧ X1 65 0 j = X 65 0 j ∧ X1 66 0 j = X 66 0 j ∧ X1 67 0 j = X 67 0 j ∧ X1 68 0 j = X 68 0 j)
    (en : X1 67 0 (X 40 0 22) = it) (hn : (it < 0 → X1 64 0 (X 40 0 22) = th ∧ X1 65 0 (X 40 0 22) = fd ∧ X1 68 0 (X 40 0 22) = ws ∧ th < X 40 0 13 ∧ fd < X 44 0 (X 55 0 th) ∧ tyv (X 40 0 13) (X 46 0 (5 * X 55 0 th + fd)) ws) ∧ (0 ≤ it → X1 66 0 (X 40 0 22) = rw ∧ 0 ≤ rw)) : MInv X1 := by
  obtain ⟨hA, hB, hC, hD, hE, hG⟩ := h
  have f44 : ∀ j, X1 44 0 j = X 44 0 j := fun j => hF 44 0 j (show 4400 ∉ _ by decide)
  have f46 : ∀ j, X1 46 0 j = X 46 0 j := fun j => hF 46 0 j (show 4600 ∉ _ by decide)
  have f47 : ∀ j, X1 47 0 j = X 47 0 j := fun j => hF 47 0 j (show 4700 ∉ _ by decide)
  have f55 : ∀ j, X1 55 0 j = X 55 0 j := fun j => hF 55 0 j (show 5500 ∉ _ by decide)
  have f56 : ∀ j, X1 56 0 j = X 56 0 j := fun j => hF 56 0 j (show 5600 ∉ _ by decide)
  have f62 : ∀ j, X1 62 0 j = X 62 0 j := fun j => hF 62 0 j (show 6200 ∉ _ by decide)
  have fth : X1 40 0 13 = X 40 0 13 := hF 40 0 13 (show 4014 ∉ _ by decide)
  have fty : X1 40 0 2 = X 40 0 2 := hF 40 0 2 (show 4003 ∉ _ by decide)
  have fmk : X1 40 0 20 = X 40 0 20 := hF 40 0 20 (show 4021 ∉ _ by decide)
  refine ⟨?_, ?_, mC_of hC hF (by decide) (by omega), ?_, ⟨fun q => by omega, fun q => by rw [f62]; exact hE.2 hm⟩, ?_⟩
  · unfold mA at *; simp only [f44, f46, f55, f56, fth]; exact hA
  · unfold mB at *; simp only [f44, f46, f47]; exact hB
  · intro n n0 n1
    simp only [f44, f46, f55, fth]
    by_cases hq : n = X 40 0 22
    · rw [hq, en]
      refine ⟨fun q => ?_, fun q => ?_⟩
      · obtain ⟨a, b, c, d⟩ := hn.1 q
        rw [a, b, c]
        exact d
      · obtain ⟨a, b⟩ := hn.2 q
        rw [a]; exact b
    · obtain ⟨a, b, c, d, e⟩ := e4 n (by omega)
      rw [a, b, c, d, e]
      exact hD n n0 (by omega)
  · unfold mF at *; simp only [f55, fth, fty]; exact hG
theorem minv_thing {t : Int} (h : MInv X) (hR : Rng X) (ht : 0 ≤ t ∧ t < X 40 0 2) (hF : Frm [4001, 5500, 5600, 4014] X X1) (e1 : ∀ j, j < X 40 0 13 → X1 55 0 j = X 55 0 j) (e2 : X1 55 0 (X 40 0 13) = t) (e3 : ∀ j, j < 5 * X 40 0 13 → X1 56 0 j = X 56 0 j) (e4 : ∀ k, 0 ≤ k → k < X 44 0 t → X1 56 0 (5 * X 40 0 13 + k) = X 47 0 (5 * t + k)) (e5 : X1 40 0 13 = X 40 0 13 + 1) : MInv X1 := by
  obtain ⟨hA, hB, hC, hD, hE, hG⟩ := h
  have f44 : ∀ j, X1 44 0 j = X 44 0 j := fun j => hF 44 0 j (show 4400 ∉ _ by decide)
  have f46 : ∀ j, X1 46 0 j = X 46 0 j := fun j => hF 46 0 j (show 4600 ∉ _ by decide)
  have f47 : ∀ j, X1 47 0 j = X 47 0 j := fun j => hF 47 0 j (show 4700 ∉ _ by decide)
  have f64 : ∀ j, X1 64 0 j = X 64 0 j := fun j => hF 64 0 j (show 6400 ∉ _ by decide)
  have f65 : ∀ j, X1 65 0 j = X 65 0 j := fun j => hF 65 0 j (show 6500 ∉ _ by decide)
  have f66 : ∀ j, X1 66 0 j = X 66 0 j := fun j => hF 66 0 j (show 6600 ∉ _ by decide)
  have f67 : ∀ j, X1 67 0 j = X 67 0 j := fun j => hF 67 0 j (show 6700 ∉ _ by decide)
  have f68 : ∀ j, X1 68 0 j = X 68 0 j := fun j => hF 68 0 j (show 6800 ∉ _ by decide)
  have fty : X1 40 0 2 = X 40 0 2 := hF 40 0 2 (show 4003 ∉ _ by decide)
  have fno : X1 40 0 22 = X 40 0 22 := hF 40 0 22 (show 4023 ∉ _ by decide)
  have hty : 0 ≤ X 40 0 2 ∧ X 40 0 2 ≤ 8 := hR 40 0 2
  have hth : 0 ≤ X 40 0 13 ∧ X 40 0 13 ≤ 30 := hR 40 0 13
  have hfm : ∀ t, 0 ≤ X 44 0 t ∧ X 44 0 t ≤ 5 := fun t => hR 44 0 t
  refine ⟨?_, ?_, mC_of hC hF (by decide) (by omega), ?_, mE_of hE hF (by decide), ?_⟩
  · intro x k h0 h1 k0 k1
    rw [e5] at h1 ⊢
    simp only [f44, f46] at *
    by_cases hx : x = X 40 0 13
    · subst hx
      rw [e2] at k1 ⊢
      rw [e4 k k0 k1]
      by_cases hz : X 46 0 (5 * t + k) = 0
      · rw [hz]; exact tyv_0
      · rw [hB t k (by omega) (by omega) k0 k1 hz]; exact tyv_none (by omega)
    · rw [e1 x (by omega)] at k1 ⊢
      have := hfm (X 55 0 x)
      rw [e3 _ (by omega)]
      exact tyv_up (hA x k h0 (by omega) k0 k1) (by omega)
  · unfold mB at *; simp only [f44, f46, f47]; exact hB
  · intro n n0 n1
    rw [fno] at n1
    simp only [f44, f46, f64, f65, f66, f67, f68]
    obtain ⟨d1, d2⟩ := hD n n0 n1
    refine ⟨fun q => ?_, d2⟩
    obtain ⟨a, b, c⟩ := d1 q
    rw [e1 _ a, e5]
    exact ⟨by omega, b, tyv_up c (by omega)⟩
  · intro x h0 h1
    rw [e5] at h1
    rw [fty]
    by_cases hx : x = X 40 0 13
    · subst hx; rw [e2]; exact ht.2
    · rw [e1 x (by omega)]; exact hG x h0 (by omega)
/-- field k0 of type t: its values stand in the things below x -/
def Fld (X : Nat → Int → Int → Int) (t k0 x : Int) : Prop := (∀ x' k : Int, 0 ≤ x' → x' < X 40 0 13 → 0 ≤ k → k < X 44 0 (X 55 0 x') → (X 55 0 x' = t → k = k0 → x' < x) → tyv (X 40 0 13) (X 46 0 (5 * X 55 0 x' + k)) (X 56 0 (5 * x' + k))) ∧ mB X ∧ mC X ∧ mD X ∧ mE X ∧ mF X
theorem Fld.out {t k0 x : Int} (h : Fld X t k0 x) (hx : X 40 0 13 ≤ x) : MInv X := ⟨fun x' k h0 h1 k0 k1 => h.1 x' k h0 h1 k0 k1 (fun _ _ => by omega), h.2⟩
theorem Fld.of {t k0 x : Int} (h : MInv X) : Fld X t k0 x := ⟨fun x' k h0 h1 k0 k1 _ => h.1 x' k h0 h1 k0 k1, h.2⟩
theorem Fld.skip {t k0 x : Int} (h : Fld X t k0 x) (hx : X 55 0 x ≠ t) : Fld X t k0 (x + 1) := ⟨fun x' k h0 h1 k0 k1 q => h.1 x' k h0 h1 k0 k1 (fun a b => by have := q a b; by_cases hq : x' = x; exact absurd (hq ▸ a) hx; omega), h.2⟩
theorem Fld.step {t k0 x v : Int} (h : Fld X t k0 x) (hR : Rng X) (hk : 0 ≤ k0 ∧ k0 ≤ 4) (hxt : X 55 0 x = t) (hv : tyv (X 40 0 13) (X 46 0 (5 * t + k0)) v) : Fld (u3 X 56 0 (5 * x + k0) v) t k0 (x + 1) := by
  obtain ⟨hA, hB, hC, hD, hE, hG⟩ := h
  have e : ∀ (k' : Nat) (i j : Int), k' ≠ 56 → u3 X 56 0 (5 * x + k0) v k' i j = X k' i j := fun k' i j hk => by rw [u3_k _ _ _ _ hk]
  have hf : ∀ t, X 44 0 t ≤ 5 := fun t => (hR 44 0 t).2
  refine ⟨?_, ?_, ?_, ?_, ?_, ?_⟩
  · intro x' k' h0' h1' k0' k1' q
    simp only [e 40 _ _ (by decide), e 44 _ _ (by decide), e 46 _ _ (by decide), e 55 _ _ (by decide)] at *
    have := hf (X 55 0 x')
    by_cases hx : x' = x ∧ k' = k0
    · obtain ⟨rfl, rfl⟩ := hx
      rw [u3_s, hxt]; exact hv
    · rw [u3_j _ _ _ _ (by omega)]; exact hA x' k' h0' h1' k0' k1' (fun a b => by have := q a b; omega)
  · unfold mB at *; simp only [e 44 _ _ (by decide), e 46 _ _ (by decide), e 47 _ _ (by decide)]; exact hB
  · unfold mC at *; simp only [e 70 _ _ (by decide), e 71 _ _ (by decide), e 72 _ _ (by decide), e 74 _ _ (by decide), e 75 _ _ (by decide), e 40 _ _ (by decide)]; exact hC
  · unfold mD at *; simp only [e 40 _ _ (by decide), e 44 _ _ (by decide), e 46 _ _ (by decide), e 55 _ _ (by decide), e 64 _ _ (by decide), e 65 _ _ (by decide), e 66 _ _ (by decide), e 67 _ _ (by decide), e 68 _ _ (by decide)]; exact hD
  · unfold mE at *; simp only [e 40 _ _ (by decide), e 62 _ _ (by decide)]; exact hE
  · unfold mF at *; simp only [e 40 _ _ (by decide), e 55 _ _ (by decide)]; exact hG
theorem Fld.in_field {t lane v : Int} (h : MInv X) (hR : Rng X) (hm : X 40 0 20 = 0) (ht : 0 ≤ t ∧ t ≤ 7) (hk4 : X 44 0 t ≤ 4) (hlv : lane ≠ 0 → v = -1) (hF : Frm [4001, 4500, 4600, 4700, 4800, 4400] X X1) (e1 : ∀ j, j ≠ t → X1 44 0 j = X 44 0 j) (e2 : X1 44 0 t = X 44 0 t + 1) (e3 : ∀ j, j ≠ 5 * t + X 44 0 t → X1 46 0 j = X 46 0 j ∧ X1 47 0 j = X 47 0 j) (e4 : X1 46 0 (5 * t + X 44 0 t) = lane ∧ X1 47 0 (5 * t + X 44 0 t) = v) : Fld X1 t (X 44 0 t) 0 := by
  obtain ⟨hA, hB, hC, hD, hE, hG⟩ := h
  have f55 : ∀ j, X1 55 0 j = X 55 0 j := fun j => hF 55 0 j (show 5500 ∉ _ by decide)
  have f56 : ∀ j, X1 56 0 j = X 56 0 j := fun j => hF 56 0 j (show 5600 ∉ _ by decide)
  have fth : X1 40 0 13 = X 40 0 13 := hF 40 0 13 (show 4014 ∉ _ by decide)
  have fty : X1 40 0 2 = X 40 0 2 := hF 40 0 2 (show 4003 ∉ _ by decide)
  have fno : X1 40 0 22 = X 40 0 22 := hF 40 0 22 (show 4023 ∉ _ by decide)
  have hfm : ∀ t, 0 ≤ X 44 0 t ∧ X 44 0 t ≤ 5 := fun t => hR 44 0 t
  have hxt : ∀ x, 0 ≤ X 55 0 x ∧ X 55 0 x ≤ 7 := fun x => hR 55 0 x
  have hf1 : X1 44 0 t ≤ 5 ∨ X 44 0 t = 5 := by have := hfm t; omega
  have hn := hE.1 hm
  refine ⟨?_, ?_, mC_of hC hF (by decide) (by omega), fun n n0 n1 => by omega, mE_of hE hF (by decide), ?_⟩
  · intro x k h0 h1 k0 k1 q
    simp only [f55, f56, fth] at *
    have ha := hxt x
    have hb := hfm t
    have hc := hfm (X 55 0 x)
    by_cases hx : X 55 0 x = t
    · have hk : k ≠ X 44 0 t := fun e => by have := q hx e; omega
      rw [hx, e2] at k1
      have := hA x k h0 h1 k0 (by rw [hx]; omega)
      rw [hx] at this ⊢
      rw [(e3 _ (by omega)).1]
      exact this
    · rw [e1 _ hx] at k1
      rw [(e3 _ (by omega)).1]
      exact hA x k h0 h1 k0 k1
  · intro t' k h0 h1 k0 k1 hne
    have hb := hfm t
    have hc := hfm t'
    by_cases hk : 5 * t' + k = 5 * t + X 44 0 t
    · rw [hk] at hne ⊢
      rw [e4.1] at hne
      rw [e4.2]; exact hlv hne
    · rw [(e3 _ hk).1] at hne
      rw [(e3 _ hk).2]
      by_cases hx : t' = t
      · subst hx
        exact hB t' k h0 h1 k0 (by omega) hne
      · rw [e1 _ hx] at k1
        exact hB t' k h0 h1 k0 k1 hne
  · unfold mF at *; simp only [f55, fth, fty]; exact hG
theorem Fld.in_drop {t j : Int} (h : MInv X) (hR : Rng X) (hm : X 40 0 20 = 0) (ht : 0 ≤ t ∧ t ≤ 7) (hj : 0 ≤ j ∧ j + 1 < X 44 0 t) (hF : Frm [4500, 4600, 4700, 4800] X X1) (e3 : ∀ q, q ≠ 5 * t + j → X1 46 0 q = X 46 0 q ∧ X1 47 0 q = X 47 0 q) (e4 : X1 46 0 (5 * t + j) = X 46 0 (5 * t + (j + 1)) ∧ X1 47 0 (5 * t + j) = X 47 0 (5 * t + (j + 1))) : Fld X1 t j 0 := by
  obtain ⟨hA, hB, hC, hD, hE, hG⟩ := h
  have f44 : ∀ j, X1 44 0 j = X 44 0 j := fun j => hF 44 0 j (show 4400 ∉ _ by decide)
  have f55 : ∀ j, X1 55 0 j = X 55 0 j := fun j => hF 55 0 j (show 5500 ∉ _ by decide)
  have f56 : ∀ j, X1 56 0 j = X 56 0 j := fun j => hF 56 0 j (show 5600 ∉ _ by decide)
  have fth : X1 40 0 13 = X 40 0 13 := hF 40 0 13 (show 4014 ∉ _ by decide)
  have fty : X1 40 0 2 = X 40 0 2 := hF 40 0 2 (show 4003 ∉ _ by decide)
  have fno : X1 40 0 22 = X 40 0 22 := hF 40 0 22 (show 4023 ∉ _ by decide)
  have hfm : ∀ t, 0 ≤ X 44 0 t ∧ X 44 0 t ≤ 5 := fun t => hR 44 0 t
  have hxt : ∀ x, 0 ≤ X 55 0 x ∧ X 55 0 x ≤ 7 := fun x => hR 55 0 x
  have hn := hE.1 hm
  refine ⟨?_, ?_, mC_of hC hF (by decide) (by omega), fun n n0 n1 => by omega, mE_of hE hF (by decide), ?_⟩
  · intro x k h0 h1 k0 k1 q
    simp only [f44, f55, f56, fth] at *
    have ha := hxt x
    have hb := hfm t
    have hc := hfm (X 55 0 x)
    have : ¬ (X 55 0 x = t ∧ k = j) := fun e => by have := q e.1 e.2; omega
    rw [(e3 _ (by omega)).1]
    exact hA x k h0 h1 k0 k1
  · intro t' k h0 h1 k0 k1 hne
    have hb := hfm t
    have hc := hfm t'
    rw [f44] at k1
    by_cases hk : 5 * t' + k = 5 * t + j
    · rw [hk] at hne ⊢
      rw [e4.1] at hne
      rw [e4.2]; exact hB t (j + 1) ht.1 ht.2 (by omega) (by omega) hne
    · rw [(e3 _ hk).1] at hne
      rw [(e3 _ hk).2]
      exact hB t' k h0 h1 k0 k1 hne
  · unfold mF at *; simp only [f55, fth, fty]; exact hG
theorem minv_fdown {t : Int} (h : MInv X) (hm : X 40 0 20 = 0) (hF : Frm [4400] X X1) (e1 : ∀ j, j ≠ t → X1 44 0 j = X 44 0 j) (e2 : X1 44 0 t ≤ X 44 0 t) : MInv X1 := by
  obtain ⟨hA, hB, hC, hD, hE, hG⟩ := h
  have f46 : ∀ j, X1 46 0 j = X 46 0 j := fun j => hF 46 0 j (show 4600 ∉ _ by decide)
  have f47 : ∀ j, X1 47 0 j = X 47 0 j := fun j => hF 47 0 j (show 4700 ∉ _ by decide)
  have f55 : ∀ j, X1 55 0 j = X 55 0 j := fun j => hF 55 0 j (show 5500 ∉ _ by decide)
  have f56 : ∀ j, X1 56 0 j = X 56 0 j := fun j => hF 56 0 j (show 5600 ∉ _ by decide)
  have fth : X1 40 0 13 = X 40 0 13 := hF 40 0 13 (show 4014 ∉ _ by decide)
  have fty : X1 40 0 2 = X 40 0 2 := hF 40 0 2 (show 4003 ∉ _ by decide)
  have fno : X1 40 0 22 = X 40 0 22 := hF 40 0 22 (show 4023 ∉ _ by decide)
  have hl : ∀ j, X1 44 0 j ≤ X 44 0 j := fun j => if hj : j = t then hj ▸ e2 else by rw [e1 j hj]; exact Int.le_refl _
  have hn := hE.1 hm
  refine ⟨?_, ?_, mC_of hC hF (by decide) (by omega), fun n n0 n1 => by omega, mE_of hE hF (by decide), ?_⟩
  · intro x k h0 h1 k0 k1
    simp only [f46, f55, f56, fth] at *
    exact hA x k h0 h1 k0 (by have := hl (X 55 0 x); omega)
  · intro t' k h0 h1 k0 k1 hne
    simp only [f46, f47] at *
    exact hB t' k h0 h1 k0 (by have := hl t'; omega) hne
  · unfold mF at *; simp only [f55, fth, fty]; exact hG
/-! taking back -/
theorem minv5_frm (h : MInv5 X) (hF : Frm M X X1) (hd : ∀ c ∈ mDep, c ∉ [6200, 4021] → c ∉ M) : MInv5 X1 := by
  obtain ⟨hA, hB, hC, hD, hG⟩ := h
  have f44 : ∀ j, X1 44 0 j = X 44 0 j := fun j => hF 44 0 j (hd 4400 (by decide) (by decide))
  have f46 : ∀ j, X1 46 0 j = X 46 0 j := fun j => hF 46 0 j (hd 4600 (by decide) (by decide))
  have f47 : ∀ j, X1 47 0 j = X 47 0 j := fun j => hF 47 0 j (hd 4700 (by decide) (by decide))
  have f55 : ∀ j, X1 55 0 j = X 55 0 j := fun j => hF 55 0 j (hd 5500 (by decide) (by decide))
  have f56 : ∀ j, X1 56 0 j = X 56 0 j := fun j => hF 56 0 j (hd 5600 (by decide) (by decide))
  have fth : X1 40 0 13 = X 40 0 13 := hF 40 0 13 (hd 4014 (by decide) (by decide))
  have fty : X1 40 0 2 = X 40 0 2 := hF 40 0 2 (hd 4003 (by decide) (by decide))
  refine ⟨?_, ?_, mC_of hC hF (fun c hc => hd c (by revert c; decide) (by revert c; decide)) (by omega), mD_of hD hF (fun c hc => hd c (by revert c; decide) (by revert c; decide)) (fun n _ _ _ _ _ => ⟨by rw [f44]; exact Int.le_refl _, by rw [f46]⟩), ?_⟩
  · unfold mA at *; simp only [f44, f46, f55, f56, fth]; exact hA
  · unfold mB at *; simp only [f44, f46, f47]; exact hB
  · unfold mF at *; simp only [f55, fth, fty]; exact hG
theorem minv5_pop {n : Int} (h : MInv5 X) (hn : n ≤ X 40 0 22) : MInv5 (u3 X 40 0 22 n) := by
  obtain ⟨hA, hB, hC, hD, hG⟩ := h
  have e : ∀ (k' : Nat) (i j : Int), k' ≠ 40 → u3 X 40 0 22 n k' i j = X k' i j := fun k' i j hk => by rw [u3_k _ _ _ _ hk]
  have e13 : u3 X 40 0 22 n 40 0 13 = X 40 0 13 := by rw [u3_j _ _ _ _ (by decide)]
  have e2 : u3 X 40 0 22 n 40 0 2 = X 40 0 2 := by rw [u3_j _ _ _ _ (by decide)]
  refine ⟨?_, ?_, ?_, ?_, ?_⟩
  · unfold mA at *; simp only [e 44 _ _ (by decide), e 46 _ _ (by decide), e 55 _ _ (by decide), e 56 _ _ (by decide), e13]; exact hA
  · unfold mB at *; simp only [e 44 _ _ (by decide), e 46 _ _ (by decide), e 47 _ _ (by decide)]; exact hB
  · unfold mC at *; simp only [e 70 _ _ (by decide), e 71 _ _ (by decide), e 72 _ _ (by decide), e 74 _ _ (by decide), e 75 _ _ (by decide), e2]; exact hC
  · intro m m0 m1
    rw [u3_s] at m1
    simp only [e 44 _ _ (by decide), e 46 _ _ (by decide), e 55 _ _ (by decide), e 64 _ _ (by decide), e 65 _ _ (by decide), e 66 _ _ (by decide), e 67 _ _ (by decide), e 68 _ _ (by decide), e13]
    exact hD m m0 (by omega)
  · unfold mF at *; simp only [e 55 _ _ (by decide), e13, e2]; exact hG
theorem minv5_xval {x k v : Int} (h : MInv5 X) (hR : Rng X) (h0 : 0 ≤ x) (h1 : x < X 40 0 13) (k0 : 0 ≤ k) (k1 : k < X 44 0 (X 55 0 x)) (hv : tyv (X 40 0 13) (X 46 0 (5 * X 55 0 x + k)) v) : MInv5 (u3 X 56 0 (5 * x + k) v) := by
  obtain ⟨hA, hB, hC, hD, hG⟩ := h
  have e : ∀ (k' : Nat) (i j : Int), k' ≠ 56 → u3 X 56 0 (5 * x + k) v k' i j = X k' i j := fun k' i j hk => by rw [u3_k _ _ _ _ hk]
  have hf : ∀ t, X 44 0 t ≤ 5 := fun t => (hR 44 0 t).2
  refine ⟨?_, ?_, ?_, ?_, ?_⟩
  · intro x' k' h0' h1' k0' k1'
    simp only [e 40 _ _ (by decide), e 44 _ _ (by decide), e 46 _ _ (by decide), e 55 _ _ (by decide)] at *
    have := hf (X 55 0 x); have := hf (X 55 0 x')
    by_cases hx : x' = x ∧ k' = k
    · obtain ⟨rfl, rfl⟩ := hx
      rw [u3_s]; exact hv
    · rw [u3_j _ _ _ _ (by omega)]; exact hA x' k' h0' h1' k0' k1'
  · unfold mB at *; simp only [e 44 _ _ (by decide), e 46 _ _ (by decide), e 47 _ _ (by decide)]; exact hB
  · unfold mC at *; simp only [e 70 _ _ (by decide), e 71 _ _ (by decide), e 72 _ _ (by decide), e 74 _ _ (by decide), e 75 _ _ (by decide), e 40 _ _ (by decide)]; exact hC
  · unfold mD at *; simp only [e 40 _ _ (by decide), e 44 _ _ (by decide), e 46 _ _ (by decide), e 55 _ _ (by decide), e 64 _ _ (by decide), e 65 _ _ (by decide), e 66 _ _ (by decide), e 67 _ _ (by decide), e 68 _ _ (by decide)]; exact hD
  · unfold mF at *; simp only [e 40 _ _ (by decide), e 55 _ _ (by decide)]; exact hG
/-- one note is taken back: a value's -/
theorem minv5_undo_x {n x k w : Int} {X2 : Nat → Int → Int → Int} (h : MInv5 X) (hR1 : Rng X1) (hn0 : 0 ≤ n) (hn : n < X 40 0 22) (hi : X 67 0 n < 0) (e1 : X1 = u3 X 40 0 22 n) (hx : X 64 0 n = x) (hk : X 65 0 n = k) (hw : X 68 0 n = w) (x0 : 0 ≤ x) (k0 : 0 ≤ k) (e2 : X2 = u3 X1 56 0 (5 * x + k) w) : MInv5 X2 := by
  have h5 : MInv5 X1 := by rw [e1]; exact minv5_pop h (by omega)
  obtain ⟨a, b, c⟩ := (h.2.2.2.1 n hn0 hn).1 hi
  have f44 : ∀ j, X1 44 0 j = X 44 0 j := fun j => by rw [e1, u3_k _ _ _ _ (by first | exact Nat.ne_of_beq_eq_false rfl | decide)]
  have f46 : ∀ j, X1 46 0 j = X 46 0 j := fun j => by rw [e1, u3_k _ _ _ _ (by first | exact Nat.ne_of_beq_eq_false rfl | decide)]
  have f55 : ∀ j, X1 55 0 j = X 55 0 j := fun j => by rw [e1, u3_k _ _ _ _ (by first | exact Nat.ne_of_beq_eq_false rfl | decide)]
  have fth : X1 40 0 13 = X 40 0 13 := by rw [e1, u3_j _ _ _ _ (by decide)]
  rw [hx, hk] at *
  rw [e2]
  exact minv5_xval h5 hR1 x0 (by omega) k0 (by rw [f44, f55]; exact b) (by rw [f46, f55, fth, ← hw]; exact c)
theorem minv5_undo_r {n j w : Int} {X2 : Nat → Int → Int → Int} (h : MInv5 X) (hn : n ≤ X 40 0 22) (e1 : X1 = u3 X 40 0 22 n) (e2 : X2 = u3 X1 59 0 j w) : MInv5 X2 := by
  have h5 : MInv5 X1 := by rw [e1]; exact minv5_pop h hn
  rw [e2]
  exact minv5_frm (M := [5900]) h5 (Frm.set Frm.rf (show 5900 ∈ [5900] by first | exact nlm_in rfl | decide)) (by decide)
theorem minv_undo_end {m : Int} (h : MInv X) (h5 : MInv5 X1) (hm : X1 40 0 20 = m) (hm2 : X 40 0 20 = m + 1) (_m0 : 0 ≤ m) (e62 : ∀ j, X1 62 0 j = X 62 0 j) (hn : X1 40 0 22 ≤ X 62 0 m) (hn0 : 0 ≤ X1 40 0 22) : MInv X1 := by
  obtain ⟨hA, hB, hC, hD, hG⟩ := h5
  refine ⟨hA, hB, hC, hD, ⟨fun q => ?_, fun q => by rw [e62]; exact h.2.2.2.2.1.2 (by omega)⟩, hG⟩
  have := h.2.2.2.2.1.2 (by omega)
  have hm0 : m = 0 := by omega
  rw [hm0, this] at hn
  omega
/-! the fifth save is written -/
theorem ty4_of {r k : Int} (h : ty4 X r k) (e4 : X1 74 0 (5 * (120 + r) + k) = X 74 0 (5 * (120 + r) + k)) (e5 : X1 75 0 (5 * (120 + r) + k) = X 75 0 (5 * (120 + r) + k)) (hs : X 70 0 4 ≤ X1 70 0 4) : ty4 X1 r k := by
  unfold ty4 at *
  rw [e4, e5]
  exact ⟨h.1, fun q => ⟨(h.2.1 q).1, by have := (h.2.1 q).2; omega⟩, h.2.2⟩
theorem cOK.of {r k : Int} (h : cOK X r k) (hr : 0 ≤ r) (hR : Rng X1) (ht : X 40 0 2 ≤ X1 40 0 2) (hs : X 70 0 4 ≤ X1 70 0 4) (e1 : ∀ r', 0 ≤ r' → r' < r → X1 71 0 (120 + r') = X 71 0 (120 + r') ∧ X1 72 0 (120 + r') = X 72 0 (120 + r')) (e4 : ∀ j, j < 5 * (120 + r) + k → X1 74 0 j = X 74 0 j ∧ X1 75 0 j = X 75 0 j) (hk : 0 ≤ k) : cOK X1 r k := by
  refine ⟨fun r' h0 h1 => ?_, fun k' k0 k1 => ?_⟩
  · obtain ⟨a, b⟩ := h.1 r' h0 h1
    refine ⟨by rw [(e1 r' h0 h1).1]; omega, fun k' k0 k1 => ?_⟩
    have hf : X1 72 0 (120 + r') ≤ 5 := (hR 72 0 (120 + r')).2
    rw [(e1 r' h0 h1).2] at k1 hf
    exact ty4_of (b k' k0 k1) (e4 _ (by omega)).1 (e4 _ (by omega)).2 hs
  · exact ty4_of (h.2 k' k0 k1) (e4 _ (by omega)).1 (e4 _ (by omega)).2 hs
theorem cOK.frm {r k : Int} (h : cOK X r k) (hF : Frm M X X1) (hd : ∀ c ∈ [7100, 7200, 7400, 7500, 4003], c ∉ M) (hs : X 70 0 4 ≤ X1 70 0 4) : cOK X1 r k := by
  have e1 : ∀ j, X1 71 0 j = X 71 0 j := fun j => hF 71 0 j (hd 7100 (by decide))
  have e2 : ∀ j, X1 72 0 j = X 72 0 j := fun j => hF 72 0 j (hd 7200 (by decide))
  have e4 : ∀ j, X1 74 0 j = X 74 0 j := fun j => hF 74 0 j (hd 7400 (by decide))
  have e5 : ∀ j, X1 75 0 j = X 75 0 j := fun j => hF 75 0 j (hd 7500 (by decide))
  have et : X1 40 0 2 = X 40 0 2 := hF 40 0 2 (hd 4003 (by decide))
  refine ⟨fun r' h0 h1 => ?_, fun k' k0 k1 => ty4_of (h.2 k' k0 k1) (e4 _) (e5 _) hs⟩
  obtain ⟨a, b⟩ := h.1 r' h0 h1
  refine ⟨by rw [e1, et]; exact a, fun k' k0 k1 => ?_⟩
  rw [e2] at k1
  exact ty4_of (b k' k0 k1) (e4 _) (e5 _) hs
theorem cOK.nil : cOK X 0 0 := ⟨fun r' h0 h1 => by omega, fun k' k0 k1 => by omega⟩
theorem cOK.next {r k : Int} (h : cOK X r k) (ht : X 71 0 (120 + r) < X 40 0 2) (hk : X 72 0 (120 + r) ≤ k) : cOK X (r + 1) 0 := by
  refine ⟨fun r' h0 h1 => ?_, fun k' k0 k1 => by omega⟩
  by_cases hq : r' = r
  · subst hq
    exact ⟨ht, fun k' k0 k1 => h.2 k' k0 (by omega)⟩
  · exact h.1 r' h0 (by omega)
theorem cOK.push {r k : Int} (h : cOK X r k) (ht : ty4 X r k) : cOK X r (k + 1) := by
  refine ⟨h.1, fun k' k0 k1 => ?_⟩
  by_cases hq : k' = k
  · subst hq; exact ht
  · exact h.2 k' k0 (by omega)
/-! the fifth save is copied into save s -/
def Cpy (Xe Xa : Nat → Int → Int → Int) (s a b c : Int) : Prop := (∀ j, (j < 30 * s ∨ 30 * s + 30 ≤ j) → Xa 71 0 j = Xe 71 0 j ∧ Xa 72 0 j = Xe 72 0 j) ∧ (∀ j, (j < 150 * s ∨ 150 * s + 150 ≤ j) → Xa 74 0 j = Xe 74 0 j ∧ Xa 75 0 j = Xe 75 0 j) ∧ (∀ r, 0 ≤ r → r < a → Xa 71 0 (30 * s + r) = Xe 71 0 (120 + r) ∧ Xa 72 0 (30 * s + r) = Xe 72 0 (120 + r)) ∧ ∀ r k, 0 ≤ r → 0 ≤ k → k < 5 → (r < b ∨ (r = b ∧ k < c)) → Xa 74 0 (5 * (30 * s + r) + k) = Xe 74 0 (5 * (120 + r) + k) ∧ Xa 75 0 (5 * (30 * s + r) + k) = Xe 75 0 (5 * (120 + r) + k)
theorem Cpy.in_ {Xe Xa : Nat → Int → Int → Int} {s : Int} (e : ∀ j, Xa 71 0 j = Xe 71 0 j ∧ Xa 72 0 j = Xe 72 0 j ∧ Xa 74 0 j = Xe 74 0 j ∧ Xa 75 0 j = Xe 75 0 j) : Cpy Xe Xa s 0 0 0 := ⟨fun j _ => ⟨(e j).1, (e j).2.1⟩, fun j _ => ⟨(e j).2.2.1, (e j).2.2.2⟩, fun r h0 h1 => by omega, fun r k h0 k0 k1 h => by omega⟩
theorem Cpy.next {Xe Xa : Nat → Int → Int → Int} {s a b c : Int} (h : Cpy Xe Xa s a b c) (hc : 5 ≤ c) : Cpy Xe Xa s a (b + 1) 0 := ⟨h.1, h.2.1, h.2.2.1, fun r k h0 k0 k1 hh => h.2.2.2 r k h0 k0 k1 (by omega)⟩
theorem Cpy.s7 {Xe Xa Xb Xc : Nat → Int → Int → Int} {s r : Int} (h : Cpy Xe Xa s r r 0) (hs : 0 ≤ s ∧ s ≤ 3) (hr : 0 ≤ r ∧ r ≤ 29) (e1 : Xb = u3 Xa 71 0 (30 * s + r) (Xa 71 0 (120 + r))) (e2 : Xc = u3 Xb 72 0 (30 * s + r) (Xa 72 0 (120 + r))) : Cpy Xe Xc s (r + 1) r 0 := by
  have k71 : ∀ j, j ≠ 30 * s + r → Xc 71 0 j = Xa 71 0 j := fun j hj => by rw [e2, e1, u3_k _ _ _ _ (by first | exact Nat.ne_of_beq_eq_false rfl | decide), u3_j _ _ _ _ hj]
  have k72 : ∀ j, j ≠ 30 * s + r → Xc 72 0 j = Xa 72 0 j := fun j hj => by rw [e2, u3_j _ _ _ _ hj, e1, u3_k _ _ _ _ (by first | exact Nat.ne_of_beq_eq_false rfl | decide)]
  have k71s : Xc 71 0 (30 * s + r) = Xa 71 0 (120 + r) := by rw [e2, e1, u3_k _ _ _ _ (by first | exact Nat.ne_of_beq_eq_false rfl | decide)]; exact u3_s _ _ _ _ _
  have k72s : Xc 72 0 (30 * s + r) = Xa 72 0 (120 + r) := by rw [e2]; exact u3_s _ _ _ _ _
  have k74 : ∀ j, Xc 74 0 j = Xa 74 0 j ∧ Xc 75 0 j = Xa 75 0 j := fun j => by rw [e2, e1, u3_k _ _ _ _ (by first | exact Nat.ne_of_beq_eq_false rfl | decide), u3_k _ _ _ _ (by first | exact Nat.ne_of_beq_eq_false rfl | decide), u3_k _ _ _ _ (by first | exact Nat.ne_of_beq_eq_false rfl | decide), u3_k _ _ _ _ (by first | exact Nat.ne_of_beq_eq_false rfl | decide)]; exact ⟨rfl, rfl⟩
  refine ⟨fun j hj => ?_, fun j hj => ?_, fun r' h0 h1 => ?_, fun r' k h0 k0 k1 hh => ?_⟩
  · rw [k71 j (by omega), k72 j (by omega)]; exact h.1 j hj
  · rw [(k74 j).1, (k74 j).2]; exact h.2.1 j hj
  · by_cases hq : r' = r
    · subst hq
      rw [k71s, k72s]
      exact h.1 (120 + r') (by omega)
    · rw [k71 _ (by omega), k72 _ (by omega)]; exact h.2.2.1 r' h0 (by omega)
  · rw [(k74 _).1, (k74 _).2]; exact h.2.2.2 r' k h0 k0 k1 hh
theorem Cpy.s5 {Xe Xa Xb Xc Xd : Nat → Int → Int → Int} {s a r k v : Int} (h : Cpy Xe Xa s a r k) (hs : 0 ≤ s ∧ s ≤ 3) (hr : 0 ≤ r ∧ r ≤ 29) (hk : 0 ≤ k ∧ k ≤ 4) (e1 : Xb = u3 Xa 73 0 (5 * (30 * s + r) + k) v) (e2 : Xc = u3 Xb 74 0 (5 * (30 * s + r) + k) (Xa 74 0 (5 * (120 + r) + k))) (e3 : Xd = u3 Xc 75 0 (5 * (30 * s + r) + k) (Xa 75 0 (5 * (120 + r) + k))) : Cpy Xe Xd s a r (k + 1) := by
  have k71 : ∀ j, Xd 71 0 j = Xa 71 0 j ∧ Xd 72 0 j = Xa 72 0 j := fun j => by rw [e3, e2, e1]; exact ⟨by rw [u3_k _ _ _ _ (by first | exact Nat.ne_of_beq_eq_false rfl | decide), u3_k _ _ _ _ (by first | exact Nat.ne_of_beq_eq_false rfl | decide), u3_k _ _ _ _ (by first | exact Nat.ne_of_beq_eq_false rfl | decide)], by rw [u3_k _ _ _ _ (by first | exact Nat.ne_of_beq_eq_false rfl | decide), u3_k _ _ _ _ (by first | exact Nat.ne_of_beq_eq_false rfl | decide), u3_k _ _ _ _ (by first | exact Nat.ne_of_beq_eq_false rfl | decide)]⟩
  have k74 : ∀ j, j ≠ 5 * (30 * s + r) + k → Xd 74 0 j = Xa 74 0 j := fun j hj => by rw [e3, u3_k _ _ _ _ (by first | exact Nat.ne_of_beq_eq_false rfl | decide), e2, u3_j _ _ _ _ hj, e1, u3_k _ _ _ _ (by first | exact Nat.ne_of_beq_eq_false rfl | decide)]
  have k75 : ∀ j, j ≠ 5 * (30 * s + r) + k → Xd 75 0 j = Xa 75 0 j := fun j hj => by rw [e3, u3_j _ _ _ _ hj, e2, u3_k _ _ _ _ (by first | exact Nat.ne_of_beq_eq_false rfl | decide), e1, u3_k _ _ _ _ (by first | exact Nat.ne_of_beq_eq_false rfl | decide)]
  have k74s : Xd 74 0 (5 * (30 * s + r) + k) = Xa 74 0 (5 * (120 + r) + k) := by rw [e3, u3_k _ _ _ _ (by first | exact Nat.ne_of_beq_eq_false rfl | decide), e2]; exact u3_s _ _ _ _ _
  have k75s : Xd 75 0 (5 * (30 * s + r) + k) = Xa 75 0 (5 * (120 + r) + k) := by rw [e3]; exact u3_s _ _ _ _ _
  refine ⟨fun j hj => ?_, fun j hj => ?_, fun r' h0 h1 => ?_, fun r' k' h0 k0 k1 hh => ?_⟩
  · rw [(k71 j).1, (k71 j).2]; exact h.1 j hj
  · rw [k74 j (by omega), k75 j (by omega)]; exact h.2.1 j hj
  · rw [(k71 _).1, (k71 _).2]; exact h.2.2.1 r' h0 h1
  · by_cases hq : r' = r ∧ k' = k
    · obtain ⟨rfl, rfl⟩ := hq
      rw [k74s, k75s]
      exact h.2.1 _ (by omega)
    · rw [k74 _ (by omega), k75 _ (by omega)]; exact h.2.2.2 r' k' h0 k0 k1 (by omega)
theorem minv_save {Xe Xa : Nat → Int → Int → Int} {s n b c : Int} (h : MInv Xe) (hR : Rng Xe) (hc : cOK Xe n 0) (hn4 : Xe 70 0 4 = n) (hs : 0 ≤ s ∧ s ≤ 3) (hF : Frm [7000, 7100, 7200, 7300, 7400, 7500, 7600, 7700, 7800, 7900] Xe Xa) (e70 : ∀ j, j ≠ s → Xa 70 0 j = Xe 70 0 j) (e70s : Xa 70 0 s = n) (hp : Cpy Xe Xa s n b c) (hb : n ≤ b) : MInv Xa := by
  obtain ⟨hA, hB, hC, hD, hE, hG⟩ := h
  have f44 : ∀ j, Xa 44 0 j = Xe 44 0 j := fun j => hF 44 0 j (show 4400 ∉ _ by decide)
  have f46 : ∀ j, Xa 46 0 j = Xe 46 0 j := fun j => hF 46 0 j (show 4600 ∉ _ by decide)
  have f47 : ∀ j, Xa 47 0 j = Xe 47 0 j := fun j => hF 47 0 j (show 4700 ∉ _ by decide)
  have f55 : ∀ j, Xa 55 0 j = Xe 55 0 j := fun j => hF 55 0 j (show 5500 ∉ _ by decide)
  have f56 : ∀ j, Xa 56 0 j = Xe 56 0 j := fun j => hF 56 0 j (show 5600 ∉ _ by decide)
  have fth : Xa 40 0 13 = Xe 40 0 13 := hF 40 0 13 (show 4014 ∉ _ by decide)
  have fty : Xa 40 0 2 = Xe 40 0 2 := hF 40 0 2 (show 4003 ∉ _ by decide)
  have h30 : ∀ s, 0 ≤ Xe 70 0 s ∧ Xe 70 0 s ≤ 30 := fun s => hR 70 0 s
  have h72 : ∀ j, 0 ≤ Xe 72 0 j ∧ Xe 72 0 j ≤ 5 := fun s => hR 72 0 s
  refine ⟨?_, ?_, ?_, mD_of hD hF (by decide) (fun n _ _ _ _ _ => ⟨by rw [f44]; exact Int.le_refl _, by rw [f46]⟩), mE_of hE hF (by decide), ?_⟩
  · unfold mA at *; simp only [f44, f46, f55, f56, fth]; exact hA
  · unfold mB at *; simp only [f44, f46, f47]; exact hB
  · intro s' r h0 h1 h2 h3
    rw [fty]
    by_cases hq : s' = s
    · subst hq
      rw [e70s] at h3 ⊢
      obtain ⟨a1, a2⟩ := hp.2.2.1 r h2 h3
      obtain ⟨c1, c2⟩ := hc.1 r h2 h3
      refine ⟨by rw [a1]; exact c1, fun k k0 k1 => ?_⟩
      rw [a2] at k1
      have := h72 (120 + r)
      obtain ⟨b1, b2⟩ := hp.2.2.2 r k h2 k0 (by omega) (by omega)
      rw [b1, b2]
      have := c2 k k0 k1
      unfold ty4 at this
      rw [hn4] at this
      exact this
    · rw [e70 _ hq] at h3 ⊢
      have := h30 s'
      obtain ⟨c1, c2⟩ := hC s' r h0 h1 h2 h3
      have g := hp.1 (30 * s' + r) (by omega)
      refine ⟨by rw [g.1]; exact c1, fun k k0 k1 => ?_⟩
      rw [g.2] at k1
      have := h72 (30 * s' + r)
      have g2 := hp.2.1 (5 * (30 * s' + r) + k) (by omega)
      rw [g2.1, g2.2]
      exact c2 k k0 k1
  · unfold mF at *; simp only [f55, fth, fty]; exact hG
theorem cOK.le {n r k : Int} (h : cOK X r k) (hn : n ≤ r) : cOK X n 0 := ⟨fun r' h0 h1 => h.1 r' h0 (by omega), fun k' k0 k1 => by omega⟩
theorem Cpy.le {Xe Xa : Nat → Int → Int → Int} {s a a1 b c : Int} (h : Cpy Xe Xa s a b c) (ha : a1 ≤ a) : Cpy Xe Xa s a1 b c := ⟨h.1, h.2.1, fun r h0 h1 => h.2.2.1 r h0 (by omega), h.2.2.2⟩
theorem u3_id {k : Nat} {i j : Int} : u3 X k i j (X k i j) = X := by
  funext k' i' j'
  simp only [u3]
  split
  · rename_i h
    obtain ⟨rfl, rfl, rfl⟩ := h
    rfl
  · rfl
theorem Fld.step_drop {t j x : Int} (h : Fld X t j x) (hR : Rng X) (hx : 0 ≤ x ∧ x < X 40 0 13) (hxt : X 55 0 x = t) (hj : 0 ≤ j ∧ j + 1 < X 44 0 t) (h46 : X 46 0 (5 * t + j) = X 46 0 (5 * t + (j + 1))) : Fld (u3 X 56 0 (5 * x + j) (X 56 0 (5 * x + j + 1))) t j (x + 1) := by
  have hf : X 44 0 t ≤ 5 := (hR 44 0 t).2
  refine Fld.step h hR (by omega) hxt ?_
  have := h.1 x (j + 1) hx.1 hx.2 (by omega) (by rw [hxt]; exact hj.2) (fun _ q => by omega)
  rw [hxt] at this
  rw [h46, Int.add_assoc]
  exact this
/-! putting back -/
def Old (X X1 : Nat → Int → Int → Int) : Prop := (∀ j, j < X 40 0 13 → X1 55 0 j = X 55 0 j) ∧ (∀ j, j < 5 * X 40 0 13 → X1 56 0 j = X 56 0 j)
def New (X X1 : Nat → Int → Int → Int) (sv r : Int) : Prop := ∀ r', 0 ≤ r' → r' < r → X1 55 0 (X 40 0 13 + r') = X 71 0 (30 * sv + r') ∧ ∀ q, 0 ≤ q → q < X 44 0 (X 71 0 (30 * sv + r')) → X1 56 0 (5 * (X 40 0 13 + r') + q) = X 47 0 (5 * X 71 0 (30 * sv + r') + q)
theorem Old.frm {X2 : Nat → Int → Int → Int} (h : Old X X1) (hF : Frm M X1 X2) (hd : ∀ c ∈ [5500, 5600], c ∉ M) : Old X X2 := ⟨fun j hj => (hF 55 0 j (hd 5500 (by decide))).trans (h.1 j hj), fun j hj => (hF 56 0 j (hd 5600 (by decide))).trans (h.2 j hj)⟩
theorem Old.rf (hF : Frm M X X1) (hd : ∀ c ∈ [5500, 5600], c ∉ M) : Old X X1 := ⟨fun j hj => hF 55 0 j (hd 5500 (by decide)), fun j hj => hF 56 0 j (hd 5600 (by decide))⟩
theorem Old.lo {X2 : Nat → Int → Int → Int} (h : Old X X1) (hF : Frm M X1 X2) (hd : 5500 ∉ M) (e : ∀ j, j < 5 * X 40 0 13 → X2 56 0 j = X1 56 0 j) : Old X X2 := ⟨fun j hj => (hF 55 0 j hd).trans (h.1 j hj), fun j hj => (e j hj).trans (h.2 j hj)⟩
theorem Old.s55 {z v : Int} (h : Old X X1) (hz : X 40 0 13 ≤ z) : Old X (u3 X1 55 0 z v) := ⟨fun j hj => by rw [u3_j _ _ _ _ (by omega)]; exact h.1 j hj, fun j hj => by rw [u3_k _ _ _ _ (by first | exact Nat.ne_of_beq_eq_false rfl | decide)]; exact h.2 j hj⟩
theorem Old.s56 {z v : Int} (h : Old X X1) (hz : 5 * X 40 0 13 ≤ z) : Old X (u3 X1 56 0 z v) := ⟨fun j hj => by rw [u3_k _ _ _ _ (by first | exact Nat.ne_of_beq_eq_false rfl | decide)]; exact h.1 j hj, fun j hj => by rw [u3_j _ _ _ _ (by omega)]; exact h.2 j hj⟩
theorem New.nil {sv : Int} : New X X1 sv 0 := fun r' h0 h1 => by omega
theorem New.s55 {sv r z v : Int} (h : New X X1 sv r) (hz : X 40 0 13 + r ≤ z) : New X (u3 X1 55 0 z v) sv r := fun r' h0 h1 => ⟨by rw [u3_j _ _ _ _ (by omega)]; exact (h r' h0 h1).1, fun q q0 q1 => by rw [u3_k _ _ _ _ (by first | exact Nat.ne_of_beq_eq_false rfl | decide)]; exact (h r' h0 h1).2 q q0 q1⟩
theorem New.s56 {sv r z v : Int} (h : New X X1 sv r) (hR : Rng X) (hz : 5 * (X 40 0 13 + r) ≤ z) : New X (u3 X1 56 0 z v) sv r := fun r' h0 h1 => ⟨by rw [u3_k _ _ _ _ (by first | exact Nat.ne_of_beq_eq_false rfl | decide)]; exact (h r' h0 h1).1, fun q q0 q1 => by
  have hf : X 44 0 (X 71 0 (30 * sv + r')) ≤ 5 := (hR 44 0 _).2
  rw [u3_j _ _ _ _ (by omega)]; exact (h r' h0 h1).2 q q0 q1⟩
theorem New.next {sv r : Int} (h : New X X1 sv r) (h5 : X1 55 0 (X 40 0 13 + r) = X 71 0 (30 * sv + r)) (h6 : ∀ q, 0 ≤ q → q < X 44 0 (X 71 0 (30 * sv + r)) → X1 56 0 (5 * (X 40 0 13 + r) + q) = X 47 0 (5 * X 71 0 (30 * sv + r) + q)) : New X X1 sv (r + 1) := fun r' h0 h1 => by
  by_cases hq : r' = r
  · subst hq; exact ⟨h5, h6⟩
  · exact h r' h0 (by omega)
theorem minv_rst_in {sv r n : Int} (h : MInv X) (hR : Rng X) (hs : 0 ≤ sv ∧ sv ≤ 3) (hF : Frm [4001, 4014, 5500, 5600, 8500] X X1) (ho : Old X X1) (hnw : New X X1 sv r) (hr : n ≤ r) (hn : X 70 0 sv = n) (e13 : X1 40 0 13 = X 40 0 13 + n) : MInv X1 := by
  obtain ⟨hA, hB, hC, hD, hE, hG⟩ := h
  have f44 : ∀ j, X1 44 0 j = X 44 0 j := fun j => hF 44 0 j (show 4400 ∉ _ by decide)
  have f46 : ∀ j, X1 46 0 j = X 46 0 j := fun j => hF 46 0 j (show 4600 ∉ _ by decide)
  have f47 : ∀ j, X1 47 0 j = X 47 0 j := fun j => hF 47 0 j (show 4700 ∉ _ by decide)
  have f64 : ∀ j, X1 64 0 j = X 64 0 j := fun j => hF 64 0 j (show 6400 ∉ _ by decide)
  have f65 : ∀ j, X1 65 0 j = X 65 0 j := fun j => hF 65 0 j (show 6500 ∉ _ by decide)
  have f66 : ∀ j, X1 66 0 j = X 66 0 j := fun j => hF 66 0 j (show 6600 ∉ _ by decide)
  have f67 : ∀ j, X1 67 0 j = X 67 0 j := fun j => hF 67 0 j (show 6700 ∉ _ by decide)
  have f68 : ∀ j, X1 68 0 j = X 68 0 j := fun j => hF 68 0 j (show 6800 ∉ _ by decide)
  have fty : X1 40 0 2 = X 40 0 2 := hF 40 0 2 (show 4003 ∉ _ by decide)
  have fno : X1 40 0 22 = X 40 0 22 := hF 40 0 22 (show 4023 ∉ _ by decide)
  have hty : 0 ≤ X 40 0 2 ∧ X 40 0 2 ≤ 8 := hR 40 0 2
  have hth : 0 ≤ X 40 0 13 ∧ X 40 0 13 ≤ 30 := hR 40 0 13
  have h7n : 0 ≤ X 70 0 sv ∧ X 70 0 sv ≤ 30 := hR 70 0 sv
  have h71 : ∀ j, 0 ≤ X 71 0 j ∧ X 71 0 j ≤ 7 := fun j => hR 71 0 j
  have hfm : ∀ t, 0 ≤ X 44 0 t ∧ X 44 0 t ≤ 5 := fun t => hR 44 0 t
  refine ⟨?_, ?_, mC_of hC hF (by decide) (by omega), ?_, mE_of hE hF (by decide), ?_⟩
  · intro x k h0 h1 k0 k1
    rw [e13] at h1 ⊢
    simp only [f44, f46] at *
    by_cases hx : x < X 40 0 13
    · rw [ho.1 x hx] at k1 ⊢
      have := hfm (X 55 0 x)
      rw [ho.2 _ (by omega)]
      exact tyv_up (hA x k h0 hx k0 k1) (by omega)
    · obtain ⟨a, b⟩ := hnw (x - X 40 0 13) (by omega) (by omega)
      rw [show X 40 0 13 + (x - X 40 0 13) = x by omega] at a b
      rw [a] at k1 ⊢
      rw [b k k0 k1]
      by_cases hz : X 46 0 (5 * X 71 0 (30 * sv + (x - X 40 0 13)) + k) = 0
      · rw [hz]; exact tyv_0
      · have g := h71 (30 * sv + (x - X 40 0 13))
        rw [hB _ k g.1 g.2 k0 k1 hz]; exact tyv_none (by omega)
  · unfold mB at *; simp only [f44, f46, f47]; exact hB
  · intro n' n0 n1
    rw [fno] at n1
    simp only [f44, f46, f64, f65, f66, f67, f68]
    obtain ⟨d1, d2⟩ := hD n' n0 n1
    refine ⟨fun q => ?_, d2⟩
    obtain ⟨a, b, c⟩ := d1 q
    rw [ho.1 _ a, e13]
    exact ⟨by omega, b, tyv_up c (by omega)⟩
  · intro x h0 h1
    rw [e13] at h1
    rw [fty]
    by_cases hx : x < X 40 0 13
    · rw [ho.1 x hx]; exact hG x h0 hx
    · obtain ⟨a, -⟩ := hnw (x - X 40 0 13) (by omega) (by omega)
      rw [show X 40 0 13 + (x - X 40 0 13) = x by omega] at a
      rw [a]
      exact (hC sv (x - X 40 0 13) hs.1 hs.2 (by omega) (by omega)).1
theorem minv_rst_back (h : MInv X) (hR : Rng X) (hF : Frm [4001, 4014, 5500, 5600, 4029, 6000, 5700, 5800, 5900, 8500, 4042, 4043, 4044] X X1) (ho : Old X X1) (e13 : X1 40 0 13 = X 40 0 13) : MInv X1 := by
  obtain ⟨hA, hB, hC, hD, hE, hG⟩ := h
  have f44 : ∀ j, X1 44 0 j = X 44 0 j := fun j => hF 44 0 j (show 4400 ∉ _ by decide)
  have f46 : ∀ j, X1 46 0 j = X 46 0 j := fun j => hF 46 0 j (show 4600 ∉ _ by decide)
  have f47 : ∀ j, X1 47 0 j = X 47 0 j := fun j => hF 47 0 j (show 4700 ∉ _ by decide)
  have f64 : ∀ j, X1 64 0 j = X 64 0 j := fun j => hF 64 0 j (show 6400 ∉ _ by decide)
  have f65 : ∀ j, X1 65 0 j = X 65 0 j := fun j => hF 65 0 j (show 6500 ∉ _ by decide)
  have f66 : ∀ j, X1 66 0 j = X 66 0 j := fun j => hF 66 0 j (show 6600 ∉ _ by decide)
  have f67 : ∀ j, X1 67 0 j = X 67 0 j := fun j => hF 67 0 j (show 6700 ∉ _ by decide)
  have f68 : ∀ j, X1 68 0 j = X 68 0 j := fun j => hF 68 0 j (show 6800 ∉ _ by decide)
  have fty : X1 40 0 2 = X 40 0 2 := hF 40 0 2 (show 4003 ∉ _ by decide)
  have fno : X1 40 0 22 = X 40 0 22 := hF 40 0 22 (show 4023 ∉ _ by decide)
  have hfm : ∀ t, 0 ≤ X 44 0 t ∧ X 44 0 t ≤ 5 := fun t => hR 44 0 t
  refine ⟨?_, ?_, mC_of hC hF (by decide) (by omega), ?_, mE_of hE hF (by decide), ?_⟩
  · intro x k h0 h1 k0 k1
    rw [e13] at h1 ⊢
    simp only [f44, f46] at *
    rw [ho.1 x h1] at k1 ⊢
    have := hfm (X 55 0 x)
    rw [ho.2 _ (by omega)]
    exact hA x k h0 h1 k0 k1
  · unfold mB at *; simp only [f44, f46, f47]; exact hB
  · intro n' n0 n1
    rw [fno] at n1
    simp only [f44, f46, f64, f65, f66, f67, f68]
    obtain ⟨d1, d2⟩ := hD n' n0 n1
    refine ⟨fun q => ?_, d2⟩
    obtain ⟨a, b, c⟩ := d1 q
    rw [ho.1 _ a, e13]
    exact ⟨a, b, c⟩
  · intro x h0 h1
    rw [e13] at h1
    rw [fty, ho.1 x h1]
    exact hG x h0 h1
end M3
end
section
/-- how putting back begins, in the reference -/
def rsI (X A : Nat → Int → Int → Int) (sv : Int) : Prop := A 40 0 13 = X 40 0 13 + X 70 0 sv ∧ (∀ j, 0 ≤ j → j < 450 → A 85 0 j = -1) ∧ Old X A ∧ New X A sv (X 70 0 sv) ∧ Frm [4001, 4014, 5500, 5600, 8500] X A
end
section
set_option maxHeartbeats 4000000 in
set_option maxRecDepth 100000 in
theorem c_X9_isType (l : Launch) (D : va_G) (tc : Nat → ClassId) (base : Nat) (ad : Nat → Int → Nat) (cnt : Nat → Int) (X : Nat → Int → Int → Int) (Y : Nat → Int → Int → Option Int) (ln : Int → Int) (hR : Rng X) (hFx : Fx cnt) (t : Int) (ht : -2147483648 ≤ t ∧ t ≤ 2147483647) : KI l D tc base yX9_isType wsX9_isType ({ frames := 0, cells := 0, slots := 0, locals := 0 } : Room) [.ref (ad 40 0), .int (jI t)] (ad, cnt, X, Y, ln) 0 0 (fun z u => u = (ad, cnt, X, Y, ln) ∧ ((z = 1 ∧ 0 ≤ t ∧ t < X 40 0 2 ∧ t ≤ 7) ∨ (z = 0 ∧ Hid (¬ (0 ≤ t ∧ t < X 40 0 2))))) := by
  refine K_of (cc := cX9_isType) (maxL := 2) (ret := (some .boolean)) (by decide) rfl (Nat.le_of_ble_eq_true rfl) ?_
  intro p e s m below meth c ls hx hb hr hml hown hts hlocks hl hK hw hS
  have hown : s.vm.findClass RX9 = some m.cls := hown
  obtain ⟨av9, hav9⟩ : ∃ a9 : Array Value, a9 = ([.ref (ad 40 0), .int (jI t)] : List Value).toArray := ⟨_, rfl⟩
  rw [← hav9] at hts ⊢
  obtain ⟨Q9, hQ9⟩ : ∃ q9Q : State → Prop, q9Q = MQ below (QI D tc base (fun z u => u = (ad, cnt, X, Y, ln) ∧ ((z = 1 ∧ 0 ≤ t ∧ t < X 40 0 2 ∧ t ≤ 7) ∨ (z = 0 ∧ Hid (¬ (0 ≤ t ∧ t < X 40 0 2)))))) av9 s 0 0 (frA base) := ⟨_, rfl⟩
  rw [← hQ9]
  have hi9 : ∀ w ∈ wsX90, w ∈ wsX9_isType := fun w h => List.mem_cons_of_mem _ (List.mem_append_right _ h)
  have hf9 : fctx s m _ RX9 wsX9_isType D tc RX9 TX9 51 9 := ⟨hts, hi9, hown, hK.1, rfl⟩
  have lk148 := hts (.fieldLink RX9 148 (TX9 2).1 (TX9 2).2.1 (TX9 2).2.2.1) (gj_X9_isType_0 _ (gp_h))
  have hc40 : cnt 40 = 1 := hFx.at 40 1 (by decide)
  have hl : lv_has ls 2 [(0, .ref (ad 40 0)), (1, .int (jI t))] := hl
  have fty : 0 ≤ X 40 0 2 ∧ X 40 0 2 ≤ 8 := hR 40 0 2
  refine lv_iload_n hx hb dX9_isType_0 rfl (lv_at hl 1 rfl) ?_
  refine x_if_lt (tgt := 16) hx hb (by omega) dX9_isType_1 (by decide) (fun c1 => ?_) (fun c1 => ?_)
  · refine lv_iconst (v := jI 0) hx hb dX9_isType_16 rfl ?_
    rw [hQ9]
    refine ret_z (mc := 0) (ms := 0) hx hb hr hlocks hw hS (by first | exact Nat.le_of_ble_eq_true rfl | omega) (by first | exact Nat.le_of_ble_eq_true rfl | omega) dX9_isType_17 (by omega) ?_
    exact ⟨rfl, Or.inr ⟨rfl, (by first | omega | (intro q; first | omega | (simp only [Hid] at *; omega)))⟩⟩
  · refine lv_iload_n hx hb dX9_isType_4 rfl (lv_at hl 1 rfl) ?_
    refine lv_aload_n hx hb dX9_isType_5 rfl (lv_at hl 0 rfl) ?_
    refine x_geti (jz := 2) hx hb hf9 hw (by first | exact Int.le_refl 0 | omega) (by first | exact zlt hc40 | omega) sl_40_2 rfl lk148 dX9_isType_6 ?_
    have f2 : 0 ≤ X 40 0 2 ∧ X 40 0 2 ≤ 8 := hR 40 0 2
    refine x_icmp_ge (tgt := 16) hx hb (by omega) (by omega) dX9_isType_9 (by decide) (fun c3 => ?_) (fun c3 => ?_)
    · refine lv_iconst (v := jI 0) hx hb dX9_isType_16 rfl ?_
      rw [hQ9]
      refine ret_z (mc := 0) (ms := 0) hx hb hr hlocks hw hS (by first | exact Nat.le_of_ble_eq_true rfl | omega) (by first | exact Nat.le_of_ble_eq_true rfl | omega) dX9_isType_17 (by omega) ?_
      exact ⟨rfl, Or.inr ⟨rfl, (by first | omega | (intro q; first | omega | (simp only [Hid] at *; omega)))⟩⟩
    · refine lv_iconst (v := jI 1) hx hb dX9_isType_12 rfl ?_
      refine lv_goto (tgt := 17) hx hb dX9_isType_13 (by decide) ?_
      rw [hQ9]
      refine ret_z (mc := 0) (ms := 0) hx hb hr hlocks hw hS (by first | exact Nat.le_of_ble_eq_true rfl | omega) (by first | exact Nat.le_of_ble_eq_true rfl | omega) dX9_isType_17 (by omega) ?_
      exact ⟨rfl, Or.inl ⟨rfl, by omega⟩⟩

set_option maxHeartbeats 4000000 in
set_option maxRecDepth 100000 in
theorem c_X9_isThing (l : Launch) (D : va_G) (tc : Nat → ClassId) (base : Nat) (ad : Nat → Int → Nat) (cnt : Nat → Int) (X : Nat → Int → Int → Int) (Y : Nat → Int → Int → Option Int) (ln : Int → Int) (hR : Rng X) (hFx : Fx cnt) (x : Int) (hx : -2147483648 ≤ x ∧ x ≤ 2147483647) : KI l D tc base yX9_isThing wsX9_isThing ({ frames := 0, cells := 0, slots := 0, locals := 0 } : Room) [.ref (ad 40 0), .int (jI x)] (ad, cnt, X, Y, ln) 0 0 (fun z u => u = (ad, cnt, X, Y, ln) ∧ ((z = 1 ∧ 0 ≤ x ∧ x < X 40 0 13 ∧ x ≤ 29) ∨ (z = 0 ∧ Hid (¬ (0 ≤ x ∧ x < X 40 0 13))))) := by
  refine K_of (cc := cX9_isThing) (maxL := 2) (ret := (some .boolean)) (by decide) rfl (Nat.le_of_ble_eq_true rfl) ?_
  intro p e s m below meth c ls hx hb hr hml hown hts hlocks hl hK hw hS
  have hown : s.vm.findClass RX9 = some m.cls := hown
  obtain ⟨av9, hav9⟩ : ∃ a9 : Array Value, a9 = ([.ref (ad 40 0), .int (jI x)] : List Value).toArray := ⟨_, rfl⟩
  rw [← hav9] at hts ⊢
  obtain ⟨Q9, hQ9⟩ : ∃ q9Q : State → Prop, q9Q = MQ below (QI D tc base (fun z u => u = (ad, cnt, X, Y, ln) ∧ ((z = 1 ∧ 0 ≤ x ∧ x < X 40 0 13 ∧ x ≤ 29) ∨ (z = 0 ∧ Hid (¬ (0 ≤ x ∧ x < X 40 0 13)))))) av9 s 0 0 (frA base) := ⟨_, rfl⟩
  rw [← hQ9]
  have hi9 : ∀ w ∈ wsX90, w ∈ wsX9_isThing := fun w h => List.mem_cons_of_mem _ (List.mem_append_right _ h)
  have hf9 : fctx s m _ RX9 wsX9_isThing D tc RX9 TX9 51 9 := ⟨hts, hi9, hown, hK.1, rfl⟩
  have lk151 := hts (.fieldLink RX9 151 (TX9 13).1 (TX9 13).2.1 (TX9 13).2.2.1) (gj_X9_isThing_0 _ (gp_h))
  have hc40 : cnt 40 = 1 := hFx.at 40 1 (by decide)
  have hl : lv_has ls 2 [(0, .ref (ad 40 0)), (1, .int (jI x))] := hl
  have fth : 0 ≤ X 40 0 13 ∧ X 40 0 13 ≤ 30 := hR 40 0 13
  refine lv_iload_n hx hb dX9_isThing_0 rfl (lv_at hl 1 rfl) ?_
  refine x_if_lt (tgt := 16) hx hb (by omega) dX9_isThing_1 (by decide) (fun c1 => ?_) (fun c1 => ?_)
  · refine lv_iconst (v := jI 0) hx hb dX9_isThing_16 rfl ?_
    rw [hQ9]
    refine ret_z (mc := 0) (ms := 0) hx hb hr hlocks hw hS (by first | exact Nat.le_of_ble_eq_true rfl | omega) (by first | exact Nat.le_of_ble_eq_true rfl | omega) dX9_isThing_17 (by omega) ?_
    exact ⟨rfl, Or.inr ⟨rfl, (by first | omega | (intro q; first | omega | (simp only [Hid] at *; omega)))⟩⟩
  · refine lv_iload_n hx hb dX9_isThing_4 rfl (lv_at hl 1 rfl) ?_
    refine lv_aload_n hx hb dX9_isThing_5 rfl (lv_at hl 0 rfl) ?_
    refine x_geti (jz := 13) hx hb hf9 hw (by first | exact Int.le_refl 0 | omega) (by first | exact zlt hc40 | omega) sl_40_13 rfl lk151 dX9_isThing_6 ?_
    have f2 : 0 ≤ X 40 0 13 ∧ X 40 0 13 ≤ 30 := hR 40 0 13
    refine x_icmp_ge (tgt := 16) hx hb (by omega) (by omega) dX9_isThing_9 (by decide) (fun c3 => ?_) (fun c3 => ?_)
    · refine lv_iconst (v := jI 0) hx hb dX9_isThing_16 rfl ?_
      rw [hQ9]
      refine ret_z (mc := 0) (ms := 0) hx hb hr hlocks hw hS (by first | exact Nat.le_of_ble_eq_true rfl | omega) (by first | exact Nat.le_of_ble_eq_true rfl | omega) dX9_isThing_17 (by omega) ?_
      exact ⟨rfl, Or.inr ⟨rfl, (by first | omega | (intro q; first | omega | (simp only [Hid] at *; omega)))⟩⟩
    · refine lv_iconst (v := jI 1) hx hb dX9_isThing_12 rfl ?_
      refine lv_goto (tgt := 17) hx hb dX9_isThing_13 (by decide) ?_
      rw [hQ9]
      refine ret_z (mc := 0) (ms := 0) hx hb hr hlocks hw hS (by first | exact Nat.le_of_ble_eq_true rfl | omega) (by first | exact Nat.le_of_ble_eq_true rfl | omega) dX9_isThing_17 (by omega) ?_
      exact ⟨rfl, Or.inl ⟨rfl, by omega⟩⟩

set_option maxHeartbeats 4000000 in
set_option maxRecDepth 100000 in
theorem c_X9_lane (l : Launch) (D : va_G) (tc : Nat → ClassId) (base : Nat) (ad : Nat → Int → Nat) (cnt : Nat → Int) (X : Nat → Int → Int → Int) (Y : Nat → Int → Int → Option Int) (ln : Int → Int) (hR : Rng X) (hFx : Fx cnt) (x k : Int) (hx0 : 0 ≤ x ∧ x ≤ 29) (hk0 : 0 ≤ k ∧ k ≤ 4) : KI l D tc base yX9_lane wsX9_lane ({ frames := 0, cells := 0, slots := 0, locals := 0 } : Room) [.ref (ad 40 0), .int (jI x), .int (jI k)] (ad, cnt, X, Y, ln) 0 0 (fun z u => u = (ad, cnt, X, Y, ln) ∧ z = X 46 0 (5 * X 55 0 x + k) ∧ 0 ≤ z ∧ z ≤ 5) := by
  refine K_of (cc := cX9_lane) (maxL := 3) (ret := (some .int)) (by decide) rfl (Nat.le_of_ble_eq_true rfl) ?_
  intro p e s m below meth c ls hx hb hr hml hown hts hlocks hl hK hw hS
  have hown : s.vm.findClass RX9 = some m.cls := hown
  obtain ⟨av9, hav9⟩ : ∃ a9 : Array Value, a9 = ([.ref (ad 40 0), .int (jI x), .int (jI k)] : List Value).toArray := ⟨_, rfl⟩
  rw [← hav9] at hts ⊢
  obtain ⟨Q9, hQ9⟩ : ∃ q9Q : State → Prop, q9Q = MQ below (QI D tc base (fun z u => u = (ad, cnt, X, Y, ln) ∧ z = X 46 0 (5 * X 55 0 x + k) ∧ 0 ≤ z ∧ z ≤ 5)) av9 s 0 0 (frA base) := ⟨_, rfl⟩
  rw [← hQ9]
  have hi9 : ∀ w ∈ wsX90, w ∈ wsX9_lane := fun w h => List.mem_cons_of_mem _ (List.mem_append_right _ h)
  have hf9 : fctx s m _ RX9 wsX9_lane D tc RX9 TX9 51 9 := ⟨hts, hi9, hown, hK.1, rfl⟩
  have lk20 := hts (.fieldLink RX9 20 (TX9 5).1 (TX9 5).2.1 (TX9 5).2.2.1) (gj_X9_lane_0 _ (gp_h))
  have lk45 := hts (.fieldLink RX9 45 (TX9 14).1 (TX9 14).2.1 (TX9 14).2.2.1) (gj_X9_lane_0 _ (gp_1 gp_h))
  have hc40 : cnt 40 = 1 := hFx.at 40 1 (by decide)
  have hc46 : cnt 46 = 1 := hFx.at 46 1 (by decide)
  have hc55 : cnt 55 = 1 := hFx.at 55 1 (by decide)
  have hl : lv_has ls 3 [(0, .ref (ad 40 0)), (1, .int (jI x)), (2, .int (jI k))] := hl
  refine lv_aload_n hx hb dX9_lane_0 rfl (lv_at hl 0 rfl) ?_
  refine x_geto hx hb hf9 hw (by first | exact Int.le_refl 0 | omega) (by first | exact zlt hc40 | omega) sl_40_5 lk20 dX9_lane_1 ?_
  refine lv_iconst (v := jI 5) hx hb dX9_lane_4 rfl ?_
  refine lv_aload_n hx hb dX9_lane_5 rfl (lv_at hl 0 rfl) ?_
  refine x_geto hx hb hf9 hw (by first | exact Int.le_refl 0 | omega) (by first | exact zlt hc40 | omega) sl_40_14 lk45 dX9_lane_6 ?_
  refine lv_iload_n hx hb dX9_lane_9 rfl (lv_at hl 1 rfl) ?_
  refine x_iald hx hb hK.1 hw (by first | exact Int.le_refl 0 | omega) (by first | exact zlt hc55 | omega) ar_55 (len_E ar_55 (by first | exact Nat.ne_of_beq_eq_false rfl | decide)) (by omega) (by omega) (by omega) dX9_lane_10 ?_
  have f1 : 0 ≤ X 55 0 x ∧ X 55 0 x ≤ 7 := hR 55 0 x
  refine x_imul hx hb dX9_lane_11 ?_
  refine lv_iload_n hx hb dX9_lane_12 rfl (lv_at hl 2 rfl) ?_
  refine x_iadd hx hb dX9_lane_13 ?_
  refine x_iald hx hb hK.1 hw (by first | exact Int.le_refl 0 | omega) (by first | exact zlt hc46 | omega) ar_46 (len_E ar_46 (by first | exact Nat.ne_of_beq_eq_false rfl | decide)) (by omega) (by omega) (by omega) dX9_lane_14 ?_
  have f2 : 0 ≤ X 46 0 ((5 * (X 55 0 x)) + k) ∧ X 46 0 ((5 * (X 55 0 x)) + k) ≤ 5 := hR 46 0 ((5 * (X 55 0 x)) + k)
  rw [hQ9]
  refine ret_i (mc := 0) (ms := 0) hx hb hr hlocks hw hS (by first | exact Nat.le_of_ble_eq_true rfl | omega) (by first | exact Nat.le_of_ble_eq_true rfl | omega) dX9_lane_15 ?_
  exact ⟨rfl, rfl, by omega, by omega⟩

set_option maxHeartbeats 4000000 in
set_option maxRecDepth 100000 in
theorem c_X9_named (l : Launch) (D : va_G) (tc : Nat → ClassId) (base : Nat) (ad : Nat → Int → Nat) (cnt : Nat → Int) (X : Nat → Int → Int → Int) (Y : Nat → Int → Int → Option Int) (ln : Int → Int) (hR : Rng X) (hFx : Fx cnt) (t name : Int) (ht : 0 ≤ t ∧ t ≤ 7) (hname : -2147483648 ≤ name ∧ name ≤ 2147483647) : KI l D tc base yX9_named wsX9_named ({ frames := 0, cells := 0, slots := 0, locals := 0 } : Room) [.ref (ad 40 0), .int (jI t), .int (jI name)] (ad, cnt, X, Y, ln) 0 0 (fun z u => u = (ad, cnt, X, Y, ln) ∧ -1 ≤ z ∧ z < X 44 0 t ∧ z ≤ 4 ∧ z = nmAt (fun j => X 45 0 (5 * t + j)) name (X 44 0 t).toNat) := by
  refine K_of (cc := cX9_named) (maxL := 4) (ret := (some .int)) (by decide) rfl (Nat.le_of_ble_eq_true rfl) ?_
  intro p e s m below meth c ls hx hb hr hml hown hts hlocks hl hK hw hS
  have hown : s.vm.findClass RX9 = some m.cls := hown
  obtain ⟨av9, hav9⟩ : ∃ a9 : Array Value, a9 = ([.ref (ad 40 0), .int (jI t), .int (jI name)] : List Value).toArray := ⟨_, rfl⟩
  rw [← hav9] at hts ⊢
  obtain ⟨Q9, hQ9⟩ : ∃ q9Q : State → Prop, q9Q = MQ below (QI D tc base (fun z u => u = (ad, cnt, X, Y, ln) ∧ -1 ≤ z ∧ z < X 44 0 t ∧ z ≤ 4 ∧ z = nmAt (fun j => X 45 0 (5 * t + j)) name (X 44 0 t).toNat)) av9 s 0 0 (frA base) := ⟨_, rfl⟩
  rw [← hQ9]
  have hi9 : ∀ w ∈ wsX90, w ∈ wsX9_named := fun w h => List.mem_cons_of_mem _ (List.mem_append_right _ h)
  have hf9 : fctx s m _ RX9 wsX9_named D tc RX9 TX9 51 9 := ⟨hts, hi9, hown, hK.1, rfl⟩
  have lk13 := hts (.fieldLink RX9 13 (TX9 3).1 (TX9 3).2.1 (TX9 3).2.2.1) (gj_X9_named_0 _ (gp_h))
  have lk17 := hts (.fieldLink RX9 17 (TX9 4).1 (TX9 4).2.1 (TX9 4).2.2.1) (gj_X9_named_0 _ (gp_1 gp_h))
  have hc40 : cnt 40 = 1 := hFx.at 40 1 (by decide)
  have hc44 : cnt 44 = 1 := hFx.at 44 1 (by decide)
  have hc45 : cnt 45 = 1 := hFx.at 45 1 (by decide)
  have hl : lv_has ls 4 [(0, .ref (ad 40 0)), (1, .int (jI t)), (2, .int (jI name))] := hl
  refine lv_iconst (v := jI 0) hx hb dX9_named_0 rfl ?_
  refine lv_istore_n (lv' := [(3, .int (jI 0)), (0, .ref (ad 40 0)), (1, .int (jI t)), (2, .int (jI name))]) hx hb dX9_named_1 rfl hl (by decide) rfl (fun ls hl => ?_)
  have lp2 : ∀ (nn : Nat) (k : Int) (H : Heap) (locs : List Loc) (ls : Array Slot), (5 - k) < (nn : Int) → (0 ≤ k ∧ k ≤ 5) → (∀ j, 0 ≤ j → j < k → X 45 0 (5 * t + j) ≠ name) → wd D tc base (ad, cnt, X, Y, ln) H → va_S (frA base) s.heap H locs → lv_has ls 4 [(0, .ref (ad 40 0)), (1, .int (jI t)), (2, .int (jI name)), (3, .int (jI k))] → W p l e ({ frames := 0, cells := 0, slots := 0, locals := 0 } : Room) s m av9 below meth c H locs 0 0 Q9 (F0 m 2 ls []) := by
    intro nn
    induction nn with
    | zero => intro k H locs ls hm hk hnn hw hS hl; exfalso; omega
    | succ nn ih2 =>
      intro k H locs ls hm hk hnn hw hS hl
      refine lv_iload_n hx hb dX9_named_2 rfl (lv_at hl 3 rfl) ?_
      refine lv_aload_n hx hb dX9_named_3 rfl (lv_at hl 0 rfl) ?_
      refine x_geto hx hb hf9 hw (by first | exact Int.le_refl 0 | omega) (by first | exact zlt hc40 | omega) sl_40_3 lk13 dX9_named_4 ?_
      refine lv_iload_n hx hb dX9_named_7 rfl (lv_at hl 1 rfl) ?_
      refine x_iald hx hb hK.1 hw (by first | exact Int.le_refl 0 | omega) (by first | exact zlt hc44 | omega) ar_44 (len_E ar_44 (by first | exact Nat.ne_of_beq_eq_false rfl | decide)) (by omega) (by omega) (by omega) dX9_named_8 ?_
      have f1 : 0 ≤ X 44 0 t ∧ X 44 0 t ≤ 5 := hR 44 0 t
      refine x_icmp_ge (tgt := 34) hx hb (by omega) (by omega) dX9_named_9 (by decide) (fun c2 => ?_) (fun c2 => ?_)
      · refine lv_iconst (v := jI (-1)) hx hb dX9_named_34 rfl ?_
        rw [hQ9]
        refine ret_i (mc := 0) (ms := 0) hx hb hr hlocks hw hS (by first | exact Nat.le_of_ble_eq_true rfl | omega) (by first | exact Nat.le_of_ble_eq_true rfl | omega) dX9_named_35 ?_
        exact ⟨rfl, by omega, by omega, by omega, (nmAt_no (f := fun j => X 45 0 (5 * t + j)) (fun j a b => hnn j a (by omega)) (by omega)).symm⟩
      · refine lv_aload_n hx hb dX9_named_12 rfl (lv_at hl 0 rfl) ?_
        refine x_geto hx hb hf9 hw (by first | exact Int.le_refl 0 | omega) (by first | exact zlt hc40 | omega) sl_40_4 lk17 dX9_named_13 ?_
        refine lv_iconst (v := jI 5) hx hb dX9_named_16 rfl ?_
        refine lv_iload_n hx hb dX9_named_17 rfl (lv_at hl 1 rfl) ?_
        refine x_imul hx hb dX9_named_18 ?_
        refine lv_iload_n hx hb dX9_named_19 rfl (lv_at hl 3 rfl) ?_
        refine x_iadd hx hb dX9_named_20 ?_
        refine x_iald hx hb hK.1 hw (by first | exact Int.le_refl 0 | omega) (by first | exact zlt hc45 | omega) ar_45 (len_E ar_45 (by first | exact Nat.ne_of_beq_eq_false rfl | decide)) (by omega) (by omega) (by omega) dX9_named_21 ?_
        have f3 : 0 ≤ X 45 0 ((5 * t) + k) ∧ X 45 0 ((5 * t) + k) ≤ 19 := hR 45 0 ((5 * t) + k)
        refine lv_iload_n hx hb dX9_named_22 rfl (lv_at hl 2 rfl) ?_
        refine x_icmp_ne (tgt := 28) hx hb (by omega) (by omega) dX9_named_23 (by decide) (fun c4 => ?_) (fun c4 => ?_)
        · refine lv_iinc (v := jI (k + 1)) (lv' := [(3, .int (jI (k + 1))), (0, .ref (ad 40 0)), (1, .int (jI t)), (2, .int (jI name))]) hx hb dX9_named_28 hl (k := 3) rfl (jI_add _ _) (by decide) rfl (fun ls hl => ?_)
          refine lv_goto (tgt := 2) hx hb dX9_named_31 (by decide) ?_
          exact ih2 (k + 1) _ _ _ (by omega) (by omega) (fun j a b => if hj : j = k then (by rw [hj]; omega) else hnn j a (by omega)) hw hS (lv_sub hl [1, 2, 3, 0] rfl)
        · refine lv_iload_n hx hb dX9_named_26 rfl (lv_at hl 3 rfl) ?_
          rw [hQ9]
          refine ret_i (mc := 0) (ms := 0) hx hb hr hlocks hw hS (by first | exact Nat.le_of_ble_eq_true rfl | omega) (by first | exact Nat.le_of_ble_eq_true rfl | omega) dX9_named_27 ?_
          exact ⟨rfl, by omega, by omega, by omega, (nmAt_yes (f := fun j => X 45 0 (5 * t + j)) hnn (by omega) (by show X 45 0 (5 * t + k) = name; omega)).symm⟩
  exact lp2 (5 - 0 : Int).toNat.succ 0 _ _ _ (by omega) (by omega) (fun j a b => by omega) hw hS (lv_sub hl [1, 2, 3, 0] rfl)

set_option maxHeartbeats 4000000 in
set_option maxRecDepth 100000 in
theorem c_X9_isField (l : Launch) (D : va_G) (tc : Nat → ClassId) (base : Nat) (ad : Nat → Int → Nat) (cnt : Nat → Int) (X : Nat → Int → Int → Int) (Y : Nat → Int → Int → Option Int) (ln : Int → Int) (hR : Rng X) (hFx : Fx cnt) (x k : Int) (hx : -2147483648 ≤ x ∧ x ≤ 2147483647) (hk : -2147483648 ≤ k ∧ k ≤ 2147483647) : KI l D tc base yX9_isField wsX9_isField ({ frames := 1, cells := 0, slots := 0, locals := 21 } : Room) [.ref (ad 40 0), .int (jI x), .int (jI k)] (ad, cnt, X, Y, ln) 0 0 (fun z u => u = (ad, cnt, X, Y, ln) ∧ ((z = 1 ∧ 0 ≤ x ∧ x < X 40 0 13 ∧ x ≤ 29 ∧ 0 ≤ k ∧ k < X 44 0 (X 55 0 x) ∧ k ≤ 4) ∨ (z = 0 ∧ Hid (¬ (0 ≤ x ∧ x < X 40 0 13 ∧ 0 ≤ k ∧ k < X 44 0 (X 55 0 x)))))) := by
  refine K_of (cc := cX9_isField) (maxL := 3) (ret := (some .boolean)) (by decide) rfl (Nat.le_of_ble_eq_true rfl) ?_
  intro p e s m below meth c ls hx hb hr hml hown hts hlocks hl hK hw hS
  have hown : s.vm.findClass RX9 = some m.cls := hown
  obtain ⟨av9, hav9⟩ : ∃ a9 : Array Value, a9 = ([.ref (ad 40 0), .int (jI x), .int (jI k)] : List Value).toArray := ⟨_, rfl⟩
  rw [← hav9] at hts ⊢
  obtain ⟨Q9, hQ9⟩ : ∃ q9Q : State → Prop, q9Q = MQ below (QI D tc base (fun z u => u = (ad, cnt, X, Y, ln) ∧ ((z = 1 ∧ 0 ≤ x ∧ x < X 40 0 13 ∧ x ≤ 29 ∧ 0 ≤ k ∧ k < X 44 0 (X 55 0 x) ∧ k ≤ 4) ∨ (z = 0 ∧ Hid (¬ (0 ≤ x ∧ x < X 40 0 13 ∧ 0 ≤ k ∧ k < X 44 0 (X 55 0 x))))))) av9 s 0 0 (frA base) := ⟨_, rfl⟩
  rw [← hQ9]
  have hi9 : ∀ w ∈ wsX90, w ∈ wsX9_isField := fun w h => List.mem_cons_of_mem _ (List.mem_append_right _ h)
  have hf9 : fctx s m _ RX9 wsX9_isField D tc RX9 TX9 51 9 := ⟨hts, hi9, hown, hK.1, rfl⟩
  have lk13 := hts (.fieldLink RX9 13 (TX9 3).1 (TX9 3).2.1 (TX9 3).2.2.1) (gj_X9_isField_0 _ (gp_h))
  have lk45 := hts (.fieldLink RX9 45 (TX9 14).1 (TX9 14).2.1 (TX9 14).2.2.1) (gj_X9_isField_0 _ (gp_1 gp_h))
  have hc40 : cnt 40 = 1 := hFx.at 40 1 (by decide)
  have hc44 : cnt 44 = 1 := hFx.at 44 1 (by decide)
  have hc55 : cnt 55 = 1 := hFx.at 55 1 (by decide)
  have hl : lv_has ls 3 [(0, .ref (ad 40 0)), (1, .int (jI x)), (2, .int (jI k))] := hl
  refine lv_aload_n hx hb dX9_isField_0 rfl (lv_at hl 0 rfl) ?_
  refine lv_iload_n hx hb dX9_isField_1 rfl (lv_at hl 1 rfl) ?_
  refine gos_i (run_V (As := [.int (jI x)]) (rest := []) hx hb hml hown hts (c_X9_isThing l D tc base ad cnt X Y ln hR hFx x (by omega)) (cwV 1 hts gX9_isField_X9_isThing rfl rfl rfl (by first | exact hd_X9_isThing | decide +kernel) ⟨Nat.le_of_ble_eq_true rfl, Nat.le_of_ble_eq_true rfl⟩) hK hw (by first | exact Int.le_refl 0 | omega) (by first | exact zlt hc40 | omega) sl_40_0 rfl rfl hl.1 rfl (Nat.le_of_ble_eq_true rfl) dX9_isField_2 ⟨Nat.le_of_ble_eq_true rfl, Nat.le_of_ble_eq_true rfl⟩) hS (fun z1 u2 H locs p3 hw hS => ?_)
  obtain ⟨eu2, p3⟩ := p3
  subst eu2
  rcases p3 with ⟨ez1, p3⟩ | ⟨ez1, p3⟩
  · subst ez1
    refine x_if_eqF (tgt := 31) hx hb (by omega) (by decide) dX9_isField_5 (by decide) ?_
    refine lv_iload_n hx hb dX9_isField_8 rfl (lv_at hl 2 rfl) ?_
    refine x_if_lt (tgt := 31) hx hb (by omega) dX9_isField_9 (by decide) (fun c4 => ?_) (fun c4 => ?_)
    · refine lv_iconst (v := jI 0) hx hb dX9_isField_31 rfl ?_
      rw [hQ9]
      refine ret_z (mc := 0) (ms := 0) hx hb hr hlocks hw hS (by first | exact Nat.le_of_ble_eq_true rfl | omega) (by first | exact Nat.le_of_ble_eq_true rfl | omega) dX9_isField_32 (by omega) ?_
      exact ⟨rfl, Or.inr ⟨rfl, (by first | omega | (intro q; first | omega | (simp only [Hid] at *; omega)))⟩⟩
    · refine lv_iload_n hx hb dX9_isField_12 rfl (lv_at hl 2 rfl) ?_
      refine lv_aload_n hx hb dX9_isField_13 rfl (lv_at hl 0 rfl) ?_
      refine x_geto hx hb hf9 hw (by first | exact Int.le_refl 0 | omega) (by first | exact zlt hc40 | omega) sl_40_3 lk13 dX9_isField_14 ?_
      refine lv_aload_n hx hb dX9_isField_17 rfl (lv_at hl 0 rfl) ?_
      refine x_geto hx hb hf9 hw (by first | exact Int.le_refl 0 | omega) (by first | exact zlt hc40 | omega) sl_40_14 lk45 dX9_isField_18 ?_
      refine lv_iload_n hx hb dX9_isField_21 rfl (lv_at hl 1 rfl) ?_
      refine x_iald hx hb hK.1 hw (by first | exact Int.le_refl 0 | omega) (by first | exact zlt hc55 | omega) ar_55 (len_E ar_55 (by first | exact Nat.ne_of_beq_eq_false rfl | decide)) (by omega) (by omega) (by omega) dX9_isField_22 ?_
      have f5 : 0 ≤ X 55 0 x ∧ X 55 0 x ≤ 7 := hR 55 0 x
      refine x_iald hx hb hK.1 hw (by first | exact Int.le_refl 0 | omega) (by first | exact zlt hc44 | omega) ar_44 (len_E ar_44 (by first | exact Nat.ne_of_beq_eq_false rfl | decide)) (by omega) (by omega) (by omega) dX9_isField_23 ?_
      have f6 : 0 ≤ X 44 0 (X 55 0 x) ∧ X 44 0 (X 55 0 x) ≤ 5 := hR 44 0 (X 55 0 x)
      refine x_icmp_ge (tgt := 31) hx hb (by omega) (by omega) dX9_isField_24 (by decide) (fun c7 => ?_) (fun c7 => ?_)
      · refine lv_iconst (v := jI 0) hx hb dX9_isField_31 rfl ?_
        rw [hQ9]
        refine ret_z (mc := 0) (ms := 0) hx hb hr hlocks hw hS (by first | exact Nat.le_of_ble_eq_true rfl | omega) (by first | exact Nat.le_of_ble_eq_true rfl | omega) dX9_isField_32 (by omega) ?_
        exact ⟨rfl, Or.inr ⟨rfl, (by first | omega | (intro q; first | omega | (simp only [Hid] at *; omega)))⟩⟩
      · refine lv_iconst (v := jI 1) hx hb dX9_isField_27 rfl ?_
        refine lv_goto (tgt := 32) hx hb dX9_isField_28 (by decide) ?_
        rw [hQ9]
        refine ret_z (mc := 0) (ms := 0) hx hb hr hlocks hw hS (by first | exact Nat.le_of_ble_eq_true rfl | omega) (by first | exact Nat.le_of_ble_eq_true rfl | omega) dX9_isField_32 (by omega) ?_
        exact ⟨rfl, Or.inl ⟨rfl, by omega⟩⟩
  · subst ez1
    refine x_if_eqT (tgt := 31) hx hb (by omega) (by decide) dX9_isField_5 (by decide) ?_
    refine lv_iconst (v := jI 0) hx hb dX9_isField_31 rfl ?_
    rw [hQ9]
    refine ret_z (mc := 0) (ms := 0) hx hb hr hlocks hw hS (by first | exact Nat.le_of_ble_eq_true rfl | omega) (by first | exact Nat.le_of_ble_eq_true rfl | omega) dX9_isField_32 (by omega) ?_
    exact ⟨rfl, Or.inr ⟨rfl, (by first | omega | (intro q; first | omega | (simp only [Hid] at *; omega)))⟩⟩

set_option maxHeartbeats 4000000 in
set_option maxRecDepth 100000 in
theorem c_X9_isSave (l : Launch) (D : va_G) (tc : Nat → ClassId) (base : Nat) (ad : Nat → Int → Nat) (cnt : Nat → Int) (X : Nat → Int → Int → Int) (Y : Nat → Int → Int → Option Int) (ln : Int → Int) (hR : Rng X) (hFx : Fx cnt) (x : Int) (hx : -2147483648 ≤ x ∧ x ≤ 2147483647) : KI l D tc base yX9_isSave wsX9_isSave ({ frames := 0, cells := 0, slots := 0, locals := 0 } : Room) [.ref (ad 40 0), .int (jI x)] (ad, cnt, X, Y, ln) 0 0 (fun z u => u = (ad, cnt, X, Y, ln) ∧ ((z = 1 ∧ 0 ≤ x ∧ x < 4) ∨ (z = 0 ∧ Hid (¬ (0 ≤ x ∧ x < 4))))) := by
  refine K_of (cc := cX9_isSave) (maxL := 2) (ret := (some .boolean)) (by decide) rfl (Nat.le_of_ble_eq_true rfl) ?_
  intro p e s m below meth c ls hx hb hr hml hown hts hlocks hl hK hw hS
  have hown : s.vm.findClass RX9 = some m.cls := hown
  obtain ⟨av9, hav9⟩ : ∃ a9 : Array Value, a9 = ([.ref (ad 40 0), .int (jI x)] : List Value).toArray := ⟨_, rfl⟩
  rw [← hav9] at hts ⊢
  obtain ⟨Q9, hQ9⟩ : ∃ q9Q : State → Prop, q9Q = MQ below (QI D tc base (fun z u => u = (ad, cnt, X, Y, ln) ∧ ((z = 1 ∧ 0 ≤ x ∧ x < 4) ∨ (z = 0 ∧ Hid (¬ (0 ≤ x ∧ x < 4)))))) av9 s 0 0 (frA base) := ⟨_, rfl⟩
  rw [← hQ9]
  have hc40 : cnt 40 = 1 := hFx.at 40 1 (by decide)
  have hl : lv_has ls 2 [(0, .ref (ad 40 0)), (1, .int (jI x))] := hl
  refine lv_iload_n hx hb dX9_isSave_0 rfl (lv_at hl 1 rfl) ?_
  refine x_if_lt (tgt := 13) hx hb (by omega) dX9_isSave_1 (by decide) (fun c1 => ?_) (fun c1 => ?_)
  · refine lv_iconst (v := jI 0) hx hb dX9_isSave_13 rfl ?_
    rw [hQ9]
    refine ret_z (mc := 0) (ms := 0) hx hb hr hlocks hw hS (by first | exact Nat.le_of_ble_eq_true rfl | omega) (by first | exact Nat.le_of_ble_eq_true rfl | omega) dX9_isSave_14 (by omega) ?_
    exact ⟨rfl, Or.inr ⟨rfl, (by first | omega | (intro q; first | omega | (simp only [Hid] at *; omega)))⟩⟩
  · refine lv_iload_n hx hb dX9_isSave_4 rfl (lv_at hl 1 rfl) ?_
    refine lv_iconst (v := jI 4) hx hb dX9_isSave_5 rfl ?_
    refine x_icmp_ge (tgt := 13) hx hb (by omega) (by omega) dX9_isSave_6 (by decide) (fun c2 => ?_) (fun c2 => ?_)
    · refine lv_iconst (v := jI 0) hx hb dX9_isSave_13 rfl ?_
      rw [hQ9]
      refine ret_z (mc := 0) (ms := 0) hx hb hr hlocks hw hS (by first | exact Nat.le_of_ble_eq_true rfl | omega) (by first | exact Nat.le_of_ble_eq_true rfl | omega) dX9_isSave_14 (by omega) ?_
      exact ⟨rfl, Or.inr ⟨rfl, (by first | omega | (intro q; first | omega | (simp only [Hid] at *; omega)))⟩⟩
    · refine lv_iconst (v := jI 1) hx hb dX9_isSave_9 rfl ?_
      refine lv_goto (tgt := 14) hx hb dX9_isSave_10 (by decide) ?_
      rw [hQ9]
      refine ret_z (mc := 0) (ms := 0) hx hb hr hlocks hw hS (by first | exact Nat.le_of_ble_eq_true rfl | omega) (by first | exact Nat.le_of_ble_eq_true rfl | omega) dX9_isSave_14 (by omega) ?_
      exact ⟨rfl, Or.inl ⟨rfl, by omega⟩⟩

set_option maxHeartbeats 4000000 in
set_option maxRecDepth 100000 in
theorem c_X9_isFull (l : Launch) (D : va_G) (tc : Nat → ClassId) (base : Nat) (ad : Nat → Int → Nat) (cnt : Nat → Int) (X : Nat → Int → Int → Int) (Y : Nat → Int → Int → Option Int) (ln : Int → Int) (hR : Rng X) (hFx : Fx cnt) : KI l D tc base yX9_isFull wsX9_isFull ({ frames := 0, cells := 0, slots := 0, locals := 0 } : Room) [.ref (ad 40 0)] (ad, cnt, X, Y, ln) 0 0 (fun z u => u = (ad, cnt, X, Y, ln) ∧ ((z = 1 ∧ 0 < X 40 0 20 ∧ X 40 0 22 = 80) ∨ (z = 0 ∧ (0 < X 40 0 20 → X 40 0 22 ≤ 79)))) := by
  refine K_of (cc := cX9_isFull) (maxL := 1) (ret := (some .boolean)) (by decide) rfl (Nat.le_of_ble_eq_true rfl) ?_
  intro p e s m below meth c ls hx hb hr hml hown hts hlocks hl hK hw hS
  have hown : s.vm.findClass RX9 = some m.cls := hown
  obtain ⟨av9, hav9⟩ : ∃ a9 : Array Value, a9 = ([.ref (ad 40 0)] : List Value).toArray := ⟨_, rfl⟩
  rw [← hav9] at hts ⊢
  obtain ⟨Q9, hQ9⟩ : ∃ q9Q : State → Prop, q9Q = MQ below (QI D tc base (fun z u => u = (ad, cnt, X, Y, ln) ∧ ((z = 1 ∧ 0 < X 40 0 20 ∧ X 40 0 22 = 80) ∨ (z = 0 ∧ (0 < X 40 0 20 → X 40 0 22 ≤ 79))))) av9 s 0 0 (frA base) := ⟨_, rfl⟩
  rw [← hQ9]
  have hi9 : ∀ w ∈ wsX90, w ∈ wsX9_isFull := fun w h => List.mem_cons_of_mem _ (List.mem_append_right _ h)
  have hf9 : fctx s m _ RX9 wsX9_isFull D tc RX9 TX9 51 9 := ⟨hts, hi9, hown, hK.1, rfl⟩
  have lk165 := hts (.fieldLink RX9 165 (TX9 20).1 (TX9 20).2.1 (TX9 20).2.2.1) (gj_X9_isFull_0 _ (gp_h))
  have lk173 := hts (.fieldLink RX9 173 (TX9 22).1 (TX9 22).2.1 (TX9 22).2.2.1) (gj_X9_isFull_0 _ (gp_1 gp_h))
  have hc40 : cnt 40 = 1 := hFx.at 40 1 (by decide)
  have hl : lv_has ls 1 [(0, .ref (ad 40 0))] := hl
  have fsmarks : 0 ≤ X 40 0 20 ∧ X 40 0 20 ≤ 4 := hR 40 0 20
  have fsnotes : 0 ≤ X 40 0 22 ∧ X 40 0 22 ≤ 80 := hR 40 0 22
  refine lv_aload_n hx hb dX9_isFull_0 rfl (lv_at hl 0 rfl) ?_
  refine x_geti (jz := 20) hx hb hf9 hw (by first | exact Int.le_refl 0 | omega) (by first | exact zlt hc40 | omega) sl_40_20 rfl lk165 dX9_isFull_1 ?_
  have f1 : 0 ≤ X 40 0 20 ∧ X 40 0 20 ≤ 4 := hR 40 0 20
  refine x_if_le (tgt := 20) hx hb (by omega) dX9_isFull_4 (by decide) (fun c2 => ?_) (fun c2 => ?_)
  · refine lv_iconst (v := jI 0) hx hb dX9_isFull_20 rfl ?_
    rw [hQ9]
    refine ret_z (mc := 0) (ms := 0) hx hb hr hlocks hw hS (by first | exact Nat.le_of_ble_eq_true rfl | omega) (by first | exact Nat.le_of_ble_eq_true rfl | omega) dX9_isFull_21 (by omega) ?_
    exact ⟨rfl, Or.inr ⟨rfl, (by first | omega | (intro q; first | omega | (simp only [Hid] at *; omega)))⟩⟩
  · refine lv_aload_n hx hb dX9_isFull_7 rfl (lv_at hl 0 rfl) ?_
    refine x_geti (jz := 22) hx hb hf9 hw (by first | exact Int.le_refl 0 | omega) (by first | exact zlt hc40 | omega) sl_40_22 rfl lk173 dX9_isFull_8 ?_
    have f3 : 0 ≤ X 40 0 22 ∧ X 40 0 22 ≤ 80 := hR 40 0 22
    refine lv_bipush (v := jI 80) hx hb dX9_isFull_11 (by decide) ?_
    refine x_icmp_ne (tgt := 20) hx hb (by omega) (by omega) dX9_isFull_13 (by decide) (fun c4 => ?_) (fun c4 => ?_)
    · refine lv_iconst (v := jI 0) hx hb dX9_isFull_20 rfl ?_
      rw [hQ9]
      refine ret_z (mc := 0) (ms := 0) hx hb hr hlocks hw hS (by first | exact Nat.le_of_ble_eq_true rfl | omega) (by first | exact Nat.le_of_ble_eq_true rfl | omega) dX9_isFull_21 (by omega) ?_
      exact ⟨rfl, Or.inr ⟨rfl, (by first | omega | (intro q; first | omega | (simp only [Hid] at *; omega)))⟩⟩
    · refine lv_iconst (v := jI 1) hx hb dX9_isFull_16 rfl ?_
      refine lv_goto (tgt := 21) hx hb dX9_isFull_17 (by decide) ?_
      rw [hQ9]
      refine ret_z (mc := 0) (ms := 0) hx hb hr hlocks hw hS (by first | exact Nat.le_of_ble_eq_true rfl | omega) (by first | exact Nat.le_of_ble_eq_true rfl | omega) dX9_isFull_21 (by omega) ?_
      exact ⟨rfl, Or.inl ⟨rfl, by omega⟩⟩

set_option maxHeartbeats 4000000 in
set_option maxRecDepth 100000 in
theorem c_X9_goes (l : Launch) (D : va_G) (tc : Nat → ClassId) (base : Nat) (ad : Nat → Int → Nat) (cnt : Nat → Int) (X : Nat → Int → Int → Int) (Y : Nat → Int → Int → Option Int) (ln : Int → Int) (a b : Int) (ha : 0 ≤ a ∧ a ≤ 5) (hb0 : 0 ≤ b ∧ b ≤ 5) : KI l D tc base yX9_goes wsX9_goes ({ frames := 0, cells := 0, slots := 0, locals := 0 } : Room) [.int (jI a), .int (jI b)] (ad, cnt, X, Y, ln) 0 0 (fun z u => u = (ad, cnt, X, Y, ln) ∧ ((z = 1 ∧ (a = b ∨ (a = 1 ∧ b = 0) ∨ (a = 3 ∧ 3 < b) ∨ (a = 4 ∧ b = 5))) ∨ (z = 0 ∧ Hid (¬ ((a = b ∨ (a = 1 ∧ b = 0) ∨ (a = 3 ∧ 3 < b) ∨ (a = 4 ∧ b = 5))))))) := by
  refine K_of (cc := cX9_goes) (maxL := 2) (ret := (some .boolean)) (by decide) rfl (Nat.le_of_ble_eq_true rfl) ?_
  intro p e s m below meth c ls hx hb hr hml hown hts hlocks hl hK hw hS
  have hown : s.vm.findClass RX9 = some m.cls := hown
  obtain ⟨av9, hav9⟩ : ∃ a9 : Array Value, a9 = ([.int (jI a), .int (jI b)] : List Value).toArray := ⟨_, rfl⟩
  rw [← hav9] at hts ⊢
  obtain ⟨Q9, hQ9⟩ : ∃ q9Q : State → Prop, q9Q = MQ below (QI D tc base (fun z u => u = (ad, cnt, X, Y, ln) ∧ ((z = 1 ∧ (a = b ∨ (a = 1 ∧ b = 0) ∨ (a = 3 ∧ 3 < b) ∨ (a = 4 ∧ b = 5))) ∨ (z = 0 ∧ Hid (¬ ((a = b ∨ (a = 1 ∧ b = 0) ∨ (a = 3 ∧ 3 < b) ∨ (a = 4 ∧ b = 5)))))))) av9 s 0 0 (frA base) := ⟨_, rfl⟩
  rw [← hQ9]
  have hl : lv_has ls 2 [(0, .int (jI a)), (1, .int (jI b))] := hl
  refine lv_iload_n hx hb dX9_goes_0 rfl (lv_at hl 0 rfl) ?_
  refine lv_iload_n hx hb dX9_goes_1 rfl (lv_at hl 1 rfl) ?_
  refine x_icmp_eq (tgt := 34) hx hb (by omega) (by omega) dX9_goes_2 (by decide) (fun c1 => ?_) (fun c1 => ?_)
  · refine lv_iconst (v := jI 1) hx hb dX9_goes_34 rfl ?_
    refine lv_goto (tgt := 39) hx hb dX9_goes_35 (by decide) ?_
    rw [hQ9]
    refine ret_z (mc := 0) (ms := 0) hx hb hr hlocks hw hS (by first | exact Nat.le_of_ble_eq_true rfl | omega) (by first | exact Nat.le_of_ble_eq_true rfl | omega) dX9_goes_39 (by omega) ?_
    exact ⟨rfl, Or.inl ⟨rfl, by omega⟩⟩
  · refine lv_iload_n hx hb dX9_goes_5 rfl (lv_at hl 0 rfl) ?_
    refine lv_iconst (v := jI 1) hx hb dX9_goes_6 rfl ?_
    refine x_icmp_ne (tgt := 14) hx hb (by omega) (by omega) dX9_goes_7 (by decide) (fun c2 => ?_) (fun c2 => ?_)
    · refine lv_iload_n hx hb dX9_goes_14 rfl (lv_at hl 0 rfl) ?_
      refine lv_iconst (v := jI 3) hx hb dX9_goes_15 rfl ?_
      refine x_icmp_ne (tgt := 24) hx hb (by omega) (by omega) dX9_goes_16 (by decide) (fun c3 => ?_) (fun c3 => ?_)
      · refine lv_iload_n hx hb dX9_goes_24 rfl (lv_at hl 0 rfl) ?_
        refine lv_iconst (v := jI 4) hx hb dX9_goes_25 rfl ?_
        refine x_icmp_ne (tgt := 38) hx hb (by omega) (by omega) dX9_goes_26 (by decide) (fun c4 => ?_) (fun c4 => ?_)
        · refine lv_iconst (v := jI 0) hx hb dX9_goes_38 rfl ?_
          rw [hQ9]
          refine ret_z (mc := 0) (ms := 0) hx hb hr hlocks hw hS (by first | exact Nat.le_of_ble_eq_true rfl | omega) (by first | exact Nat.le_of_ble_eq_true rfl | omega) dX9_goes_39 (by omega) ?_
          exact ⟨rfl, Or.inr ⟨rfl, (by first | omega | (intro q; first | omega | (simp only [Hid] at *; omega)))⟩⟩
        · refine lv_iload_n hx hb dX9_goes_29 rfl (lv_at hl 1 rfl) ?_
          refine lv_iconst (v := jI 5) hx hb dX9_goes_30 rfl ?_
          refine x_icmp_ne (tgt := 38) hx hb (by omega) (by omega) dX9_goes_31 (by decide) (fun c5 => ?_) (fun c5 => ?_)
          · refine lv_iconst (v := jI 0) hx hb dX9_goes_38 rfl ?_
            rw [hQ9]
            refine ret_z (mc := 0) (ms := 0) hx hb hr hlocks hw hS (by first | exact Nat.le_of_ble_eq_true rfl | omega) (by first | exact Nat.le_of_ble_eq_true rfl | omega) dX9_goes_39 (by omega) ?_
            exact ⟨rfl, Or.inr ⟨rfl, (by first | omega | (intro q; first | omega | (simp only [Hid] at *; omega)))⟩⟩
          · refine lv_iconst (v := jI 1) hx hb dX9_goes_34 rfl ?_
            refine lv_goto (tgt := 39) hx hb dX9_goes_35 (by decide) ?_
            rw [hQ9]
            refine ret_z (mc := 0) (ms := 0) hx hb hr hlocks hw hS (by first | exact Nat.le_of_ble_eq_true rfl | omega) (by first | exact Nat.le_of_ble_eq_true rfl | omega) dX9_goes_39 (by omega) ?_
            exact ⟨rfl, Or.inl ⟨rfl, by omega⟩⟩
      · refine lv_iload_n hx hb dX9_goes_19 rfl (lv_at hl 1 rfl) ?_
        refine lv_iconst (v := jI 3) hx hb dX9_goes_20 rfl ?_
        refine x_icmp_gt (tgt := 34) hx hb (by omega) (by omega) dX9_goes_21 (by decide) (fun c6 => ?_) (fun c6 => ?_)
        · refine lv_iconst (v := jI 1) hx hb dX9_goes_34 rfl ?_
          refine lv_goto (tgt := 39) hx hb dX9_goes_35 (by decide) ?_
          rw [hQ9]
          refine ret_z (mc := 0) (ms := 0) hx hb hr hlocks hw hS (by first | exact Nat.le_of_ble_eq_true rfl | omega) (by first | exact Nat.le_of_ble_eq_true rfl | omega) dX9_goes_39 (by omega) ?_
          exact ⟨rfl, Or.inl ⟨rfl, by omega⟩⟩
        · refine lv_iload_n hx hb dX9_goes_24 rfl (lv_at hl 0 rfl) ?_
          refine lv_iconst (v := jI 4) hx hb dX9_goes_25 rfl ?_
          refine x_icmp_ne (tgt := 38) hx hb (by omega) (by omega) dX9_goes_26 (by decide) (fun c7 => ?_) (fun c7 => ?_)
          · refine lv_iconst (v := jI 0) hx hb dX9_goes_38 rfl ?_
            rw [hQ9]
            refine ret_z (mc := 0) (ms := 0) hx hb hr hlocks hw hS (by first | exact Nat.le_of_ble_eq_true rfl | omega) (by first | exact Nat.le_of_ble_eq_true rfl | omega) dX9_goes_39 (by omega) ?_
            exact ⟨rfl, Or.inr ⟨rfl, (by first | omega | (intro q; first | omega | (simp only [Hid] at *; omega)))⟩⟩
          · refine lv_iload_n hx hb dX9_goes_29 rfl (lv_at hl 1 rfl) ?_
            refine lv_iconst (v := jI 5) hx hb dX9_goes_30 rfl ?_
            refine x_icmp_ne (tgt := 38) hx hb (by omega) (by omega) dX9_goes_31 (by decide) (fun c8 => ?_) (fun c8 => ?_)
            · refine lv_iconst (v := jI 0) hx hb dX9_goes_38 rfl ?_
              rw [hQ9]
              refine ret_z (mc := 0) (ms := 0) hx hb hr hlocks hw hS (by first | exact Nat.le_of_ble_eq_true rfl | omega) (by first | exact Nat.le_of_ble_eq_true rfl | omega) dX9_goes_39 (by omega) ?_
              exact ⟨rfl, Or.inr ⟨rfl, (by first | omega | (intro q; first | omega | (simp only [Hid] at *; omega)))⟩⟩
            · refine lv_iconst (v := jI 1) hx hb dX9_goes_34 rfl ?_
              refine lv_goto (tgt := 39) hx hb dX9_goes_35 (by decide) ?_
              rw [hQ9]
              refine ret_z (mc := 0) (ms := 0) hx hb hr hlocks hw hS (by first | exact Nat.le_of_ble_eq_true rfl | omega) (by first | exact Nat.le_of_ble_eq_true rfl | omega) dX9_goes_39 (by omega) ?_
              exact ⟨rfl, Or.inl ⟨rfl, by omega⟩⟩
    · refine lv_iload_n hx hb dX9_goes_10 rfl (lv_at hl 1 rfl) ?_
      refine x_if_eq (tgt := 34) hx hb (by omega) dX9_goes_11 (by decide) (fun c9 => ?_) (fun c9 => ?_)
      · refine lv_iconst (v := jI 1) hx hb dX9_goes_34 rfl ?_
        refine lv_goto (tgt := 39) hx hb dX9_goes_35 (by decide) ?_
        rw [hQ9]
        refine ret_z (mc := 0) (ms := 0) hx hb hr hlocks hw hS (by first | exact Nat.le_of_ble_eq_true rfl | omega) (by first | exact Nat.le_of_ble_eq_true rfl | omega) dX9_goes_39 (by omega) ?_
        exact ⟨rfl, Or.inl ⟨rfl, by omega⟩⟩
      · refine lv_iload_n hx hb dX9_goes_14 rfl (lv_at hl 0 rfl) ?_
        refine lv_iconst (v := jI 3) hx hb dX9_goes_15 rfl ?_
        refine x_icmp_ne (tgt := 24) hx hb (by omega) (by omega) dX9_goes_16 (by decide) (fun c10 => ?_) (fun c10 => ?_)
        · refine lv_iload_n hx hb dX9_goes_24 rfl (lv_at hl 0 rfl) ?_
          refine lv_iconst (v := jI 4) hx hb dX9_goes_25 rfl ?_
          refine x_icmp_ne (tgt := 38) hx hb (by omega) (by omega) dX9_goes_26 (by decide) (fun c11 => ?_) (fun c11 => ?_)
          · refine lv_iconst (v := jI 0) hx hb dX9_goes_38 rfl ?_
            rw [hQ9]
            refine ret_z (mc := 0) (ms := 0) hx hb hr hlocks hw hS (by first | exact Nat.le_of_ble_eq_true rfl | omega) (by first | exact Nat.le_of_ble_eq_true rfl | omega) dX9_goes_39 (by omega) ?_
            exact ⟨rfl, Or.inr ⟨rfl, (by first | omega | (intro q; first | omega | (simp only [Hid] at *; omega)))⟩⟩
          · refine lv_iload_n hx hb dX9_goes_29 rfl (lv_at hl 1 rfl) ?_
            refine lv_iconst (v := jI 5) hx hb dX9_goes_30 rfl ?_
            refine x_icmp_ne (tgt := 38) hx hb (by omega) (by omega) dX9_goes_31 (by decide) (fun c12 => ?_) (fun c12 => ?_)
            · refine lv_iconst (v := jI 0) hx hb dX9_goes_38 rfl ?_
              rw [hQ9]
              refine ret_z (mc := 0) (ms := 0) hx hb hr hlocks hw hS (by first | exact Nat.le_of_ble_eq_true rfl | omega) (by first | exact Nat.le_of_ble_eq_true rfl | omega) dX9_goes_39 (by omega) ?_
              exact ⟨rfl, Or.inr ⟨rfl, (by first | omega | (intro q; first | omega | (simp only [Hid] at *; omega)))⟩⟩
            · refine lv_iconst (v := jI 1) hx hb dX9_goes_34 rfl ?_
              refine lv_goto (tgt := 39) hx hb dX9_goes_35 (by decide) ?_
              rw [hQ9]
              refine ret_z (mc := 0) (ms := 0) hx hb hr hlocks hw hS (by first | exact Nat.le_of_ble_eq_true rfl | omega) (by first | exact Nat.le_of_ble_eq_true rfl | omega) dX9_goes_39 (by omega) ?_
              exact ⟨rfl, Or.inl ⟨rfl, by omega⟩⟩
        · refine lv_iload_n hx hb dX9_goes_19 rfl (lv_at hl 1 rfl) ?_
          refine lv_iconst (v := jI 3) hx hb dX9_goes_20 rfl ?_
          refine x_icmp_gt (tgt := 34) hx hb (by omega) (by omega) dX9_goes_21 (by decide) (fun c13 => ?_) (fun c13 => ?_)
          · refine lv_iconst (v := jI 1) hx hb dX9_goes_34 rfl ?_
            refine lv_goto (tgt := 39) hx hb dX9_goes_35 (by decide) ?_
            rw [hQ9]
            refine ret_z (mc := 0) (ms := 0) hx hb hr hlocks hw hS (by first | exact Nat.le_of_ble_eq_true rfl | omega) (by first | exact Nat.le_of_ble_eq_true rfl | omega) dX9_goes_39 (by omega) ?_
            exact ⟨rfl, Or.inl ⟨rfl, by omega⟩⟩
          · refine lv_iload_n hx hb dX9_goes_24 rfl (lv_at hl 0 rfl) ?_
            refine lv_iconst (v := jI 4) hx hb dX9_goes_25 rfl ?_
            refine x_icmp_ne (tgt := 38) hx hb (by omega) (by omega) dX9_goes_26 (by decide) (fun c14 => ?_) (fun c14 => ?_)
            · refine lv_iconst (v := jI 0) hx hb dX9_goes_38 rfl ?_
              rw [hQ9]
              refine ret_z (mc := 0) (ms := 0) hx hb hr hlocks hw hS (by first | exact Nat.le_of_ble_eq_true rfl | omega) (by first | exact Nat.le_of_ble_eq_true rfl | omega) dX9_goes_39 (by omega) ?_
              exact ⟨rfl, Or.inr ⟨rfl, (by first | omega | (intro q; first | omega | (simp only [Hid] at *; omega)))⟩⟩
            · refine lv_iload_n hx hb dX9_goes_29 rfl (lv_at hl 1 rfl) ?_
              refine lv_iconst (v := jI 5) hx hb dX9_goes_30 rfl ?_
              refine x_icmp_ne (tgt := 38) hx hb (by omega) (by omega) dX9_goes_31 (by decide) (fun c15 => ?_) (fun c15 => ?_)
              · refine lv_iconst (v := jI 0) hx hb dX9_goes_38 rfl ?_
                rw [hQ9]
                refine ret_z (mc := 0) (ms := 0) hx hb hr hlocks hw hS (by first | exact Nat.le_of_ble_eq_true rfl | omega) (by first | exact Nat.le_of_ble_eq_true rfl | omega) dX9_goes_39 (by omega) ?_
                exact ⟨rfl, Or.inr ⟨rfl, (by first | omega | (intro q; first | omega | (simp only [Hid] at *; omega)))⟩⟩
              · refine lv_iconst (v := jI 1) hx hb dX9_goes_34 rfl ?_
                refine lv_goto (tgt := 39) hx hb dX9_goes_35 (by decide) ?_
                rw [hQ9]
                refine ret_z (mc := 0) (ms := 0) hx hb hr hlocks hw hS (by first | exact Nat.le_of_ble_eq_true rfl | omega) (by first | exact Nat.le_of_ble_eq_true rfl | omega) dX9_goes_39 (by omega) ?_
                exact ⟨rfl, Or.inl ⟨rfl, by omega⟩⟩

set_option maxHeartbeats 4000000 in
set_option maxRecDepth 100000 in
theorem c_X9_isLane (l : Launch) (D : va_G) (tc : Nat → ClassId) (base : Nat) (ad : Nat → Int → Nat) (cnt : Nat → Int) (X : Nat → Int → Int → Int) (Y : Nat → Int → Int → Option Int) (ln : Int → Int) (hR : Rng X) (hFx : Fx cnt) (x k a b : Int) (hx0 : 0 ≤ x ∧ x ≤ 29) (hk0 : 0 ≤ k ∧ k ≤ 4) (ha0 : 0 ≤ a ∧ a ≤ 5) (hb0 : 0 ≤ b ∧ b ≤ 5) : KI l D tc base yX9_isLane wsX9_isLane ({ frames := 1, cells := 0, slots := 0, locals := 22 } : Room) [.ref (ad 40 0), .int (jI x), .int (jI k), .int (jI a), .int (jI b)] (ad, cnt, X, Y, ln) 0 0 (fun z u => u = (ad, cnt, X, Y, ln) ∧ ((z = 1 ∧ k < X 44 0 (X 55 0 x) ∧ a ≤ X 46 0 (5 * X 55 0 x + k) ∧ X 46 0 (5 * X 55 0 x + k) ≤ b) ∨ (z = 0 ∧ Hid (¬ (k < X 44 0 (X 55 0 x) ∧ a ≤ X 46 0 (5 * X 55 0 x + k) ∧ X 46 0 (5 * X 55 0 x + k) ≤ b))))) := by
  refine K_of (cc := cX9_isLane) (maxL := 5) (ret := (some .boolean)) (by decide) rfl (Nat.le_of_ble_eq_true rfl) ?_
  intro p e s m below meth c ls hx hb hr hml hown hts hlocks hl hK hw hS
  have hown : s.vm.findClass RX9 = some m.cls := hown
  obtain ⟨av9, hav9⟩ : ∃ a9 : Array Value, a9 = ([.ref (ad 40 0), .int (jI x), .int (jI k), .int (jI a), .int (jI b)] : List Value).toArray := ⟨_, rfl⟩
  rw [← hav9] at hts ⊢
  obtain ⟨Q9, hQ9⟩ : ∃ q9Q : State → Prop, q9Q = MQ below (QI D tc base (fun z u => u = (ad, cnt, X, Y, ln) ∧ ((z = 1 ∧ k < X 44 0 (X 55 0 x) ∧ a ≤ X 46 0 (5 * X 55 0 x + k) ∧ X 46 0 (5 * X 55 0 x + k) ≤ b) ∨ (z = 0 ∧ Hid (¬ (k < X 44 0 (X 55 0 x) ∧ a ≤ X 46 0 (5 * X 55 0 x + k) ∧ X 46 0 (5 * X 55 0 x + k) ≤ b)))))) av9 s 0 0 (frA base) := ⟨_, rfl⟩
  rw [← hQ9]
  have hi9 : ∀ w ∈ wsX90, w ∈ wsX9_isLane := fun w h => List.mem_cons_of_mem _ (List.mem_append_right _ h)
  have hf9 : fctx s m _ RX9 wsX9_isLane D tc RX9 TX9 51 9 := ⟨hts, hi9, hown, hK.1, rfl⟩
  have lk13 := hts (.fieldLink RX9 13 (TX9 3).1 (TX9 3).2.1 (TX9 3).2.2.1) (gj_X9_isLane_0 _ (gp_h))
  have lk45 := hts (.fieldLink RX9 45 (TX9 14).1 (TX9 14).2.1 (TX9 14).2.2.1) (gj_X9_isLane_0 _ (gp_1 gp_h))
  have hc40 : cnt 40 = 1 := hFx.at 40 1 (by decide)
  have hc44 : cnt 44 = 1 := hFx.at 44 1 (by decide)
  have hc55 : cnt 55 = 1 := hFx.at 55 1 (by decide)
  have hl : lv_has ls 5 [(0, .ref (ad 40 0)), (1, .int (jI x)), (2, .int (jI k)), (3, .int (jI a)), (4, .int (jI b))] := hl
  refine lv_iload_n hx hb dX9_isLane_0 rfl (lv_at hl 2 rfl) ?_
  refine lv_aload_n hx hb dX9_isLane_1 rfl (lv_at hl 0 rfl) ?_
  refine x_geto hx hb hf9 hw (by first | exact Int.le_refl 0 | omega) (by first | exact zlt hc40 | omega) sl_40_3 lk13 dX9_isLane_2 ?_
  refine lv_aload_n hx hb dX9_isLane_5 rfl (lv_at hl 0 rfl) ?_
  refine x_geto hx hb hf9 hw (by first | exact Int.le_refl 0 | omega) (by first | exact zlt hc40 | omega) sl_40_14 lk45 dX9_isLane_6 ?_
  refine lv_iload_n hx hb dX9_isLane_9 rfl (lv_at hl 1 rfl) ?_
  refine x_iald hx hb hK.1 hw (by first | exact Int.le_refl 0 | omega) (by first | exact zlt hc55 | omega) ar_55 (len_E ar_55 (by first | exact Nat.ne_of_beq_eq_false rfl | decide)) (by omega) (by omega) (by omega) dX9_isLane_10 ?_
  have f1 : 0 ≤ X 55 0 x ∧ X 55 0 x ≤ 7 := hR 55 0 x
  refine x_iald hx hb hK.1 hw (by first | exact Int.le_refl 0 | omega) (by first | exact zlt hc44 | omega) ar_44 (len_E ar_44 (by first | exact Nat.ne_of_beq_eq_false rfl | decide)) (by omega) (by omega) (by omega) dX9_isLane_11 ?_
  have f2 : 0 ≤ X 44 0 (X 55 0 x) ∧ X 44 0 (X 55 0 x) ≤ 5 := hR 44 0 (X 55 0 x)
  refine x_icmp_ge (tgt := 40) hx hb (by omega) (by omega) dX9_isLane_12 (by decide) (fun c3 => ?_) (fun c3 => ?_)
  · refine lv_iconst (v := jI 0) hx hb dX9_isLane_40 rfl ?_
    rw [hQ9]
    refine ret_z (mc := 0) (ms := 0) hx hb hr hlocks hw hS (by first | exact Nat.le_of_ble_eq_true rfl | omega) (by first | exact Nat.le_of_ble_eq_true rfl | omega) dX9_isLane_41 (by omega) ?_
    exact ⟨rfl, Or.inr ⟨rfl, (by first | omega | (intro q; first | omega | (simp only [Hid] at *; omega)))⟩⟩
  · refine lv_aload_n hx hb dX9_isLane_15 rfl (lv_at hl 0 rfl) ?_
    refine lv_iload_n hx hb dX9_isLane_16 rfl (lv_at hl 1 rfl) ?_
    refine lv_iload_n hx hb dX9_isLane_17 rfl (lv_at hl 2 rfl) ?_
    refine gos_i (run_V (As := [.int (jI x), .int (jI k)]) (rest := []) hx hb hml hown hts (c_X9_lane l D tc base ad cnt X Y ln hR hFx x k (by omega) (by omega)) (cwV 2 hts gX9_isLane_X9_lane rfl rfl rfl (by first | exact hd_X9_lane | decide +kernel) ⟨Nat.le_of_ble_eq_true rfl, Nat.le_of_ble_eq_true rfl⟩) hK hw (by first | exact Int.le_refl 0 | omega) (by first | exact zlt hc40 | omega) sl_40_0 rfl rfl hl.1 rfl (Nat.le_of_ble_eq_true rfl) dX9_isLane_18 ⟨Nat.le_of_ble_eq_true rfl, Nat.le_of_ble_eq_true rfl⟩) hS (fun z4 u5 H locs p6 hw hS => ?_)
    obtain ⟨eu5, p6⟩ := p6
    subst eu5
    refine lv_iload_n hx hb dX9_isLane_21 rfl (lv_at hl 3 rfl) ?_
    refine x_icmp_lt (tgt := 40) hx hb (by omega) (by omega) dX9_isLane_22 (by decide) (fun c7 => ?_) (fun c7 => ?_)
    · refine lv_iconst (v := jI 0) hx hb dX9_isLane_40 rfl ?_
      rw [hQ9]
      refine ret_z (mc := 0) (ms := 0) hx hb hr hlocks hw hS (by first | exact Nat.le_of_ble_eq_true rfl | omega) (by first | exact Nat.le_of_ble_eq_true rfl | omega) dX9_isLane_41 (by omega) ?_
      exact ⟨rfl, Or.inr ⟨rfl, (by first | omega | (intro q; first | omega | (simp only [Hid] at *; omega)))⟩⟩
    · refine lv_aload_n hx hb dX9_isLane_25 rfl (lv_at hl 0 rfl) ?_
      refine lv_iload_n hx hb dX9_isLane_26 rfl (lv_at hl 1 rfl) ?_
      refine lv_iload_n hx hb dX9_isLane_27 rfl (lv_at hl 2 rfl) ?_
      refine gos_i (run_V (As := [.int (jI x), .int (jI k)]) (rest := []) hx hb hml hown hts (c_X9_lane l D tc base ad cnt X Y ln hR hFx x k (by omega) (by omega)) (cwV 2 hts gX9_isLane_X9_lane rfl rfl rfl (by first | exact hd_X9_lane | decide +kernel) ⟨Nat.le_of_ble_eq_true rfl, Nat.le_of_ble_eq_true rfl⟩) hK hw (by first | exact Int.le_refl 0 | omega) (by first | exact zlt hc40 | omega) sl_40_0 rfl rfl hl.1 rfl (Nat.le_of_ble_eq_true rfl) dX9_isLane_28 ⟨Nat.le_of_ble_eq_true rfl, Nat.le_of_ble_eq_true rfl⟩) hS (fun z8 u9 H locs p10 hw hS => ?_)
      obtain ⟨eu9, p10⟩ := p10
      subst eu9
      refine lv_iload hx hb dX9_isLane_31 (lv_at hl 4 rfl) ?_
      refine x_icmp_gt (tgt := 40) hx hb (by omega) (by omega) dX9_isLane_33 (by decide) (fun c11 => ?_) (fun c11 => ?_)
      · refine lv_iconst (v := jI 0) hx hb dX9_isLane_40 rfl ?_
        rw [hQ9]
        refine ret_z (mc := 0) (ms := 0) hx hb hr hlocks hw hS (by first | exact Nat.le_of_ble_eq_true rfl | omega) (by first | exact Nat.le_of_ble_eq_true rfl | omega) dX9_isLane_41 (by omega) ?_
        exact ⟨rfl, Or.inr ⟨rfl, (by first | omega | (intro q; first | omega | (simp only [Hid] at *; omega)))⟩⟩
      · refine lv_iconst (v := jI 1) hx hb dX9_isLane_36 rfl ?_
        refine lv_goto (tgt := 41) hx hb dX9_isLane_37 (by decide) ?_
        rw [hQ9]
        refine ret_z (mc := 0) (ms := 0) hx hb hr hlocks hw hS (by first | exact Nat.le_of_ble_eq_true rfl | omega) (by first | exact Nat.le_of_ble_eq_true rfl | omega) dX9_isLane_41 (by omega) ?_
        exact ⟨rfl, Or.inl ⟨rfl, by omega⟩⟩
end
section
set_option maxHeartbeats 4000000 in
set_option maxRecDepth 100000 in
theorem c_X9_shut (l : Launch) (D : va_G) (tc : Nat → ClassId) (base : Nat) (ad : Nat → Int → Nat) (cnt : Nat → Int) (X : Nat → Int → Int → Int) (Y : Nat → Int → Int → Option Int) (ln : Int → Int) (hR : Rng X) (hFx : Fx cnt) (hMI : MInv X) (t k on : Int) (ht : -2147483648 ≤ t ∧ t ≤ 2147483647) (hk : -2147483648 ≤ k ∧ k ≤ 2147483647) (hon : 0 ≤ on ∧ on ≤ 1) : KI l D tc base yX9_shut wsX9_shut ({ frames := 1, cells := 0, slots := 0, locals := 21 } : Room) [.ref (ad 40 0), .int (jI t), .int (jI k), .int (jI on)] (ad, cnt, X, Y, ln) 0 0 (fun z u => ∃ X1 : Nat → Int → Int → Int, u = (ad, cnt, X1, Y, ln) ∧ Rng X1 ∧ Frm [4001, 4800] X X1 ∧ MInv X1 ∧ (-2147483648 ≤ z ∧ z ≤ 2147483647) ∧ ((0 ≤ t ∧ t < X 40 0 2 ∧ 0 ≤ k ∧ k < X 44 0 t ∧ z = X 48 0 (5 * t + k) ∧ X1 48 0 (5 * t + k) = on) ∨ (¬ (0 ≤ t ∧ t < X 40 0 2 ∧ 0 ≤ k ∧ k < X 44 0 t) ∧ z = -1 ∧ X1 48 0 (5 * t + k) = X 48 0 (5 * t + k))) ∧ ∀ y, y ≠ 5 * t + k → X1 48 0 y = X 48 0 y) := by
  refine K_of (cc := cX9_shut) (maxL := 5) (ret := (some .int)) (by decide) rfl (Nat.le_of_ble_eq_true rfl) ?_
  intro p e s m below meth c ls hx hb hr hml hown hts hlocks hl hK hw hS
  have hown : s.vm.findClass RX9 = some m.cls := hown
  obtain ⟨av9, hav9⟩ : ∃ a9 : Array Value, a9 = ([.ref (ad 40 0), .int (jI t), .int (jI k), .int (jI on)] : List Value).toArray := ⟨_, rfl⟩
  rw [← hav9] at hts ⊢
  obtain ⟨Q9, hQ9⟩ : ∃ q9Q : State → Prop, q9Q = MQ below (QI D tc base (fun z u => ∃ X1 : Nat → Int → Int → Int, u = (ad, cnt, X1, Y, ln) ∧ Rng X1 ∧ Frm [4001, 4800] X X1 ∧ MInv X1 ∧ (-2147483648 ≤ z ∧ z ≤ 2147483647) ∧ ((0 ≤ t ∧ t < X 40 0 2 ∧ 0 ≤ k ∧ k < X 44 0 t ∧ z = X 48 0 (5 * t + k) ∧ X1 48 0 (5 * t + k) = on) ∨ (¬ (0 ≤ t ∧ t < X 40 0 2 ∧ 0 ≤ k ∧ k < X 44 0 t) ∧ z = -1 ∧ X1 48 0 (5 * t + k) = X 48 0 (5 * t + k))) ∧ ∀ y, y ≠ 5 * t + k → X1 48 0 y = X 48 0 y)) av9 s 0 0 (frA base) := ⟨_, rfl⟩
  rw [← hQ9]
  have hi9 : ∀ w ∈ wsX90, w ∈ wsX9_shut := fun w h => List.mem_cons_of_mem _ (List.mem_append_right _ h)
  have hf9 : fctx s m _ RX9 wsX9_shut D tc RX9 TX9 51 9 := ⟨hts, hi9, hown, hK.1, rfl⟩
  have lk13 := hts (.fieldLink RX9 13 (TX9 3).1 (TX9 3).2.1 (TX9 3).2.2.1) (gj_X9_shut_0 _ (gp_1 gp_h))
  have lk27 := hts (.fieldLink RX9 27 (TX9 7).1 (TX9 7).2.1 (TX9 7).2.2.1) (gj_X9_shut_0 _ (gp_1 (gp_1 gp_h)))
  have lk145 := hts (.fieldLink RX9 145 (TX9 0).1 (TX9 0).2.1 (TX9 0).2.2.1) (gj_X9_shut_0 _ (gp_h))
  have hc40 : cnt 40 = 1 := hFx.at 40 1 (by decide)
  have hc44 : cnt 44 = 1 := hFx.at 44 1 (by decide)
  have hc48 : cnt 48 = 1 := hFx.at 48 1 (by decide)
  have hl : lv_has ls 5 [(0, .ref (ad 40 0)), (1, .int (jI t)), (2, .int (jI k)), (3, .int (jI on))] := hl
  have fstypes : 0 ≤ X 40 0 2 ∧ X 40 0 2 ≤ 8 := hR 40 0 2
  have fsthings : 0 ≤ X 40 0 13 ∧ X 40 0 13 ≤ 30 := hR 40 0 13
  have fsmarks : 0 ≤ X 40 0 20 ∧ X 40 0 20 ≤ 4 := hR 40 0 20
  have fsnotes : 0 ≤ X 40 0 22 ∧ X 40 0 22 ≤ 80 := hR 40 0 22
  refine lv_aload_n hx hb dX9_shut_0 rfl (lv_at hl 0 rfl) ?_
  refine lv_iconst (v := jI 0) hx hb dX9_shut_1 rfl ?_
  refine x_puti (jz := 0) hx hb hf9 ⟨tyX9_ok, nmX9⟩ hw hS (by first | exact Int.le_refl 0 | omega) (by first | exact zlt hc40 | omega) sl_40_0 rfl lk145 rfl (tyX9_ok 0 (by decide)) rfl rfl dX9_shut_2 (fun H locs hw hS => ?_)
  obtain ⟨X1, hX1⟩ : ∃ Xq, Xq = u3 X 40 0 0 0 := ⟨_, rfl⟩
  rw [← hX1] at hw
  have hRX1 : Rng X1 := by rw [hX1]; exact rng_set hR (show (-2147483648) ≤ 0 ∧ 0 ≤ 2147483647 by omega)
  have hVX1 : X1 40 0 0 = 0 := by rw [hX1]; exact u3_s _ _ _ _ _
  have hFX1 : Frm [4001, 4800] X X1 := by rw [hX1]; exact Frm.set Frm.rf (show 4001 ∈ [4001, 4800] by first | exact nlm_in rfl | decide)
  refine lv_aload_n hx hb dX9_shut_5 rfl (lv_at hl 0 rfl) ?_
  refine lv_iload_n hx hb dX9_shut_6 rfl (lv_at hl 1 rfl) ?_
  refine gos_i (run_V (As := [.int (jI t)]) (rest := []) hx hb hml hown hts (c_X9_isType l D tc base ad cnt X1 Y ln hRX1 hFx t (by omega)) (cwV 1 hts gX9_shut_X9_isType rfl rfl rfl (by first | exact hd_X9_isType | decide +kernel) ⟨Nat.le_of_ble_eq_true rfl, Nat.le_of_ble_eq_true rfl⟩) hK hw (by first | exact Int.le_refl 0 | omega) (by first | exact zlt hc40 | omega) sl_40_0 rfl rfl hl.1 rfl (Nat.le_of_ble_eq_true rfl) dX9_shut_7 ⟨Nat.le_of_ble_eq_true rfl, Nat.le_of_ble_eq_true rfl⟩) hS (fun z2 u3 H locs p4 hw hS => ?_)
  obtain ⟨eu3, p4⟩ := p4
  subst eu3
  have e5 : X1 40 0 2 = X 40 0 2 := by rw [hX1, u3_j _ _ _ _ (by decide)]
  simp only [e5] at p4
  have q900003 : Frm [4001] X X1 := by rw [hX1]; exact Frm.set Frm.rf (show 4001 ∈ [4001] by first | exact nlm_in rfl | decide)
  rcases p4 with ⟨ez2, p4⟩ | ⟨ez2, p4⟩
  · subst ez2
    refine x_if_eqF (tgt := 27) hx hb (by omega) (by decide) dX9_shut_10 (by decide) ?_
    refine lv_iload_n hx hb dX9_shut_13 rfl (lv_at hl 2 rfl) ?_
    refine x_if_lt (tgt := 27) hx hb (by omega) dX9_shut_14 (by decide) (fun c6 => ?_) (fun c6 => ?_)
    · refine lv_iconst (v := jI (-1)) hx hb dX9_shut_27 rfl ?_
      rw [hQ9]
      refine ret_i (mc := 0) (ms := 0) hx hb hr hlocks hw hS (by first | exact Nat.le_of_ble_eq_true rfl | omega) (by first | exact Nat.le_of_ble_eq_true rfl | omega) dX9_shut_28 ?_
      have q8 : Frm [4001] X X1 := by rw [hX1]; exact Frm.set Frm.rf (show 4001 ∈ [4001] by first | exact nlm_in rfl | decide)
      have hMq7 : MInv X1 := minv_frm hMI q8 (by decide)
      have e9 : X1 48 0 ((5 * t) + k) = X 48 0 ((5 * t) + k) := (by rw [hX1, u3_k _ _ _ _ (by first | exact Nat.ne_of_beq_eq_false rfl | decide)])
      exact ⟨X1, rfl, hRX1, hFX1, hMq7, by omega, (by (try delta Hid at *); first | exact Or.inr ((⟨(fun q => by omega), by omega, by omega⟩)) | exact Or.inl ⟨by omega, by omega, by omega, by omega, by omega, by omega⟩ | omega), fun y hy => (by rw [hX1, u3_k _ _ _ _ (by first | exact Nat.ne_of_beq_eq_false rfl | decide)])⟩
    · refine lv_iload_n hx hb dX9_shut_17 rfl (lv_at hl 2 rfl) ?_
      refine lv_aload_n hx hb dX9_shut_18 rfl (lv_at hl 0 rfl) ?_
      refine x_geto hx hb hf9 hw (by first | exact Int.le_refl 0 | omega) (by first | exact zlt hc40 | omega) sl_40_3 lk13 dX9_shut_19 ?_
      refine lv_iload_n hx hb dX9_shut_22 rfl (lv_at hl 1 rfl) ?_
      refine x_iald hx hb hK.1 hw (by first | exact Int.le_refl 0 | omega) (by first | exact zlt hc44 | omega) ar_44 (len_E ar_44 (by first | exact Nat.ne_of_beq_eq_false rfl | decide)) (by omega) (by omega) (by omega) dX9_shut_23 ?_
      have e10 : ∀ p9 q9 : Int, X1 44 p9 q9 = X 44 p9 q9 := fun p9 q9 => by rw [hX1, u3_k _ _ _ _ (by first | exact Nat.ne_of_beq_eq_false rfl | decide)]
      rw [e10 0 t]
      have f11 : 0 ≤ X 44 0 t ∧ X 44 0 t ≤ 5 := hR 44 0 t
      refine x_icmp_lt (tgt := 29) hx hb (by omega) (by omega) dX9_shut_24 (by decide) (fun c12 => ?_) (fun c12 => ?_)
      · refine lv_aload_n hx hb dX9_shut_29 rfl (lv_at hl 0 rfl) ?_
        refine x_geto hx hb hf9 hw (by first | exact Int.le_refl 0 | omega) (by first | exact zlt hc40 | omega) sl_40_7 lk27 dX9_shut_30 ?_
        refine lv_iconst (v := jI 5) hx hb dX9_shut_33 rfl ?_
        refine lv_iload_n hx hb dX9_shut_34 rfl (lv_at hl 1 rfl) ?_
        refine x_imul hx hb dX9_shut_35 ?_
        refine lv_iload_n hx hb dX9_shut_36 rfl (lv_at hl 2 rfl) ?_
        refine x_iadd hx hb dX9_shut_37 ?_
        refine x_zald hx hb hK.1 hw (by first | exact Int.le_refl 0 | omega) (by first | exact zlt hc48 | omega) ar_48 (len_E ar_48 (by first | exact Nat.ne_of_beq_eq_false rfl | decide)) (by omega) (by omega) (by omega) dX9_shut_38 ?_
        have e13 : ∀ p9 q9 : Int, X1 48 p9 q9 = X 48 p9 q9 := fun p9 q9 => by rw [hX1, u3_k _ _ _ _ (by first | exact Nat.ne_of_beq_eq_false rfl | decide)]
        rw [e13 0 ((5 * t) + k)]
        have f14 : 0 ≤ X 48 0 ((5 * t) + k) ∧ X 48 0 ((5 * t) + k) ≤ 1 := hR 48 0 ((5 * t) + k)
        refine lv_istore (lv' := [(4, .int (jI (X 48 0 ((5 * t) + k)))), (0, .ref (ad 40 0)), (1, .int (jI t)), (2, .int (jI k)), (3, .int (jI on))]) hx hb dX9_shut_39 hl (by decide) rfl (fun ls hl => ?_)
        refine lv_aload_n hx hb dX9_shut_41 rfl (lv_at hl 1 rfl) ?_
        refine x_geto hx hb hf9 hw (by first | exact Int.le_refl 0 | omega) (by first | exact zlt hc40 | omega) sl_40_7 lk27 dX9_shut_42 ?_
        refine lv_iconst (v := jI 5) hx hb dX9_shut_45 rfl ?_
        refine lv_iload_n hx hb dX9_shut_46 rfl (lv_at hl 2 rfl) ?_
        refine x_imul hx hb dX9_shut_47 ?_
        refine lv_iload_n hx hb dX9_shut_48 rfl (lv_at hl 3 rfl) ?_
        refine x_iadd hx hb dX9_shut_49 ?_
        refine lv_iload_n hx hb dX9_shut_50 rfl (lv_at hl 4 rfl) ?_
        refine x_zast hx hb hK.1 hw hS (by first | exact Int.le_refl 0 | omega) (by first | exact zlt hc48 | omega) ar_48 (len_E ar_48 (by first | exact Nat.ne_of_beq_eq_false rfl | decide)) (by omega) (by omega) (by omega) (by omega) (by omega) dX9_shut_51 (fun H locs hw hS => ?_)
        obtain ⟨X15, hX15⟩ : ∃ Xq, Xq = u3 X1 48 0 ((5 * t) + k) on := ⟨_, rfl⟩
        rw [← hX15] at hw
        have hRX15 : Rng X15 := by rw [hX15]; exact rng_set hRX1 (show 0 ≤ on ∧ on ≤ 1 by omega)
        have hVX15 : X15 48 0 ((5 * t) + k) = on := by rw [hX15]; exact u3_s _ _ _ _ _
        have hFX15 : Frm [4001, 4800] X X15 := by rw [hX15]; exact Frm.set hFX1 (show 4800 ∈ [4001, 4800] by first | exact nlm_in rfl | decide)
        refine lv_iload hx hb dX9_shut_52 (lv_at hl 0 rfl) ?_
        have q900001 : Frm [4001, 4800] X X1 := by rw [hX1]; exact Frm.set Frm.rf (show 4001 ∈ [4001, 4800] by first | exact nlm_in rfl | decide)
        refine x_if_eq (tgt := 61) hx hb (by omega) dX9_shut_54 (by decide) (fun c16 => ?_) (fun c16 => ?_)
        · refine lv_iconst (v := jI 0) hx hb dX9_shut_61 rfl ?_
          rw [hQ9]
          refine ret_i (mc := 0) (ms := 0) hx hb hr hlocks hw hS (by first | exact Nat.le_of_ble_eq_true rfl | omega) (by first | exact Nat.le_of_ble_eq_true rfl | omega) dX9_shut_62 ?_
          have q18 : Frm [4001, 4800] X X1 := by rw [hX1]; exact Frm.set Frm.rf (show 4001 ∈ [4001, 4800] by first | exact nlm_in rfl | decide)
          have q19 : Frm [4001, 4800] X X15 := by rw [hX15]; exact Frm.set q18 (show 4800 ∈ [4001, 4800] by first | exact nlm_in rfl | decide)
          have hMq17 : MInv X15 := minv_frm hMI q19 (by decide)
          have e20 : X15 48 0 ((5 * t) + k) = on := (by exact hVX15)
          exact ⟨X15, rfl, hRX15, hFX15, hMq17, by omega, (by (try delta Hid at *); first | exact Or.inl ⟨by omega, by omega, by omega, by omega, by omega, by omega⟩ | omega), fun y hy => (by rw [hX15, u3_j _ _ _ _ hy, hX1, u3_k _ _ _ _ (by first | exact Nat.ne_of_beq_eq_false rfl | decide)])⟩
        · refine lv_iconst (v := jI 1) hx hb dX9_shut_57 rfl ?_
          refine lv_goto (tgt := 62) hx hb dX9_shut_58 (by decide) ?_
          rw [hQ9]
          refine ret_i (mc := 0) (ms := 0) hx hb hr hlocks hw hS (by first | exact Nat.le_of_ble_eq_true rfl | omega) (by first | exact Nat.le_of_ble_eq_true rfl | omega) dX9_shut_62 ?_
          have q23 : Frm [4001, 4800] X X15 := by rw [hX15]; exact Frm.set q900001 (show 4800 ∈ [4001, 4800] by first | exact nlm_in rfl | decide)
          have hMq21 : MInv X15 := minv_frm hMI q23 (by decide)
          have e24 : X15 48 0 ((5 * t) + k) = on := (by exact hVX15)
          exact ⟨X15, rfl, hRX15, hFX15, hMq21, by omega, (by (try delta Hid at *); first | exact Or.inl ⟨by omega, by omega, by omega, by omega, by omega, by omega⟩ | omega), fun y hy => (by rw [hX15, u3_j _ _ _ _ hy, hX1, u3_k _ _ _ _ (by first | exact Nat.ne_of_beq_eq_false rfl | decide)])⟩
      · refine lv_iconst (v := jI (-1)) hx hb dX9_shut_27 rfl ?_
        rw [hQ9]
        refine ret_i (mc := 0) (ms := 0) hx hb hr hlocks hw hS (by first | exact Nat.le_of_ble_eq_true rfl | omega) (by first | exact Nat.le_of_ble_eq_true rfl | omega) dX9_shut_28 ?_
        have hMq25 : MInv X1 := minv_frm hMI q900003 (by decide)
        have e27 : X1 48 0 ((5 * t) + k) = X 48 0 ((5 * t) + k) := (by rw [hX1, u3_k _ _ _ _ (by first | exact Nat.ne_of_beq_eq_false rfl | decide)])
        exact ⟨X1, rfl, hRX1, hFX1, hMq25, by omega, (by (try delta Hid at *); first | exact Or.inr ((⟨(fun q => by omega), by omega, by omega⟩)) | exact Or.inl ⟨by omega, by omega, by omega, by omega, by omega, by omega⟩ | omega), fun y hy => (by rw [hX1, u3_k _ _ _ _ (by first | exact Nat.ne_of_beq_eq_false rfl | decide)])⟩
  · subst ez2
    refine x_if_eqT (tgt := 27) hx hb (by omega) (by decide) dX9_shut_10 (by decide) ?_
    refine lv_iconst (v := jI (-1)) hx hb dX9_shut_27 rfl ?_
    rw [hQ9]
    refine ret_i (mc := 0) (ms := 0) hx hb hr hlocks hw hS (by first | exact Nat.le_of_ble_eq_true rfl | omega) (by first | exact Nat.le_of_ble_eq_true rfl | omega) dX9_shut_28 ?_
    have hMq28 : MInv X1 := minv_frm hMI q900003 (by decide)
    have e30 : X1 48 0 ((5 * t) + k) = X 48 0 ((5 * t) + k) := (by rw [hX1, u3_k _ _ _ _ (by first | exact Nat.ne_of_beq_eq_false rfl | decide)])
    exact ⟨X1, rfl, hRX1, hFX1, hMq28, by omega, (by (try delta Hid at *); first | exact Or.inr ((⟨(fun q => by omega), by omega, by omega⟩)) | exact Or.inl ⟨by omega, by omega, by omega, by omega, by omega, by omega⟩ | omega), fun y hy => (by rw [hX1, u3_k _ _ _ _ (by first | exact Nat.ne_of_beq_eq_false rfl | decide)])⟩

set_option maxHeartbeats 4000000 in
set_option maxRecDepth 100000 in
theorem c_X9_check (l : Launch) (D : va_G) (tc : Nat → ClassId) (base : Nat) (ad : Nat → Int → Nat) (cnt : Nat → Int) (X : Nat → Int → Int → Int) (Y : Nat → Int → Int → Option Int) (ln : Int → Int) (hR : Rng X) (hFx : Fx cnt) (hMI : MInv X) (t kind a b v : Int) (ht : -2147483648 ≤ t ∧ t ≤ 2147483647) (hkind : -2147483648 ≤ kind ∧ kind ≤ 2147483647) (ha : -2147483648 ≤ a ∧ a ≤ 2147483647) (hb : -2147483648 ≤ b ∧ b ≤ 2147483647) (hv : -9223372036854775808 ≤ v ∧ v ≤ 9223372036854775807) : KI l D tc base yX9_check wsX9_check ({ frames := 1, cells := 0, slots := 0, locals := 21 } : Room) [.ref (ad 40 0), .int (jI t), .int (jI kind), .int (jI a), .int (jI b), .long (jL v)] (ad, cnt, X, Y, ln) 0 0 (fun z u => ∃ X1 : Nat → Int → Int → Int, u = (ad, cnt, X1, Y, ln) ∧ Rng X1 ∧ Frm [4001, 5000, 5100, 5200, 5300, 4900] X X1 ∧ MInv X1 ∧ (-2147483648 ≤ z ∧ z ≤ 2147483647) ∧ ((¬ (0 ≤ t ∧ t < X 40 0 2) ∧ z = -1 ∧ X1 49 0 t = X 49 0 t) ∨ (0 ≤ t ∧ t < X 40 0 2 ∧ ¬ (0 ≤ kind ∧ kind < 6 ∧ 0 ≤ a ∧ a < 5 ∧ 0 ≤ b ∧ b < 5) ∧ z = -2 ∧ X1 49 0 t = X 49 0 t) ∨ (0 ≤ t ∧ t < X 40 0 2 ∧ (0 ≤ kind ∧ kind < 6 ∧ 0 ≤ a ∧ a < 5 ∧ 0 ≤ b ∧ b < 5) ∧ 4 ≤ X 49 0 t ∧ z = -4 ∧ X1 49 0 t = X 49 0 t) ∨ (0 ≤ t ∧ t < X 40 0 2 ∧ (0 ≤ kind ∧ kind < 6 ∧ 0 ≤ a ∧ a < 5 ∧ 0 ≤ b ∧ b < 5) ∧ X 49 0 t ≤ 3 ∧ z = X 49 0 t + 1 ∧ X1 49 0 t = X 49 0 t + 1)) ∧ (∀ y, y ≠ t → X1 49 0 y = X 49 0 y) ∧ (0 ≤ z → X1 50 0 (4 * t + X 49 0 t) = kind ∧ X1 51 0 (4 * t + X 49 0 t) = a ∧ X1 52 0 (4 * t + X 49 0 t) = b ∧ X1 53 0 (4 * t + X 49 0 t) = v) ∧ ∀ y, ¬ (0 ≤ z ∧ y = (4 * t + X 49 0 t)) → X1 50 0 y = X 50 0 y ∧ X1 51 0 y = X 51 0 y ∧ X1 52 0 y = X 52 0 y ∧ X1 53 0 y = X 53 0 y) := by
  refine K_of (cc := cX9_check) (maxL := 8) (ret := (some .int)) (by decide) rfl (Nat.le_of_ble_eq_true rfl) ?_
  intro p e s m below meth c ls hx hb hr hml hown hts hlocks hl hK hw hS
  have hown : s.vm.findClass RX9 = some m.cls := hown
  obtain ⟨av9, hav9⟩ : ∃ a9 : Array Value, a9 = ([.ref (ad 40 0), .int (jI t), .int (jI kind), .int (jI a), .int (jI b), .long (jL v)] : List Value).toArray := ⟨_, rfl⟩
  rw [← hav9] at hts ⊢
  obtain ⟨Q9, hQ9⟩ : ∃ q9Q : State → Prop, q9Q = MQ below (QI D tc base (fun z u => ∃ X1 : Nat → Int → Int → Int, u = (ad, cnt, X1, Y, ln) ∧ Rng X1 ∧ Frm [4001, 5000, 5100, 5200, 5300, 4900] X X1 ∧ MInv X1 ∧ (-2147483648 ≤ z ∧ z ≤ 2147483647) ∧ ((¬ (0 ≤ t ∧ t < X 40 0 2) ∧ z = -1 ∧ X1 49 0 t = X 49 0 t) ∨ (0 ≤ t ∧ t < X 40 0 2 ∧ ¬ (0 ≤ kind ∧ kind < 6 ∧ 0 ≤ a ∧ a < 5 ∧ 0 ≤ b ∧ b < 5) ∧ z = -2 ∧ X1 49 0 t = X 49 0 t) ∨ (0 ≤ t ∧ t < X 40 0 2 ∧ (0 ≤ kind ∧ kind < 6 ∧ 0 ≤ a ∧ a < 5 ∧ 0 ≤ b ∧ b < 5) ∧ 4 ≤ X 49 0 t ∧ z = -4 ∧ X1 49 0 t = X 49 0 t) ∨ (0 ≤ t ∧ t < X 40 0 2 ∧ (0 ≤ kind ∧ kind < 6 ∧ 0 ≤ a ∧ a < 5 ∧ 0 ≤ b ∧ b < 5) ∧ X 49 0 t ≤ 3 ∧ z = X 49 0 t + 1 ∧ X1 49 0 t = X 49 0 t + 1)) ∧ (∀ y, y ≠ t → X1 49 0 y = X 49 0 y) ∧ (0 ≤ z → X1 50 0 (4 * t + X 49 0 t) = kind ∧ X1 51 0 (4 * t + X 49 0 t) = a ∧ X1 52 0 (4 * t + X 49 0 t) = b ∧ X1 53 0 (4 * t + X 49 0 t) = v) ∧ ∀ y, ¬ (0 ≤ z ∧ y = (4 * t + X 49 0 t)) → X1 50 0 y = X 50 0 y ∧ X1 51 0 y = X 51 0 y ∧ X1 52 0 y = X 52 0 y ∧ X1 53 0 y = X 53 0 y)) av9 s 0 0 (frA base) := ⟨_, rfl⟩
  rw [← hQ9]
  have hi9 : ∀ w ∈ wsX90, w ∈ wsX9_check := fun w h => List.mem_cons_of_mem _ (List.mem_append_right _ h)
  have hf9 : fctx s m _ RX9 wsX9_check D tc RX9 TX9 51 9 := ⟨hts, hi9, hown, hK.1, rfl⟩
  have lk30 := hts (.fieldLink RX9 30 (TX9 8).1 (TX9 8).2.1 (TX9 8).2.2.1) (gj_X9_check_0 _ (gp_1 gp_h))
  have lk33 := hts (.fieldLink RX9 33 (TX9 9).1 (TX9 9).2.1 (TX9 9).2.2.1) (gj_X9_check_0 _ (gp_1 (gp_1 gp_h)))
  have lk36 := hts (.fieldLink RX9 36 (TX9 10).1 (TX9 10).2.1 (TX9 10).2.2.1) (gj_X9_check_0 _ (gp_1 (gp_1 (gp_1 gp_h))))
  have lk39 := hts (.fieldLink RX9 39 (TX9 11).1 (TX9 11).2.1 (TX9 11).2.2.1) (gj_X9_check_0 _ (gp_4 gp_h))
  have lk42 := hts (.fieldLink RX9 42 (TX9 12).1 (TX9 12).2.1 (TX9 12).2.2.1) (gj_X9_check_0 _ (gp_4 (gp_1 gp_h)))
  have lk145 := hts (.fieldLink RX9 145 (TX9 0).1 (TX9 0).2.1 (TX9 0).2.2.1) (gj_X9_check_0 _ (gp_h))
  have hc40 : cnt 40 = 1 := hFx.at 40 1 (by decide)
  have hc49 : cnt 49 = 1 := hFx.at 49 1 (by decide)
  have hc50 : cnt 50 = 1 := hFx.at 50 1 (by decide)
  have hc51 : cnt 51 = 1 := hFx.at 51 1 (by decide)
  have hc52 : cnt 52 = 1 := hFx.at 52 1 (by decide)
  have hc53 : cnt 53 = 1 := hFx.at 53 1 (by decide)
  have hl : lv_has ls 8 [(0, .ref (ad 40 0)), (1, .int (jI t)), (2, .int (jI kind)), (3, .int (jI a)), (4, .int (jI b)), (5, .long (jL v))] := hl
  have fstypes : 0 ≤ X 40 0 2 ∧ X 40 0 2 ≤ 8 := hR 40 0 2
  have fsthings : 0 ≤ X 40 0 13 ∧ X 40 0 13 ≤ 30 := hR 40 0 13
  have fsmarks : 0 ≤ X 40 0 20 ∧ X 40 0 20 ≤ 4 := hR 40 0 20
  have fsnotes : 0 ≤ X 40 0 22 ∧ X 40 0 22 ≤ 80 := hR 40 0 22
  refine lv_aload_n hx hb dX9_check_0 rfl (lv_at hl 0 rfl) ?_
  refine lv_iconst (v := jI 0) hx hb dX9_check_1 rfl ?_
  refine x_puti (jz := 0) hx hb hf9 ⟨tyX9_ok, nmX9⟩ hw hS (by first | exact Int.le_refl 0 | omega) (by first | exact zlt hc40 | omega) sl_40_0 rfl lk145 rfl (tyX9_ok 0 (by decide)) rfl rfl dX9_check_2 (fun H locs hw hS => ?_)
  obtain ⟨X1, hX1⟩ : ∃ Xq, Xq = u3 X 40 0 0 0 := ⟨_, rfl⟩
  rw [← hX1] at hw
  have hRX1 : Rng X1 := by rw [hX1]; exact rng_set hR (show (-2147483648) ≤ 0 ∧ 0 ≤ 2147483647 by omega)
  have hVX1 : X1 40 0 0 = 0 := by rw [hX1]; exact u3_s _ _ _ _ _
  have hFX1 : Frm [4001, 5000, 5100, 5200, 5300, 4900] X X1 := by rw [hX1]; exact Frm.set Frm.rf (show 4001 ∈ [4001, 5000, 5100, 5200, 5300, 4900] by first | exact nlm_in rfl | decide)
  refine lv_aload_n hx hb dX9_check_5 rfl (lv_at hl 0 rfl) ?_
  refine lv_iload_n hx hb dX9_check_6 rfl (lv_at hl 1 rfl) ?_
  refine gos_i (run_V (As := [.int (jI t)]) (rest := []) hx hb hml hown hts (c_X9_isType l D tc base ad cnt X1 Y ln hRX1 hFx t (by omega)) (cwV 1 hts gX9_check_X9_isType rfl rfl rfl (by first | exact hd_X9_isType | decide +kernel) ⟨Nat.le_of_ble_eq_true rfl, Nat.le_of_ble_eq_true rfl⟩) hK hw (by first | exact Int.le_refl 0 | omega) (by first | exact zlt hc40 | omega) sl_40_0 rfl rfl hl.1 rfl (Nat.le_of_ble_eq_true rfl) dX9_check_7 ⟨Nat.le_of_ble_eq_true rfl, Nat.le_of_ble_eq_true rfl⟩) hS (fun z2 u3 H locs p4 hw hS => ?_)
  obtain ⟨eu3, p4⟩ := p4
  subst eu3
  have e5 : X1 40 0 2 = X 40 0 2 := by rw [hX1, u3_j _ _ _ _ (by decide)]
  simp only [e5] at p4
  have q900006 : Frm [4001] X X1 := by rw [hX1]; exact Frm.set Frm.rf (show 4001 ∈ [4001] by first | exact nlm_in rfl | decide)
  rcases p4 with ⟨ez2, p4⟩ | ⟨ez2, p4⟩
  · subst ez2
    refine x_if_neT (tgt := 15) hx hb (by omega) (by decide) dX9_check_10 (by decide) ?_
    refine lv_iload_n hx hb dX9_check_15 rfl (lv_at hl 2 rfl) ?_
    refine x_if_lt (tgt := 44) hx hb (by omega) dX9_check_16 (by decide) (fun c6 => ?_) (fun c6 => ?_)
    · refine lv_bipush (v := jI (-2)) hx hb dX9_check_44 (by decide) ?_
      rw [hQ9]
      refine ret_i (mc := 0) (ms := 0) hx hb hr hlocks hw hS (by first | exact Nat.le_of_ble_eq_true rfl | omega) (by first | exact Nat.le_of_ble_eq_true rfl | omega) dX9_check_46 ?_
      have q8 : Frm [4001] X X1 := by rw [hX1]; exact Frm.set Frm.rf (show 4001 ∈ [4001] by first | exact nlm_in rfl | decide)
      have hMq7 : MInv X1 := minv_frm hMI q8 (by decide)
      have e9 : X1 49 0 t = X 49 0 t := (by rw [hX1, u3_k _ _ _ _ (by first | exact Nat.ne_of_beq_eq_false rfl | decide)])
      exact ⟨X1, rfl, hRX1, hFX1, hMq7, by omega, (by (try delta Hid at *); first | exact Or.inr (Or.inl ⟨by omega, by omega, (fun q => by omega), by omega, by omega⟩) | exact Or.inr (Or.inr (Or.inr ((⟨by omega, by omega, by omega, by omega, by omega, by omega⟩)))) | omega), fun y hy => (by rw [hX1, u3_k _ _ _ _ (by first | exact Nat.ne_of_beq_eq_false rfl | decide)]), fun q => (by exfalso; omega), fun y _ => ⟨(by rw [hX1, u3_k _ _ _ _ (by first | exact Nat.ne_of_beq_eq_false rfl | decide)]), (by rw [hX1, u3_k _ _ _ _ (by first | exact Nat.ne_of_beq_eq_false rfl | decide)]), (by rw [hX1, u3_k _ _ _ _ (by first | exact Nat.ne_of_beq_eq_false rfl | decide)]), (by rw [hX1, u3_k _ _ _ _ (by first | exact Nat.ne_of_beq_eq_false rfl | decide)])⟩⟩
    · refine lv_iload_n hx hb dX9_check_19 rfl (lv_at hl 2 rfl) ?_
      refine lv_iconst (v := jI 5) hx hb dX9_check_20 rfl ?_
      refine x_icmp_gt (tgt := 44) hx hb (by omega) (by omega) dX9_check_21 (by decide) (fun c10 => ?_) (fun c10 => ?_)
      · refine lv_bipush (v := jI (-2)) hx hb dX9_check_44 (by decide) ?_
        rw [hQ9]
        refine ret_i (mc := 0) (ms := 0) hx hb hr hlocks hw hS (by first | exact Nat.le_of_ble_eq_true rfl | omega) (by first | exact Nat.le_of_ble_eq_true rfl | omega) dX9_check_46 ?_
        have q12 : Frm [4001] X X1 := by rw [hX1]; exact Frm.set Frm.rf (show 4001 ∈ [4001] by first | exact nlm_in rfl | decide)
        have hMq11 : MInv X1 := minv_frm hMI q12 (by decide)
        have e13 : X1 49 0 t = X 49 0 t := (by rw [hX1, u3_k _ _ _ _ (by first | exact Nat.ne_of_beq_eq_false rfl | decide)])
        exact ⟨X1, rfl, hRX1, hFX1, hMq11, by omega, (by (try delta Hid at *); first | exact Or.inr (Or.inl ⟨by omega, by omega, (fun q => by omega), by omega, by omega⟩) | exact Or.inr (Or.inr (Or.inr ((⟨by omega, by omega, by omega, by omega, by omega, by omega⟩)))) | omega), fun y hy => (by rw [hX1, u3_k _ _ _ _ (by first | exact Nat.ne_of_beq_eq_false rfl | decide)]), fun q => (by exfalso; omega), fun y _ => ⟨(by rw [hX1, u3_k _ _ _ _ (by first | exact Nat.ne_of_beq_eq_false rfl | decide)]), (by rw [hX1, u3_k _ _ _ _ (by first | exact Nat.ne_of_beq_eq_false rfl | decide)]), (by rw [hX1, u3_k _ _ _ _ (by first | exact Nat.ne_of_beq_eq_false rfl | decide)]), (by rw [hX1, u3_k _ _ _ _ (by first | exact Nat.ne_of_beq_eq_false rfl | decide)])⟩⟩
      · refine lv_iload_n hx hb dX9_check_24 rfl (lv_at hl 3 rfl) ?_
        refine x_if_lt (tgt := 44) hx hb (by omega) dX9_check_25 (by decide) (fun c14 => ?_) (fun c14 => ?_)
        · refine lv_bipush (v := jI (-2)) hx hb dX9_check_44 (by decide) ?_
          rw [hQ9]
          refine ret_i (mc := 0) (ms := 0) hx hb hr hlocks hw hS (by first | exact Nat.le_of_ble_eq_true rfl | omega) (by first | exact Nat.le_of_ble_eq_true rfl | omega) dX9_check_46 ?_
          have q16 : Frm [4001] X X1 := by rw [hX1]; exact Frm.set Frm.rf (show 4001 ∈ [4001] by first | exact nlm_in rfl | decide)
          have hMq15 : MInv X1 := minv_frm hMI q16 (by decide)
          have e17 : X1 49 0 t = X 49 0 t := (by rw [hX1, u3_k _ _ _ _ (by first | exact Nat.ne_of_beq_eq_false rfl | decide)])
          exact ⟨X1, rfl, hRX1, hFX1, hMq15, by omega, (by (try delta Hid at *); first | exact Or.inr (Or.inl ⟨by omega, by omega, (fun q => by omega), by omega, by omega⟩) | exact Or.inr (Or.inr (Or.inr ((⟨by omega, by omega, by omega, by omega, by omega, by omega⟩)))) | omega), fun y hy => (by rw [hX1, u3_k _ _ _ _ (by first | exact Nat.ne_of_beq_eq_false rfl | decide)]), fun q => (by exfalso; omega), fun y _ => ⟨(by rw [hX1, u3_k _ _ _ _ (by first | exact Nat.ne_of_beq_eq_false rfl | decide)]), (by rw [hX1, u3_k _ _ _ _ (by first | exact Nat.ne_of_beq_eq_false rfl | decide)]), (by rw [hX1, u3_k _ _ _ _ (by first | exact Nat.ne_of_beq_eq_false rfl | decide)]), (by rw [hX1, u3_k _ _ _ _ (by first | exact Nat.ne_of_beq_eq_false rfl | decide)])⟩⟩
        · refine lv_iload_n hx hb dX9_check_28 rfl (lv_at hl 3 rfl) ?_
          refine lv_iconst (v := jI 4) hx hb dX9_check_29 rfl ?_
          refine x_icmp_gt (tgt := 44) hx hb (by omega) (by omega) dX9_check_30 (by decide) (fun c18 => ?_) (fun c18 => ?_)
          · refine lv_bipush (v := jI (-2)) hx hb dX9_check_44 (by decide) ?_
            rw [hQ9]
            refine ret_i (mc := 0) (ms := 0) hx hb hr hlocks hw hS (by first | exact Nat.le_of_ble_eq_true rfl | omega) (by first | exact Nat.le_of_ble_eq_true rfl | omega) dX9_check_46 ?_
            have hMq19 : MInv X1 := minv_frm hMI q900006 (by decide)
            have e21 : X1 49 0 t = X 49 0 t := (by rw [hX1, u3_k _ _ _ _ (by first | exact Nat.ne_of_beq_eq_false rfl | decide)])
            exact ⟨X1, rfl, hRX1, hFX1, hMq19, by omega, (by (try delta Hid at *); first | exact Or.inr (Or.inl ⟨by omega, by omega, (fun q => by omega), by omega, by omega⟩) | exact Or.inr (Or.inr (Or.inr ((⟨by omega, by omega, by omega, by omega, by omega, by omega⟩)))) | omega), fun y hy => (by rw [hX1, u3_k _ _ _ _ (by first | exact Nat.ne_of_beq_eq_false rfl | decide)]), fun q => (by exfalso; omega), fun y _ => ⟨(by rw [hX1, u3_k _ _ _ _ (by first | exact Nat.ne_of_beq_eq_false rfl | decide)]), (by rw [hX1, u3_k _ _ _ _ (by first | exact Nat.ne_of_beq_eq_false rfl | decide)]), (by rw [hX1, u3_k _ _ _ _ (by first | exact Nat.ne_of_beq_eq_false rfl | decide)]), (by rw [hX1, u3_k _ _ _ _ (by first | exact Nat.ne_of_beq_eq_false rfl | decide)])⟩⟩
          · refine lv_iload hx hb dX9_check_33 (lv_at hl 4 rfl) ?_
            refine x_if_lt (tgt := 44) hx hb (by omega) dX9_check_35 (by decide) (fun c22 => ?_) (fun c22 => ?_)
            · refine lv_bipush (v := jI (-2)) hx hb dX9_check_44 (by decide) ?_
              rw [hQ9]
              refine ret_i (mc := 0) (ms := 0) hx hb hr hlocks hw hS (by first | exact Nat.le_of_ble_eq_true rfl | omega) (by first | exact Nat.le_of_ble_eq_true rfl | omega) dX9_check_46 ?_
              have hMq23 : MInv X1 := minv_frm hMI q900006 (by decide)
              have e25 : X1 49 0 t = X 49 0 t := (by rw [hX1, u3_k _ _ _ _ (by first | exact Nat.ne_of_beq_eq_false rfl | decide)])
              exact ⟨X1, rfl, hRX1, hFX1, hMq23, by omega, (by (try delta Hid at *); first | exact Or.inr (Or.inl ⟨by omega, by omega, (fun q => by omega), by omega, by omega⟩) | exact Or.inr (Or.inr (Or.inr ((⟨by omega, by omega, by omega, by omega, by omega, by omega⟩)))) | omega), fun y hy => (by rw [hX1, u3_k _ _ _ _ (by first | exact Nat.ne_of_beq_eq_false rfl | decide)]), fun q => (by exfalso; omega), fun y _ => ⟨(by rw [hX1, u3_k _ _ _ _ (by first | exact Nat.ne_of_beq_eq_false rfl | decide)]), (by rw [hX1, u3_k _ _ _ _ (by first | exact Nat.ne_of_beq_eq_false rfl | decide)]), (by rw [hX1, u3_k _ _ _ _ (by first | exact Nat.ne_of_beq_eq_false rfl | decide)]), (by rw [hX1, u3_k _ _ _ _ (by first | exact Nat.ne_of_beq_eq_false rfl | decide)])⟩⟩
            · refine lv_iload hx hb dX9_check_38 (lv_at hl 4 rfl) ?_
              refine lv_iconst (v := jI 4) hx hb dX9_check_40 rfl ?_
              refine x_icmp_le (tgt := 47) hx hb (by omega) (by omega) dX9_check_41 (by decide) (fun c26 => ?_) (fun c26 => ?_)
              · refine lv_aload_n hx hb dX9_check_47 rfl (lv_at hl 0 rfl) ?_
                refine x_geto hx hb hf9 hw (by first | exact Int.le_refl 0 | omega) (by first | exact zlt hc40 | omega) sl_40_8 lk30 dX9_check_48 ?_
                refine lv_iload_n hx hb dX9_check_51 rfl (lv_at hl 1 rfl) ?_
                refine x_iald hx hb hK.1 hw (by first | exact Int.le_refl 0 | omega) (by first | exact zlt hc49 | omega) ar_49 (len_E ar_49 (by first | exact Nat.ne_of_beq_eq_false rfl | decide)) (by omega) (by omega) (by omega) dX9_check_52 ?_
                have e27 : ∀ p9 q9 : Int, X1 49 p9 q9 = X 49 p9 q9 := fun p9 q9 => by rw [hX1, u3_k _ _ _ _ (by first | exact Nat.ne_of_beq_eq_false rfl | decide)]
                rw [e27 0 t]
                have f28 : 0 ≤ X 49 0 t ∧ X 49 0 t ≤ 4 := hR 49 0 t
                refine lv_iconst (v := jI 4) hx hb dX9_check_53 rfl ?_
                refine x_icmp_ne (tgt := 60) hx hb (by omega) (by omega) dX9_check_54 (by decide) (fun c29 => ?_) (fun c29 => ?_)
                · refine lv_iconst (v := jI 4) hx hb dX9_check_60 rfl ?_
                  refine lv_iload_n hx hb dX9_check_61 rfl (lv_at hl 1 rfl) ?_
                  refine x_imul hx hb dX9_check_62 ?_
                  refine lv_aload_n hx hb dX9_check_63 rfl (lv_at hl 0 rfl) ?_
                  refine x_geto hx hb hf9 hw (by first | exact Int.le_refl 0 | omega) (by first | exact zlt hc40 | omega) sl_40_8 lk30 dX9_check_64 ?_
                  refine lv_iload_n hx hb dX9_check_67 rfl (lv_at hl 1 rfl) ?_
                  refine x_iald hx hb hK.1 hw (by first | exact Int.le_refl 0 | omega) (by first | exact zlt hc49 | omega) ar_49 (len_E ar_49 (by first | exact Nat.ne_of_beq_eq_false rfl | decide)) (by omega) (by omega) (by omega) dX9_check_68 ?_
                  have e30 : ∀ p9 q9 : Int, X1 49 p9 q9 = X 49 p9 q9 := fun p9 q9 => by rw [hX1, u3_k _ _ _ _ (by first | exact Nat.ne_of_beq_eq_false rfl | decide)]
                  rw [e30 0 t]
                  have f31 : 0 ≤ X 49 0 t ∧ X 49 0 t ≤ 4 := hR 49 0 t
                  refine x_iadd hx hb dX9_check_69 ?_
                  refine lv_istore (lv' := [(7, .int (jI ((4 * t) + (X 49 0 t)))), (0, .ref (ad 40 0)), (1, .int (jI t)), (2, .int (jI kind)), (3, .int (jI a)), (4, .int (jI b)), (5, .long (jL v))]) hx hb dX9_check_70 hl (by decide) rfl (fun ls hl => ?_)
                  refine lv_aload_n hx hb dX9_check_72 rfl (lv_at hl 1 rfl) ?_
                  refine x_geto hx hb hf9 hw (by first | exact Int.le_refl 0 | omega) (by first | exact zlt hc40 | omega) sl_40_9 lk33 dX9_check_73 ?_
                  refine lv_iload hx hb dX9_check_76 (lv_at hl 0 rfl) ?_
                  refine lv_iload_n hx hb dX9_check_78 rfl (lv_at hl 3 rfl) ?_
                  refine x_iast hx hb hK.1 hw hS (by first | exact Int.le_refl 0 | omega) (by first | exact zlt hc50 | omega) ar_50 (len_E ar_50 (by first | exact Nat.ne_of_beq_eq_false rfl | decide)) (by omega) (by omega) (by omega) dX9_check_79 (fun H locs hw hS => ?_)
                  obtain ⟨X32, hX32⟩ : ∃ Xq, Xq = u3 X1 50 0 ((4 * t) + (X 49 0 t)) kind := ⟨_, rfl⟩
                  rw [← hX32] at hw
                  have hRX32 : Rng X32 := by rw [hX32]; exact rng_set hRX1 (show 0 ≤ kind ∧ kind ≤ 5 by omega)
                  have hVX32 : X32 50 0 ((4 * t) + (X 49 0 t)) = kind := by rw [hX32]; exact u3_s _ _ _ _ _
                  have hFX32 : Frm [4001, 5000, 5100, 5200, 5300, 4900] X X32 := by rw [hX32]; exact Frm.set hFX1 (show 5000 ∈ [4001, 5000, 5100, 5200, 5300, 4900] by first | exact nlm_in rfl | decide)
                  refine lv_aload_n hx hb dX9_check_80 rfl (lv_at hl 1 rfl) ?_
                  refine x_geto hx hb hf9 hw (by first | exact Int.le_refl 0 | omega) (by first | exact zlt hc40 | omega) sl_40_10 lk36 dX9_check_81 ?_
                  refine lv_iload hx hb dX9_check_84 (lv_at hl 0 rfl) ?_
                  refine lv_iload_n hx hb dX9_check_86 rfl (lv_at hl 4 rfl) ?_
                  refine x_iast hx hb hK.1 hw hS (by first | exact Int.le_refl 0 | omega) (by first | exact zlt hc51 | omega) ar_51 (len_E ar_51 (by first | exact Nat.ne_of_beq_eq_false rfl | decide)) (by omega) (by omega) (by omega) dX9_check_87 (fun H locs hw hS => ?_)
                  obtain ⟨X33, hX33⟩ : ∃ Xq, Xq = u3 X32 51 0 ((4 * t) + (X 49 0 t)) a := ⟨_, rfl⟩
                  rw [← hX33] at hw
                  have hRX33 : Rng X33 := by rw [hX33]; exact rng_set hRX32 (show 0 ≤ a ∧ a ≤ 4 by omega)
                  have hVX33 : X33 51 0 ((4 * t) + (X 49 0 t)) = a := by rw [hX33]; exact u3_s _ _ _ _ _
                  have hFX33 : Frm [4001, 5000, 5100, 5200, 5300, 4900] X X33 := by rw [hX33]; exact Frm.set hFX32 (show 5100 ∈ [4001, 5000, 5100, 5200, 5300, 4900] by first | exact nlm_in rfl | decide)
                  refine lv_aload_n hx hb dX9_check_88 rfl (lv_at hl 1 rfl) ?_
                  refine x_geto hx hb hf9 hw (by first | exact Int.le_refl 0 | omega) (by first | exact zlt hc40 | omega) sl_40_11 lk39 dX9_check_89 ?_
                  refine lv_iload hx hb dX9_check_92 (lv_at hl 0 rfl) ?_
                  refine lv_iload hx hb dX9_check_94 (lv_at hl 5 rfl) ?_
                  refine x_iast hx hb hK.1 hw hS (by first | exact Int.le_refl 0 | omega) (by first | exact zlt hc52 | omega) ar_52 (len_E ar_52 (by first | exact Nat.ne_of_beq_eq_false rfl | decide)) (by omega) (by omega) (by omega) dX9_check_96 (fun H locs hw hS => ?_)
                  obtain ⟨X34, hX34⟩ : ∃ Xq, Xq = u3 X33 52 0 ((4 * t) + (X 49 0 t)) b := ⟨_, rfl⟩
                  rw [← hX34] at hw
                  have hRX34 : Rng X34 := by rw [hX34]; exact rng_set hRX33 (show 0 ≤ b ∧ b ≤ 4 by omega)
                  have hVX34 : X34 52 0 ((4 * t) + (X 49 0 t)) = b := by rw [hX34]; exact u3_s _ _ _ _ _
                  have hFX34 : Frm [4001, 5000, 5100, 5200, 5300, 4900] X X34 := by rw [hX34]; exact Frm.set hFX33 (show 5200 ∈ [4001, 5000, 5100, 5200, 5300, 4900] by first | exact nlm_in rfl | decide)
                  refine lv_aload_n hx hb dX9_check_97 rfl (lv_at hl 1 rfl) ?_
                  refine x_geto hx hb hf9 hw (by first | exact Int.le_refl 0 | omega) (by first | exact zlt hc40 | omega) sl_40_12 lk42 dX9_check_98 ?_
                  refine lv_iload hx hb dX9_check_101 (lv_at hl 0 rfl) ?_
                  refine lv_lload hx hb dX9_check_103 (lv_at hl 6 rfl) ?_
                  refine x_last hx hb hK.1 hw hS (by first | exact Int.le_refl 0 | omega) (by first | exact zlt hc53 | omega) ar_53 (len_E ar_53 (by first | exact Nat.ne_of_beq_eq_false rfl | decide)) (by omega) (by omega) (by omega) dX9_check_105 (fun H locs hw hS => ?_)
                  obtain ⟨X35, hX35⟩ : ∃ Xq, Xq = u3 X34 53 0 ((4 * t) + (X 49 0 t)) v := ⟨_, rfl⟩
                  rw [← hX35] at hw
                  have hRX35 : Rng X35 := by rw [hX35]; exact rng_set hRX34 (show (-9223372036854775808) ≤ v ∧ v ≤ 9223372036854775807 by omega)
                  have hVX35 : X35 53 0 ((4 * t) + (X 49 0 t)) = v := by rw [hX35]; exact u3_s _ _ _ _ _
                  have hFX35 : Frm [4001, 5000, 5100, 5200, 5300, 4900] X X35 := by rw [hX35]; exact Frm.set hFX34 (show 5300 ∈ [4001, 5000, 5100, 5200, 5300, 4900] by first | exact nlm_in rfl | decide)
                  refine lv_aload_n hx hb dX9_check_106 rfl (lv_at hl 1 rfl) ?_
                  refine x_geto hx hb hf9 hw (by first | exact Int.le_refl 0 | omega) (by first | exact zlt hc40 | omega) sl_40_8 lk30 dX9_check_107 ?_
                  refine lv_iload_n hx hb dX9_check_110 rfl (lv_at hl 2 rfl) ?_
                  refine lv_dup2_11 hx hb dX9_check_111 rfl rfl ?_
                  refine x_iald hx hb hK.1 hw (by first | exact Int.le_refl 0 | omega) (by first | exact zlt hc49 | omega) ar_49 (len_E ar_49 (by first | exact Nat.ne_of_beq_eq_false rfl | decide)) (by omega) (by omega) (by omega) dX9_check_112 ?_
                  have e36 : ∀ p9 q9 : Int, X35 49 p9 q9 = X 49 p9 q9 := fun p9 q9 => by rw [hX35, u3_k _ _ _ _ (by first | exact Nat.ne_of_beq_eq_false rfl | decide), hX34, u3_k _ _ _ _ (by first | exact Nat.ne_of_beq_eq_false rfl | decide), hX33, u3_k _ _ _ _ (by first | exact Nat.ne_of_beq_eq_false rfl | decide), hX32, u3_k _ _ _ _ (by first | exact Nat.ne_of_beq_eq_false rfl | decide), hX1, u3_k _ _ _ _ (by first | exact Nat.ne_of_beq_eq_false rfl | decide)]
                  rw [e36 0 t]
                  have f37 : 0 ≤ X 49 0 t ∧ X 49 0 t ≤ 4 := hR 49 0 t
                  refine lv_iconst (v := jI 1) hx hb dX9_check_113 rfl ?_
                  refine x_iadd hx hb dX9_check_114 ?_
                  refine x_iast hx hb hK.1 hw hS (by first | exact Int.le_refl 0 | omega) (by first | exact zlt hc49 | omega) ar_49 (len_E ar_49 (by first | exact Nat.ne_of_beq_eq_false rfl | decide)) (by omega) (by omega) (by omega) dX9_check_115 (fun H locs hw hS => ?_)
                  obtain ⟨X38, hX38⟩ : ∃ Xq, Xq = u3 X35 49 0 t ((X 49 0 t) + 1) := ⟨_, rfl⟩
                  rw [← hX38] at hw
                  have hRX38 : Rng X38 := by rw [hX38]; exact rng_set hRX35 (show 0 ≤ ((X 49 0 t) + 1) ∧ ((X 49 0 t) + 1) ≤ 4 by omega)
                  have hVX38 : X38 49 0 t = ((X 49 0 t) + 1) := by rw [hX38]; exact u3_s _ _ _ _ _
                  have hFX38 : Frm [4001, 5000, 5100, 5200, 5300, 4900] X X38 := by rw [hX38]; exact Frm.set hFX35 (show 4900 ∈ [4001, 5000, 5100, 5200, 5300, 4900] by first | exact nlm_in rfl | decide)
                  refine lv_aload_n hx hb dX9_check_116 rfl (lv_at hl 1 rfl) ?_
                  refine x_geto hx hb hf9 hw (by first | exact Int.le_refl 0 | omega) (by first | exact zlt hc40 | omega) sl_40_8 lk30 dX9_check_117 ?_
                  refine lv_iload_n hx hb dX9_check_120 rfl (lv_at hl 2 rfl) ?_
                  refine x_iald hx hb hK.1 hw (by first | exact Int.le_refl 0 | omega) (by first | exact zlt hc49 | omega) ar_49 (len_E ar_49 (by first | exact Nat.ne_of_beq_eq_false rfl | decide)) (by omega) (by omega) (by omega) dX9_check_121 ?_
                  rw [hVX38]
                  rw [hQ9]
                  refine ret_i (mc := 0) (ms := 0) hx hb hr hlocks hw hS (by first | exact Nat.le_of_ble_eq_true rfl | omega) (by first | exact Nat.le_of_ble_eq_true rfl | omega) dX9_check_122 ?_
                  have q40 : Frm [4001, 4900, 5000, 5100, 5200, 5300] X X1 := by rw [hX1]; exact Frm.set Frm.rf (show 4001 ∈ [4001, 4900, 5000, 5100, 5200, 5300] by first | exact nlm_in rfl | decide)
                  have q41 : Frm [4001, 4900, 5000, 5100, 5200, 5300] X X32 := by rw [hX32]; exact Frm.set q40 (show 5000 ∈ [4001, 4900, 5000, 5100, 5200, 5300] by first | exact nlm_in rfl | decide)
                  have q42 : Frm [4001, 4900, 5000, 5100, 5200, 5300] X X33 := by rw [hX33]; exact Frm.set q41 (show 5100 ∈ [4001, 4900, 5000, 5100, 5200, 5300] by first | exact nlm_in rfl | decide)
                  have q43 : Frm [4001, 4900, 5000, 5100, 5200, 5300] X X34 := by rw [hX34]; exact Frm.set q42 (show 5200 ∈ [4001, 4900, 5000, 5100, 5200, 5300] by first | exact nlm_in rfl | decide)
                  have q44 : Frm [4001, 4900, 5000, 5100, 5200, 5300] X X35 := by rw [hX35]; exact Frm.set q43 (show 5300 ∈ [4001, 4900, 5000, 5100, 5200, 5300] by first | exact nlm_in rfl | decide)
                  have q45 : Frm [4001, 4900, 5000, 5100, 5200, 5300] X X38 := by rw [hX38]; exact Frm.set q44 (show 4900 ∈ [4001, 4900, 5000, 5100, 5200, 5300] by first | exact nlm_in rfl | decide)
                  have hMq39 : MInv X38 := minv_frm hMI q45 (by decide)
                  have e46 : X38 49 0 t = ((X 49 0 t) + 1) := (by exact hVX38)
                  exact ⟨X38, rfl, hRX38, hFX38, hMq39, by omega, (by (try delta Hid at *); first | exact Or.inr (Or.inr (Or.inr ((⟨by omega, by omega, by omega, by omega, by omega, by omega⟩)))) | omega), fun y hy => (by rw [hX38, u3_j _ _ _ _ hy, hX35, u3_k _ _ _ _ (by first | exact Nat.ne_of_beq_eq_false rfl | decide), hX34, u3_k _ _ _ _ (by first | exact Nat.ne_of_beq_eq_false rfl | decide), hX33, u3_k _ _ _ _ (by first | exact Nat.ne_of_beq_eq_false rfl | decide), hX32, u3_k _ _ _ _ (by first | exact Nat.ne_of_beq_eq_false rfl | decide), hX1, u3_k _ _ _ _ (by first | exact Nat.ne_of_beq_eq_false rfl | decide)]), fun _ => ⟨(by rw [hX38, u3_k _ _ _ _ (by first | exact Nat.ne_of_beq_eq_false rfl | decide), hX35, u3_k _ _ _ _ (by first | exact Nat.ne_of_beq_eq_false rfl | decide), hX34, u3_k _ _ _ _ (by first | exact Nat.ne_of_beq_eq_false rfl | decide), hX33, u3_k _ _ _ _ (by first | exact Nat.ne_of_beq_eq_false rfl | decide)]; exact hVX32), (by rw [hX38, u3_k _ _ _ _ (by first | exact Nat.ne_of_beq_eq_false rfl | decide), hX35, u3_k _ _ _ _ (by first | exact Nat.ne_of_beq_eq_false rfl | decide), hX34, u3_k _ _ _ _ (by first | exact Nat.ne_of_beq_eq_false rfl | decide)]; exact hVX33), (by rw [hX38, u3_k _ _ _ _ (by first | exact Nat.ne_of_beq_eq_false rfl | decide), hX35, u3_k _ _ _ _ (by first | exact Nat.ne_of_beq_eq_false rfl | decide)]; exact hVX34), (by rw [hX38, u3_k _ _ _ _ (by first | exact Nat.ne_of_beq_eq_false rfl | decide)]; exact hVX35)⟩, fun y hy => ⟨(by rw [hX38, u3_k _ _ _ _ (by first | exact Nat.ne_of_beq_eq_false rfl | decide), hX35, u3_k _ _ _ _ (by first | exact Nat.ne_of_beq_eq_false rfl | decide), hX34, u3_k _ _ _ _ (by first | exact Nat.ne_of_beq_eq_false rfl | decide), hX33, u3_k _ _ _ _ (by first | exact Nat.ne_of_beq_eq_false rfl | decide), hX32, u3_j _ _ _ _ (by omega), hX1, u3_k _ _ _ _ (by first | exact Nat.ne_of_beq_eq_false rfl | decide)]), (by rw [hX38, u3_k _ _ _ _ (by first | exact Nat.ne_of_beq_eq_false rfl | decide), hX35, u3_k _ _ _ _ (by first | exact Nat.ne_of_beq_eq_false rfl | decide), hX34, u3_k _ _ _ _ (by first | exact Nat.ne_of_beq_eq_false rfl | decide), hX33, u3_j _ _ _ _ (by omega), hX32, u3_k _ _ _ _ (by first | exact Nat.ne_of_beq_eq_false rfl | decide), hX1, u3_k _ _ _ _ (by first | exact Nat.ne_of_beq_eq_false rfl | decide)]), (by rw [hX38, u3_k _ _ _ _ (by first | exact Nat.ne_of_beq_eq_false rfl | decide), hX35, u3_k _ _ _ _ (by first | exact Nat.ne_of_beq_eq_false rfl | decide), hX34, u3_j _ _ _ _ (by omega), hX33, u3_k _ _ _ _ (by first | exact Nat.ne_of_beq_eq_false rfl | decide), hX32, u3_k _ _ _ _ (by first | exact Nat.ne_of_beq_eq_false rfl | decide), hX1, u3_k _ _ _ _ (by first | exact Nat.ne_of_beq_eq_false rfl | decide)]), (by rw [hX38, u3_k _ _ _ _ (by first | exact Nat.ne_of_beq_eq_false rfl | decide), hX35, u3_j _ _ _ _ (by omega), hX34, u3_k _ _ _ _ (by first | exact Nat.ne_of_beq_eq_false rfl | decide), hX33, u3_k _ _ _ _ (by first | exact Nat.ne_of_beq_eq_false rfl | decide), hX32, u3_k _ _ _ _ (by first | exact Nat.ne_of_beq_eq_false rfl | decide), hX1, u3_k _ _ _ _ (by first | exact Nat.ne_of_beq_eq_false rfl | decide)])⟩⟩
                · refine lv_bipush (v := jI (-4)) hx hb dX9_check_57 (by decide) ?_
                  rw [hQ9]
                  refine ret_i (mc := 0) (ms := 0) hx hb hr hlocks hw hS (by first | exact Nat.le_of_ble_eq_true rfl | omega) (by first | exact Nat.le_of_ble_eq_true rfl | omega) dX9_check_59 ?_
                  have hMq47 : MInv X1 := minv_frm hMI q900006 (by decide)
                  have e49 : X1 49 0 t = X 49 0 t := (by rw [hX1, u3_k _ _ _ _ (by first | exact Nat.ne_of_beq_eq_false rfl | decide)])
                  exact ⟨X1, rfl, hRX1, hFX1, hMq47, by omega, (by (try delta Hid at *); first | exact Or.inr (Or.inr (Or.inl ⟨by omega, by omega, by omega, by omega, by omega, by omega⟩)) | exact Or.inr (Or.inr (Or.inr ((⟨by omega, by omega, by omega, by omega, by omega, by omega⟩)))) | omega), fun y hy => (by rw [hX1, u3_k _ _ _ _ (by first | exact Nat.ne_of_beq_eq_false rfl | decide)]), fun q => (by exfalso; omega), fun y _ => ⟨(by rw [hX1, u3_k _ _ _ _ (by first | exact Nat.ne_of_beq_eq_false rfl | decide)]), (by rw [hX1, u3_k _ _ _ _ (by first | exact Nat.ne_of_beq_eq_false rfl | decide)]), (by rw [hX1, u3_k _ _ _ _ (by first | exact Nat.ne_of_beq_eq_false rfl | decide)]), (by rw [hX1, u3_k _ _ _ _ (by first | exact Nat.ne_of_beq_eq_false rfl | decide)])⟩⟩
              · refine lv_bipush (v := jI (-2)) hx hb dX9_check_44 (by decide) ?_
                rw [hQ9]
                refine ret_i (mc := 0) (ms := 0) hx hb hr hlocks hw hS (by first | exact Nat.le_of_ble_eq_true rfl | omega) (by first | exact Nat.le_of_ble_eq_true rfl | omega) dX9_check_46 ?_
                have hMq50 : MInv X1 := minv_frm hMI q900006 (by decide)
                have e52 : X1 49 0 t = X 49 0 t := (by rw [hX1, u3_k _ _ _ _ (by first | exact Nat.ne_of_beq_eq_false rfl | decide)])
                exact ⟨X1, rfl, hRX1, hFX1, hMq50, by omega, (by (try delta Hid at *); first | exact Or.inr (Or.inl ⟨by omega, by omega, (fun q => by omega), by omega, by omega⟩) | exact Or.inr (Or.inr (Or.inr ((⟨by omega, by omega, by omega, by omega, by omega, by omega⟩)))) | omega), fun y hy => (by rw [hX1, u3_k _ _ _ _ (by first | exact Nat.ne_of_beq_eq_false rfl | decide)]), fun q => (by exfalso; omega), fun y _ => ⟨(by rw [hX1, u3_k _ _ _ _ (by first | exact Nat.ne_of_beq_eq_false rfl | decide)]), (by rw [hX1, u3_k _ _ _ _ (by first | exact Nat.ne_of_beq_eq_false rfl | decide)]), (by rw [hX1, u3_k _ _ _ _ (by first | exact Nat.ne_of_beq_eq_false rfl | decide)]), (by rw [hX1, u3_k _ _ _ _ (by first | exact Nat.ne_of_beq_eq_false rfl | decide)])⟩⟩
  · subst ez2
    refine x_if_neF (tgt := 15) hx hb (by omega) (by decide) dX9_check_10 (by decide) ?_
    refine lv_iconst (v := jI (-1)) hx hb dX9_check_13 rfl ?_
    rw [hQ9]
    refine ret_i (mc := 0) (ms := 0) hx hb hr hlocks hw hS (by first | exact Nat.le_of_ble_eq_true rfl | omega) (by first | exact Nat.le_of_ble_eq_true rfl | omega) dX9_check_14 ?_
    have hMq53 : MInv X1 := minv_frm hMI q900006 (by decide)
    have e55 : X1 49 0 t = X 49 0 t := (by rw [hX1, u3_k _ _ _ _ (by first | exact Nat.ne_of_beq_eq_false rfl | decide)])
    exact ⟨X1, rfl, hRX1, hFX1, hMq53, by omega, (by (try delta Hid at *); first | exact Or.inl ⟨(fun q => by omega), by omega, by omega⟩ | exact Or.inr (Or.inr (Or.inr ((⟨by omega, by omega, by omega, by omega, by omega, by omega⟩)))) | omega), fun y hy => (by rw [hX1, u3_k _ _ _ _ (by first | exact Nat.ne_of_beq_eq_false rfl | decide)]), fun q => (by exfalso; omega), fun y _ => ⟨(by rw [hX1, u3_k _ _ _ _ (by first | exact Nat.ne_of_beq_eq_false rfl | decide)]), (by rw [hX1, u3_k _ _ _ _ (by first | exact Nat.ne_of_beq_eq_false rfl | decide)]), (by rw [hX1, u3_k _ _ _ _ (by first | exact Nat.ne_of_beq_eq_false rfl | decide)]), (by rw [hX1, u3_k _ _ _ _ (by first | exact Nat.ne_of_beq_eq_false rfl | decide)])⟩⟩

set_option maxHeartbeats 4000000 in
set_option maxRecDepth 100000 in
theorem c_X9_unchecked (l : Launch) (D : va_G) (tc : Nat → ClassId) (base : Nat) (ad : Nat → Int → Nat) (cnt : Nat → Int) (X : Nat → Int → Int → Int) (Y : Nat → Int → Int → Option Int) (ln : Int → Int) (hR : Rng X) (hFx : Fx cnt) (hMI : MInv X) (t : Int) (ht : -2147483648 ≤ t ∧ t ≤ 2147483647) : KI l D tc base yX9_unchecked wsX9_unchecked ({ frames := 1, cells := 0, slots := 0, locals := 21 } : Room) [.ref (ad 40 0), .int (jI t)] (ad, cnt, X, Y, ln) 0 0 (fun z u => ∃ X1 : Nat → Int → Int → Int, u = (ad, cnt, X1, Y, ln) ∧ Rng X1 ∧ Frm [4001, 4900] X X1 ∧ MInv X1 ∧ (-2147483648 ≤ z ∧ z ≤ 2147483647) ∧ ((0 ≤ t ∧ t < X 40 0 2 ∧ z = X 49 0 t ∧ X1 49 0 t = 0) ∨ (¬ (0 ≤ t ∧ t < X 40 0 2) ∧ z = -1 ∧ X1 49 0 t = X 49 0 t)) ∧ ∀ y, y ≠ t → X1 49 0 y = X 49 0 y) := by
  refine K_of (cc := cX9_unchecked) (maxL := 3) (ret := (some .int)) (by decide) rfl (Nat.le_of_ble_eq_true rfl) ?_
  intro p e s m below meth c ls hx hb hr hml hown hts hlocks hl hK hw hS
  have hown : s.vm.findClass RX9 = some m.cls := hown
  obtain ⟨av9, hav9⟩ : ∃ a9 : Array Value, a9 = ([.ref (ad 40 0), .int (jI t)] : List Value).toArray := ⟨_, rfl⟩
  rw [← hav9] at hts ⊢
  obtain ⟨Q9, hQ9⟩ : ∃ q9Q : State → Prop, q9Q = MQ below (QI D tc base (fun z u => ∃ X1 : Nat → Int → Int → Int, u = (ad, cnt, X1, Y, ln) ∧ Rng X1 ∧ Frm [4001, 4900] X X1 ∧ MInv X1 ∧ (-2147483648 ≤ z ∧ z ≤ 2147483647) ∧ ((0 ≤ t ∧ t < X 40 0 2 ∧ z = X 49 0 t ∧ X1 49 0 t = 0) ∨ (¬ (0 ≤ t ∧ t < X 40 0 2) ∧ z = -1 ∧ X1 49 0 t = X 49 0 t)) ∧ ∀ y, y ≠ t → X1 49 0 y = X 49 0 y)) av9 s 0 0 (frA base) := ⟨_, rfl⟩
  rw [← hQ9]
  have hi9 : ∀ w ∈ wsX90, w ∈ wsX9_unchecked := fun w h => List.mem_cons_of_mem _ (List.mem_append_right _ h)
  have hf9 : fctx s m _ RX9 wsX9_unchecked D tc RX9 TX9 51 9 := ⟨hts, hi9, hown, hK.1, rfl⟩
  have lk30 := hts (.fieldLink RX9 30 (TX9 8).1 (TX9 8).2.1 (TX9 8).2.2.1) (gj_X9_unchecked_0 _ (gp_1 gp_h))
  have lk145 := hts (.fieldLink RX9 145 (TX9 0).1 (TX9 0).2.1 (TX9 0).2.2.1) (gj_X9_unchecked_0 _ (gp_h))
  have hc40 : cnt 40 = 1 := hFx.at 40 1 (by decide)
  have hc49 : cnt 49 = 1 := hFx.at 49 1 (by decide)
  have hl : lv_has ls 3 [(0, .ref (ad 40 0)), (1, .int (jI t))] := hl
  have fstypes : 0 ≤ X 40 0 2 ∧ X 40 0 2 ≤ 8 := hR 40 0 2
  have fsthings : 0 ≤ X 40 0 13 ∧ X 40 0 13 ≤ 30 := hR 40 0 13
  have fsmarks : 0 ≤ X 40 0 20 ∧ X 40 0 20 ≤ 4 := hR 40 0 20
  have fsnotes : 0 ≤ X 40 0 22 ∧ X 40 0 22 ≤ 80 := hR 40 0 22
  refine lv_aload_n hx hb dX9_unchecked_0 rfl (lv_at hl 0 rfl) ?_
  refine lv_iconst (v := jI 0) hx hb dX9_unchecked_1 rfl ?_
  refine x_puti (jz := 0) hx hb hf9 ⟨tyX9_ok, nmX9⟩ hw hS (by first | exact Int.le_refl 0 | omega) (by first | exact zlt hc40 | omega) sl_40_0 rfl lk145 rfl (tyX9_ok 0 (by decide)) rfl rfl dX9_unchecked_2 (fun H locs hw hS => ?_)
  obtain ⟨X1, hX1⟩ : ∃ Xq, Xq = u3 X 40 0 0 0 := ⟨_, rfl⟩
  rw [← hX1] at hw
  have hRX1 : Rng X1 := by rw [hX1]; exact rng_set hR (show (-2147483648) ≤ 0 ∧ 0 ≤ 2147483647 by omega)
  have hVX1 : X1 40 0 0 = 0 := by rw [hX1]; exact u3_s _ _ _ _ _
  have hFX1 : Frm [4001, 4900] X X1 := by rw [hX1]; exact Frm.set Frm.rf (show 4001 ∈ [4001, 4900] by first | exact nlm_in rfl | decide)
  refine lv_aload_n hx hb dX9_unchecked_5 rfl (lv_at hl 0 rfl) ?_
  refine lv_iload_n hx hb dX9_unchecked_6 rfl (lv_at hl 1 rfl) ?_
  refine gos_i (run_V (As := [.int (jI t)]) (rest := []) hx hb hml hown hts (c_X9_isType l D tc base ad cnt X1 Y ln hRX1 hFx t (by omega)) (cwV 1 hts gX9_unchecked_X9_isType rfl rfl rfl (by first | exact hd_X9_isType | decide +kernel) ⟨Nat.le_of_ble_eq_true rfl, Nat.le_of_ble_eq_true rfl⟩) hK hw (by first | exact Int.le_refl 0 | omega) (by first | exact zlt hc40 | omega) sl_40_0 rfl rfl hl.1 rfl (Nat.le_of_ble_eq_true rfl) dX9_unchecked_7 ⟨Nat.le_of_ble_eq_true rfl, Nat.le_of_ble_eq_true rfl⟩) hS (fun z2 u3 H locs p4 hw hS => ?_)
  obtain ⟨eu3, p4⟩ := p4
  subst eu3
  have e5 : X1 40 0 2 = X 40 0 2 := by rw [hX1, u3_j _ _ _ _ (by decide)]
  simp only [e5] at p4
  rcases p4 with ⟨ez2, p4⟩ | ⟨ez2, p4⟩
  · subst ez2
    refine x_if_neT (tgt := 15) hx hb (by omega) (by decide) dX9_unchecked_10 (by decide) ?_
    refine lv_aload_n hx hb dX9_unchecked_15 rfl (lv_at hl 0 rfl) ?_
    refine x_geto hx hb hf9 hw (by first | exact Int.le_refl 0 | omega) (by first | exact zlt hc40 | omega) sl_40_8 lk30 dX9_unchecked_16 ?_
    refine lv_iload_n hx hb dX9_unchecked_19 rfl (lv_at hl 1 rfl) ?_
    refine x_iald hx hb hK.1 hw (by first | exact Int.le_refl 0 | omega) (by first | exact zlt hc49 | omega) ar_49 (len_E ar_49 (by first | exact Nat.ne_of_beq_eq_false rfl | decide)) (by omega) (by omega) (by omega) dX9_unchecked_20 ?_
    have e6 : ∀ p9 q9 : Int, X1 49 p9 q9 = X 49 p9 q9 := fun p9 q9 => by rw [hX1, u3_k _ _ _ _ (by first | exact Nat.ne_of_beq_eq_false rfl | decide)]
    rw [e6 0 t]
    have f7 : 0 ≤ X 49 0 t ∧ X 49 0 t ≤ 4 := hR 49 0 t
    refine lv_istore_n (lv' := [(2, .int (jI (X 49 0 t))), (0, .ref (ad 40 0)), (1, .int (jI t))]) hx hb dX9_unchecked_21 rfl hl (by decide) rfl (fun ls hl => ?_)
    refine lv_aload_n hx hb dX9_unchecked_22 rfl (lv_at hl 1 rfl) ?_
    refine x_geto hx hb hf9 hw (by first | exact Int.le_refl 0 | omega) (by first | exact zlt hc40 | omega) sl_40_8 lk30 dX9_unchecked_23 ?_
    refine lv_iload_n hx hb dX9_unchecked_26 rfl (lv_at hl 2 rfl) ?_
    refine lv_iconst (v := jI 0) hx hb dX9_unchecked_27 rfl ?_
    refine x_iast hx hb hK.1 hw hS (by first | exact Int.le_refl 0 | omega) (by first | exact zlt hc49 | omega) ar_49 (len_E ar_49 (by first | exact Nat.ne_of_beq_eq_false rfl | decide)) (by omega) (by omega) (by omega) dX9_unchecked_28 (fun H locs hw hS => ?_)
    obtain ⟨X8, hX8⟩ : ∃ Xq, Xq = u3 X1 49 0 t 0 := ⟨_, rfl⟩
    rw [← hX8] at hw
    have hRX8 : Rng X8 := by rw [hX8]; exact rng_set hRX1 (show 0 ≤ 0 ∧ 0 ≤ 4 by omega)
    have hVX8 : X8 49 0 t = 0 := by rw [hX8]; exact u3_s _ _ _ _ _
    have hFX8 : Frm [4001, 4900] X X8 := by rw [hX8]; exact Frm.set hFX1 (show 4900 ∈ [4001, 4900] by first | exact nlm_in rfl | decide)
    refine lv_iload_n hx hb dX9_unchecked_29 rfl (lv_at hl 0 rfl) ?_
    rw [hQ9]
    refine ret_i (mc := 0) (ms := 0) hx hb hr hlocks hw hS (by first | exact Nat.le_of_ble_eq_true rfl | omega) (by first | exact Nat.le_of_ble_eq_true rfl | omega) dX9_unchecked_30 ?_
    have q10 : Frm [4001, 4900] X X1 := by rw [hX1]; exact Frm.set Frm.rf (show 4001 ∈ [4001, 4900] by first | exact nlm_in rfl | decide)
    have q11 : Frm [4001, 4900] X X8 := by rw [hX8]; exact Frm.set q10 (show 4900 ∈ [4001, 4900] by first | exact nlm_in rfl | decide)
    have hMq9 : MInv X8 := minv_frm hMI q11 (by decide)
    have e12 : X8 49 0 t = 0 := (by exact hVX8)
    exact ⟨X8, rfl, hRX8, hFX8, hMq9, by omega, (by (try delta Hid at *); first | exact Or.inl ⟨by omega, by omega, by omega, by omega⟩ | omega), fun y hy => (by rw [hX8, u3_j _ _ _ _ hy, hX1, u3_k _ _ _ _ (by first | exact Nat.ne_of_beq_eq_false rfl | decide)])⟩
  · subst ez2
    refine x_if_neF (tgt := 15) hx hb (by omega) (by decide) dX9_unchecked_10 (by decide) ?_
    refine lv_iconst (v := jI (-1)) hx hb dX9_unchecked_13 rfl ?_
    rw [hQ9]
    refine ret_i (mc := 0) (ms := 0) hx hb hr hlocks hw hS (by first | exact Nat.le_of_ble_eq_true rfl | omega) (by first | exact Nat.le_of_ble_eq_true rfl | omega) dX9_unchecked_14 ?_
    have q14 : Frm [4001] X X1 := by rw [hX1]; exact Frm.set Frm.rf (show 4001 ∈ [4001] by first | exact nlm_in rfl | decide)
    have hMq13 : MInv X1 := minv_frm hMI q14 (by decide)
    have e15 : X1 49 0 t = X 49 0 t := (by rw [hX1, u3_k _ _ _ _ (by first | exact Nat.ne_of_beq_eq_false rfl | decide)])
    exact ⟨X1, rfl, hRX1, hFX1, hMq13, by omega, (by (try delta Hid at *); first | exact Or.inr ((⟨(fun q => by omega), by omega, by omega⟩)) | exact Or.inl ⟨by omega, by omega, by omega, by omega⟩ | omega), fun y hy => (by rw [hX1, u3_k _ _ _ _ (by first | exact Nat.ne_of_beq_eq_false rfl | decide)])⟩

set_option maxHeartbeats 4000000 in
set_option maxRecDepth 100000 in
theorem c_X9_word (l : Launch) (D : va_G) (tc : Nat → ClassId) (base : Nat) (ad : Nat → Int → Nat) (cnt : Nat → Int) (X : Nat → Int → Int → Int) (Y : Nat → Int → Int → Option Int) (ln : Int → Int) (hR : Rng X) (hFx : Fx cnt) (hMI : MInv X) (w on : Int) (hw : -2147483648 ≤ w ∧ w ≤ 2147483647) (hon : 0 ≤ on ∧ on ≤ 1) : KI l D tc base yX9_word wsX9_word ({ frames := 0, cells := 0, slots := 0, locals := 0 } : Room) [.ref (ad 40 0), .int (jI w), .int (jI on)] (ad, cnt, X, Y, ln) 0 0 (fun z u => ∃ X1 : Nat → Int → Int → Int, u = (ad, cnt, X1, Y, ln) ∧ Rng X1 ∧ Frm [4001, 4200] X X1 ∧ MInv X1 ∧ (-2147483648 ≤ z ∧ z ≤ 2147483647) ∧ ((0 ≤ w ∧ w < 16 ∧ z = 1 - X 42 0 w ∧ X1 42 0 w = 1 - on) ∨ (¬ (0 ≤ w ∧ w < 16) ∧ z = -1 ∧ X1 42 0 w = X 42 0 w)) ∧ ∀ y, y ≠ w → X1 42 0 y = X 42 0 y) := by
  refine K_of (cc := cX9_word) (maxL := 4) (ret := (some .int)) (by decide) rfl (Nat.le_of_ble_eq_true rfl) ?_
  intro p e s m below meth c ls hx hb hr hml hown hts hlocks hl hK hw hS
  have hown : s.vm.findClass RX9 = some m.cls := hown
  obtain ⟨av9, hav9⟩ : ∃ a9 : Array Value, a9 = ([.ref (ad 40 0), .int (jI w), .int (jI on)] : List Value).toArray := ⟨_, rfl⟩
  rw [← hav9] at hts ⊢
  obtain ⟨Q9, hQ9⟩ : ∃ q9Q : State → Prop, q9Q = MQ below (QI D tc base (fun z u => ∃ X1 : Nat → Int → Int → Int, u = (ad, cnt, X1, Y, ln) ∧ Rng X1 ∧ Frm [4001, 4200] X X1 ∧ MInv X1 ∧ (-2147483648 ≤ z ∧ z ≤ 2147483647) ∧ ((0 ≤ w ∧ w < 16 ∧ z = 1 - X 42 0 w ∧ X1 42 0 w = 1 - on) ∨ (¬ (0 ≤ w ∧ w < 16) ∧ z = -1 ∧ X1 42 0 w = X 42 0 w)) ∧ ∀ y, y ≠ w → X1 42 0 y = X 42 0 y)) av9 s 0 0 (frA base) := ⟨_, rfl⟩
  rw [← hQ9]
  have hi9 : ∀ w ∈ wsX90, w ∈ wsX9_word := fun w h => List.mem_cons_of_mem _ (List.mem_append_right _ h)
  have hf9 : fctx s m _ RX9 wsX9_word D tc RX9 TX9 51 9 := ⟨hts, hi9, hown, hK.1, rfl⟩
  have lk7 := hts (.fieldLink RX9 7 (TX9 1).1 (TX9 1).2.1 (TX9 1).2.2.1) (gj_X9_word_0 _ (gp_1 gp_h))
  have lk145 := hts (.fieldLink RX9 145 (TX9 0).1 (TX9 0).2.1 (TX9 0).2.2.1) (gj_X9_word_0 _ (gp_h))
  have hc40 : cnt 40 = 1 := hFx.at 40 1 (by decide)
  have hc42 : cnt 42 = 1 := hFx.at 42 1 (by decide)
  have hl : lv_has ls 4 [(0, .ref (ad 40 0)), (1, .int (jI w)), (2, .int (jI on))] := hl
  have fstypes : 0 ≤ X 40 0 2 ∧ X 40 0 2 ≤ 8 := hR 40 0 2
  have fsthings : 0 ≤ X 40 0 13 ∧ X 40 0 13 ≤ 30 := hR 40 0 13
  have fsmarks : 0 ≤ X 40 0 20 ∧ X 40 0 20 ≤ 4 := hR 40 0 20
  have fsnotes : 0 ≤ X 40 0 22 ∧ X 40 0 22 ≤ 80 := hR 40 0 22
  refine lv_aload_n hx hb dX9_word_0 rfl (lv_at hl 0 rfl) ?_
  refine lv_iconst (v := jI 0) hx hb dX9_word_1 rfl ?_
  refine x_puti (jz := 0) hx hb hf9 ⟨tyX9_ok, nmX9⟩ hw hS (by first | exact Int.le_refl 0 | omega) (by first | exact zlt hc40 | omega) sl_40_0 rfl lk145 rfl (tyX9_ok 0 (by decide)) rfl rfl dX9_word_2 (fun H locs hw hS => ?_)
  obtain ⟨X1, hX1⟩ : ∃ Xq, Xq = u3 X 40 0 0 0 := ⟨_, rfl⟩
  rw [← hX1] at hw
  have hRX1 : Rng X1 := by rw [hX1]; exact rng_set hR (show (-2147483648) ≤ 0 ∧ 0 ≤ 2147483647 by omega)
  have hVX1 : X1 40 0 0 = 0 := by rw [hX1]; exact u3_s _ _ _ _ _
  have hFX1 : Frm [4001, 4200] X X1 := by rw [hX1]; exact Frm.set Frm.rf (show 4001 ∈ [4001, 4200] by first | exact nlm_in rfl | decide)
  refine lv_iload_n hx hb dX9_word_5 rfl (lv_at hl 1 rfl) ?_
  have q900009 : Frm [4001] X X1 := by rw [hX1]; exact Frm.set Frm.rf (show 4001 ∈ [4001] by first | exact nlm_in rfl | decide)
  refine x_if_lt (tgt := 15) hx hb (by omega) dX9_word_6 (by decide) (fun c2 => ?_) (fun c2 => ?_)
  · refine lv_iconst (v := jI (-1)) hx hb dX9_word_15 rfl ?_
    rw [hQ9]
    refine ret_i (mc := 0) (ms := 0) hx hb hr hlocks hw hS (by first | exact Nat.le_of_ble_eq_true rfl | omega) (by first | exact Nat.le_of_ble_eq_true rfl | omega) dX9_word_16 ?_
    have q4 : Frm [4001] X X1 := by rw [hX1]; exact Frm.set Frm.rf (show 4001 ∈ [4001] by first | exact nlm_in rfl | decide)
    have hMq3 : MInv X1 := minv_frm hMI q4 (by decide)
    have e5 : X1 42 0 w = X 42 0 w := (by rw [hX1, u3_k _ _ _ _ (by first | exact Nat.ne_of_beq_eq_false rfl | decide)])
    exact ⟨X1, rfl, hRX1, hFX1, hMq3, by omega, (by (try delta Hid at *); first | exact Or.inr ((⟨(fun q => by omega), by omega, by omega⟩)) | exact Or.inl ⟨by omega, by omega, by omega, by omega⟩ | omega), fun y hy => (by rw [hX1, u3_k _ _ _ _ (by first | exact Nat.ne_of_beq_eq_false rfl | decide)])⟩
  · refine lv_iload_n hx hb dX9_word_9 rfl (lv_at hl 1 rfl) ?_
    refine lv_bipush (v := jI 15) hx hb dX9_word_10 (by decide) ?_
    refine x_icmp_le (tgt := 17) hx hb (by omega) (by omega) dX9_word_12 (by decide) (fun c6 => ?_) (fun c6 => ?_)
    · refine lv_aload_n hx hb dX9_word_17 rfl (lv_at hl 0 rfl) ?_
      refine x_geto hx hb hf9 hw (by first | exact Int.le_refl 0 | omega) (by first | exact zlt hc40 | omega) sl_40_1 lk7 dX9_word_18 ?_
      refine lv_iload_n hx hb dX9_word_21 rfl (lv_at hl 1 rfl) ?_
      refine x_zald hx hb hK.1 hw (by first | exact Int.le_refl 0 | omega) (by first | exact zlt hc42 | omega) ar_42 (len_E ar_42 (by first | exact Nat.ne_of_beq_eq_false rfl | decide)) (by omega) (by omega) (by omega) dX9_word_22 ?_
      have e7 : ∀ p9 q9 : Int, X1 42 p9 q9 = X 42 p9 q9 := fun p9 q9 => by rw [hX1, u3_k _ _ _ _ (by first | exact Nat.ne_of_beq_eq_false rfl | decide)]
      rw [e7 0 w]
      have f8 : 0 ≤ X 42 0 w ∧ X 42 0 w ≤ 1 := hR 42 0 w
      have q900008 : Frm [4001, 4200] X X1 := by rw [hX1]; exact Frm.set Frm.rf (show 4001 ∈ [4001, 4200] by first | exact nlm_in rfl | decide)
      refine x_if_ne (tgt := 30) hx hb (by omega) dX9_word_23 (by decide) (fun c9 => ?_) (fun c9 => ?_)
      · refine lv_iconst (v := jI 0) hx hb dX9_word_30 rfl ?_
        refine lv_istore_n (lv' := [(3, .int (jI 0)), (0, .ref (ad 40 0)), (1, .int (jI w)), (2, .int (jI on))]) hx hb dX9_word_31 rfl hl (by decide) rfl (fun ls hl => ?_)
        refine lv_aload_n hx hb dX9_word_32 rfl (lv_at hl 1 rfl) ?_
        refine x_geto hx hb hf9 hw (by first | exact Int.le_refl 0 | omega) (by first | exact zlt hc40 | omega) sl_40_1 lk7 dX9_word_33 ?_
        refine lv_iload_n hx hb dX9_word_36 rfl (lv_at hl 2 rfl) ?_
        refine lv_iload_n hx hb dX9_word_37 rfl (lv_at hl 3 rfl) ?_
        refine x_if_ne (tgt := 45) hx hb (by omega) dX9_word_38 (by decide) (fun c10 => ?_) (fun c10 => ?_)
        · refine lv_iconst (v := jI 0) hx hb dX9_word_45 rfl ?_
          refine x_zast hx hb hK.1 hw hS (by first | exact Int.le_refl 0 | omega) (by first | exact zlt hc42 | omega) ar_42 (len_E ar_42 (by first | exact Nat.ne_of_beq_eq_false rfl | decide)) (by omega) (by omega) (by omega) (by omega) (by omega) dX9_word_46 (fun H locs hw hS => ?_)
          obtain ⟨X11, hX11⟩ : ∃ Xq, Xq = u3 X1 42 0 w 0 := ⟨_, rfl⟩
          rw [← hX11] at hw
          have hRX11 : Rng X11 := by rw [hX11]; exact rng_set hRX1 (show 0 ≤ 0 ∧ 0 ≤ 1 by omega)
          have hVX11 : X11 42 0 w = 0 := by rw [hX11]; exact u3_s _ _ _ _ _
          have hFX11 : Frm [4001, 4200] X X11 := by rw [hX11]; exact Frm.set hFX1 (show 4200 ∈ [4001, 4200] by first | exact nlm_in rfl | decide)
          refine lv_iload_n hx hb dX9_word_47 rfl (lv_at hl 0 rfl) ?_
          refine x_if_eqT (tgt := 55) hx hb (by omega) (by decide) dX9_word_48 (by decide) ?_
          refine lv_iconst (v := jI 0) hx hb dX9_word_55 rfl ?_
          rw [hQ9]
          refine ret_i (mc := 0) (ms := 0) hx hb hr hlocks hw hS (by first | exact Nat.le_of_ble_eq_true rfl | omega) (by first | exact Nat.le_of_ble_eq_true rfl | omega) dX9_word_56 ?_
          have q13 : Frm [4001, 4200] X X1 := by rw [hX1]; exact Frm.set Frm.rf (show 4001 ∈ [4001, 4200] by first | exact nlm_in rfl | decide)
          have q14 : Frm [4001, 4200] X X11 := by rw [hX11]; exact Frm.set q13 (show 4200 ∈ [4001, 4200] by first | exact nlm_in rfl | decide)
          have hMq12 : MInv X11 := minv_frm hMI q14 (by decide)
          have e15 : X11 42 0 w = 0 := (by exact hVX11)
          exact ⟨X11, rfl, hRX11, hFX11, hMq12, by omega, (by (try delta Hid at *); first | exact Or.inl ⟨by omega, by omega, by omega, by omega⟩ | omega), fun y hy => (by rw [hX11, u3_j _ _ _ _ hy, hX1, u3_k _ _ _ _ (by first | exact Nat.ne_of_beq_eq_false rfl | decide)])⟩
        · refine lv_iconst (v := jI 1) hx hb dX9_word_41 rfl ?_
          refine lv_goto (tgt := 46) hx hb dX9_word_42 (by decide) ?_
          refine x_zast hx hb hK.1 hw hS (by first | exact Int.le_refl 0 | omega) (by first | exact zlt hc42 | omega) ar_42 (len_E ar_42 (by first | exact Nat.ne_of_beq_eq_false rfl | decide)) (by omega) (by omega) (by omega) (by omega) (by omega) dX9_word_46 (fun H locs hw hS => ?_)
          obtain ⟨X16, hX16⟩ : ∃ Xq, Xq = u3 X1 42 0 w 1 := ⟨_, rfl⟩
          rw [← hX16] at hw
          have hRX16 : Rng X16 := by rw [hX16]; exact rng_set hRX1 (show 0 ≤ 1 ∧ 1 ≤ 1 by omega)
          have hVX16 : X16 42 0 w = 1 := by rw [hX16]; exact u3_s _ _ _ _ _
          have hFX16 : Frm [4001, 4200] X X16 := by rw [hX16]; exact Frm.set hFX1 (show 4200 ∈ [4001, 4200] by first | exact nlm_in rfl | decide)
          refine lv_iload_n hx hb dX9_word_47 rfl (lv_at hl 0 rfl) ?_
          refine x_if_eqT (tgt := 55) hx hb (by omega) (by decide) dX9_word_48 (by decide) ?_
          refine lv_iconst (v := jI 0) hx hb dX9_word_55 rfl ?_
          rw [hQ9]
          refine ret_i (mc := 0) (ms := 0) hx hb hr hlocks hw hS (by first | exact Nat.le_of_ble_eq_true rfl | omega) (by first | exact Nat.le_of_ble_eq_true rfl | omega) dX9_word_56 ?_
          have q18 : Frm [4001, 4200] X X1 := by rw [hX1]; exact Frm.set Frm.rf (show 4001 ∈ [4001, 4200] by first | exact nlm_in rfl | decide)
          have q19 : Frm [4001, 4200] X X16 := by rw [hX16]; exact Frm.set q18 (show 4200 ∈ [4001, 4200] by first | exact nlm_in rfl | decide)
          have hMq17 : MInv X16 := minv_frm hMI q19 (by decide)
          have e20 : X16 42 0 w = 1 := (by exact hVX16)
          exact ⟨X16, rfl, hRX16, hFX16, hMq17, by omega, (by (try delta Hid at *); first | exact Or.inl ⟨by omega, by omega, by omega, by omega⟩ | omega), fun y hy => (by rw [hX16, u3_j _ _ _ _ hy, hX1, u3_k _ _ _ _ (by first | exact Nat.ne_of_beq_eq_false rfl | decide)])⟩
      · refine lv_iconst (v := jI 1) hx hb dX9_word_26 rfl ?_
        refine lv_goto (tgt := 31) hx hb dX9_word_27 (by decide) ?_
        refine lv_istore_n (lv' := [(3, .int (jI 1)), (0, .ref (ad 40 0)), (1, .int (jI w)), (2, .int (jI on))]) hx hb dX9_word_31 rfl hl (by decide) rfl (fun ls hl => ?_)
        refine lv_aload_n hx hb dX9_word_32 rfl (lv_at hl 1 rfl) ?_
        refine x_geto hx hb hf9 hw (by first | exact Int.le_refl 0 | omega) (by first | exact zlt hc40 | omega) sl_40_1 lk7 dX9_word_33 ?_
        refine lv_iload_n hx hb dX9_word_36 rfl (lv_at hl 2 rfl) ?_
        refine lv_iload_n hx hb dX9_word_37 rfl (lv_at hl 3 rfl) ?_
        refine x_if_ne (tgt := 45) hx hb (by omega) dX9_word_38 (by decide) (fun c21 => ?_) (fun c21 => ?_)
        · refine lv_iconst (v := jI 0) hx hb dX9_word_45 rfl ?_
          refine x_zast hx hb hK.1 hw hS (by first | exact Int.le_refl 0 | omega) (by first | exact zlt hc42 | omega) ar_42 (len_E ar_42 (by first | exact Nat.ne_of_beq_eq_false rfl | decide)) (by omega) (by omega) (by omega) (by omega) (by omega) dX9_word_46 (fun H locs hw hS => ?_)
          obtain ⟨X22, hX22⟩ : ∃ Xq, Xq = u3 X1 42 0 w 0 := ⟨_, rfl⟩
          rw [← hX22] at hw
          have hRX22 : Rng X22 := by rw [hX22]; exact rng_set hRX1 (show 0 ≤ 0 ∧ 0 ≤ 1 by omega)
          have hVX22 : X22 42 0 w = 0 := by rw [hX22]; exact u3_s _ _ _ _ _
          have hFX22 : Frm [4001, 4200] X X22 := by rw [hX22]; exact Frm.set hFX1 (show 4200 ∈ [4001, 4200] by first | exact nlm_in rfl | decide)
          refine lv_iload_n hx hb dX9_word_47 rfl (lv_at hl 0 rfl) ?_
          refine x_if_eqF (tgt := 55) hx hb (by omega) (by decide) dX9_word_48 (by decide) ?_
          refine lv_iconst (v := jI 1) hx hb dX9_word_51 rfl ?_
          refine lv_goto (tgt := 56) hx hb dX9_word_52 (by decide) ?_
          rw [hQ9]
          refine ret_i (mc := 0) (ms := 0) hx hb hr hlocks hw hS (by first | exact Nat.le_of_ble_eq_true rfl | omega) (by first | exact Nat.le_of_ble_eq_true rfl | omega) dX9_word_56 ?_
          have hMq23 : MInv X22 := minv_frm hMI hFX22 (by decide)
          have e26 : X22 42 0 w = 0 := (by exact hVX22)
          exact ⟨X22, rfl, hRX22, hFX22, hMq23, by omega, (by (try delta Hid at *); first | exact Or.inl ⟨by omega, by omega, by omega, by omega⟩ | omega), fun y hy => (by rw [hX22, u3_j _ _ _ _ hy, hX1, u3_k _ _ _ _ (by first | exact Nat.ne_of_beq_eq_false rfl | decide)])⟩
        · refine lv_iconst (v := jI 1) hx hb dX9_word_41 rfl ?_
          refine lv_goto (tgt := 46) hx hb dX9_word_42 (by decide) ?_
          refine x_zast hx hb hK.1 hw hS (by first | exact Int.le_refl 0 | omega) (by first | exact zlt hc42 | omega) ar_42 (len_E ar_42 (by first | exact Nat.ne_of_beq_eq_false rfl | decide)) (by omega) (by omega) (by omega) (by omega) (by omega) dX9_word_46 (fun H locs hw hS => ?_)
          obtain ⟨X27, hX27⟩ : ∃ Xq, Xq = u3 X1 42 0 w 1 := ⟨_, rfl⟩
          rw [← hX27] at hw
          have hRX27 : Rng X27 := by rw [hX27]; exact rng_set hRX1 (show 0 ≤ 1 ∧ 1 ≤ 1 by omega)
          have hVX27 : X27 42 0 w = 1 := by rw [hX27]; exact u3_s _ _ _ _ _
          have hFX27 : Frm [4001, 4200] X X27 := by rw [hX27]; exact Frm.set hFX1 (show 4200 ∈ [4001, 4200] by first | exact nlm_in rfl | decide)
          refine lv_iload_n hx hb dX9_word_47 rfl (lv_at hl 0 rfl) ?_
          refine x_if_eqF (tgt := 55) hx hb (by omega) (by decide) dX9_word_48 (by decide) ?_
          refine lv_iconst (v := jI 1) hx hb dX9_word_51 rfl ?_
          refine lv_goto (tgt := 56) hx hb dX9_word_52 (by decide) ?_
          rw [hQ9]
          refine ret_i (mc := 0) (ms := 0) hx hb hr hlocks hw hS (by first | exact Nat.le_of_ble_eq_true rfl | omega) (by first | exact Nat.le_of_ble_eq_true rfl | omega) dX9_word_56 ?_
          have hMq28 : MInv X27 := minv_frm hMI hFX27 (by decide)
          have e31 : X27 42 0 w = 1 := (by exact hVX27)
          exact ⟨X27, rfl, hRX27, hFX27, hMq28, by omega, (by (try delta Hid at *); first | exact Or.inl ⟨by omega, by omega, by omega, by omega⟩ | omega), fun y hy => (by rw [hX27, u3_j _ _ _ _ hy, hX1, u3_k _ _ _ _ (by first | exact Nat.ne_of_beq_eq_false rfl | decide)])⟩
    · refine lv_iconst (v := jI (-1)) hx hb dX9_word_15 rfl ?_
      rw [hQ9]
      refine ret_i (mc := 0) (ms := 0) hx hb hr hlocks hw hS (by first | exact Nat.le_of_ble_eq_true rfl | omega) (by first | exact Nat.le_of_ble_eq_true rfl | omega) dX9_word_16 ?_
      have hMq32 : MInv X1 := minv_frm hMI q900009 (by decide)
      have e34 : X1 42 0 w = X 42 0 w := (by rw [hX1, u3_k _ _ _ _ (by first | exact Nat.ne_of_beq_eq_false rfl | decide)])
      exact ⟨X1, rfl, hRX1, hFX1, hMq32, by omega, (by (try delta Hid at *); first | exact Or.inr ((⟨(fun q => by omega), by omega, by omega⟩)) | exact Or.inl ⟨by omega, by omega, by omega, by omega⟩ | omega), fun y hy => (by rw [hX1, u3_k _ _ _ _ (by first | exact Nat.ne_of_beq_eq_false rfl | decide)])⟩

set_option maxHeartbeats 4000000 in
set_option maxRecDepth 100000 in
theorem c_X9_told (l : Launch) (D : va_G) (tc : Nat → ClassId) (base : Nat) (ad : Nat → Int → Nat) (cnt : Nat → Int) (X : Nat → Int → Int → Int) (Y : Nat → Int → Int → Option Int) (ln : Int → Int) (hR : Rng X) (hFx : Fx cnt) (hMI : MInv X) (x what : Int) (hx : -2147483648 ≤ x ∧ x ≤ 2147483647) (hwhat : -2147483648 ≤ what ∧ what ≤ 2147483647) : KI l D tc base yX9_told wsX9_told ({ frames := 1, cells := 0, slots := 0, locals := 21 } : Room) [.ref (ad 40 0), .int (jI x), .int (jI what)] (ad, cnt, X, Y, ln) 0 0 (fun z u => ∃ X1 : Nat → Int → Int → Int, u = (ad, cnt, X1, Y, ln) ∧ Rng X1 ∧ Frm [4001] X X1 ∧ MInv X1 ∧ (-2147483648 ≤ z ∧ z ≤ 2147483647) ∧ ((¬ (0 ≤ x ∧ x < X 40 0 13) ∧ z = -1) ∨ ((0 ≤ x ∧ x < X 40 0 13) ∧ what = 0 ∧ z = X 55 0 x) ∨ ((0 ≤ x ∧ x < X 40 0 13) ∧ what = 1 ∧ z = X 44 0 (X 55 0 x)) ∨ ((0 ≤ x ∧ x < X 40 0 13) ∧ what ≠ 0 ∧ what ≠ 1 ∧ z = -2))) := by
  refine K_of (cc := cX9_told) (maxL := 3) (ret := (some .int)) (by decide) rfl (Nat.le_of_ble_eq_true rfl) ?_
  intro p e s m below meth c ls hx hb hr hml hown hts hlocks hl hK hw hS
  have hown : s.vm.findClass RX9 = some m.cls := hown
  obtain ⟨av9, hav9⟩ : ∃ a9 : Array Value, a9 = ([.ref (ad 40 0), .int (jI x), .int (jI what)] : List Value).toArray := ⟨_, rfl⟩
  rw [← hav9] at hts ⊢
  obtain ⟨Q9, hQ9⟩ : ∃ q9Q : State → Prop, q9Q = MQ below (QI D tc base (fun z u => ∃ X1 : Nat → Int → Int → Int, u = (ad, cnt, X1, Y, ln) ∧ Rng X1 ∧ Frm [4001] X X1 ∧ MInv X1 ∧ (-2147483648 ≤ z ∧ z ≤ 2147483647) ∧ ((¬ (0 ≤ x ∧ x < X 40 0 13) ∧ z = -1) ∨ ((0 ≤ x ∧ x < X 40 0 13) ∧ what = 0 ∧ z = X 55 0 x) ∨ ((0 ≤ x ∧ x < X 40 0 13) ∧ what = 1 ∧ z = X 44 0 (X 55 0 x)) ∨ ((0 ≤ x ∧ x < X 40 0 13) ∧ what ≠ 0 ∧ what ≠ 1 ∧ z = -2)))) av9 s 0 0 (frA base) := ⟨_, rfl⟩
  rw [← hQ9]
  have hi9 : ∀ w ∈ wsX90, w ∈ wsX9_told := fun w h => List.mem_cons_of_mem _ (List.mem_append_right _ h)
  have hf9 : fctx s m _ RX9 wsX9_told D tc RX9 TX9 51 9 := ⟨hts, hi9, hown, hK.1, rfl⟩
  have lk13 := hts (.fieldLink RX9 13 (TX9 3).1 (TX9 3).2.1 (TX9 3).2.2.1) (gj_X9_told_0 _ (gp_1 (gp_1 gp_h)))
  have lk45 := hts (.fieldLink RX9 45 (TX9 14).1 (TX9 14).2.1 (TX9 14).2.2.1) (gj_X9_told_0 _ (gp_1 gp_h))
  have lk145 := hts (.fieldLink RX9 145 (TX9 0).1 (TX9 0).2.1 (TX9 0).2.2.1) (gj_X9_told_0 _ (gp_h))
  have hc40 : cnt 40 = 1 := hFx.at 40 1 (by decide)
  have hc44 : cnt 44 = 1 := hFx.at 44 1 (by decide)
  have hc55 : cnt 55 = 1 := hFx.at 55 1 (by decide)
  have hl : lv_has ls 3 [(0, .ref (ad 40 0)), (1, .int (jI x)), (2, .int (jI what))] := hl
  have fstypes : 0 ≤ X 40 0 2 ∧ X 40 0 2 ≤ 8 := hR 40 0 2
  have fsthings : 0 ≤ X 40 0 13 ∧ X 40 0 13 ≤ 30 := hR 40 0 13
  have fsmarks : 0 ≤ X 40 0 20 ∧ X 40 0 20 ≤ 4 := hR 40 0 20
  have fsnotes : 0 ≤ X 40 0 22 ∧ X 40 0 22 ≤ 80 := hR 40 0 22
  refine lv_aload_n hx hb dX9_told_0 rfl (lv_at hl 0 rfl) ?_
  refine lv_iconst (v := jI 0) hx hb dX9_told_1 rfl ?_
  refine x_puti (jz := 0) hx hb hf9 ⟨tyX9_ok, nmX9⟩ hw hS (by first | exact Int.le_refl 0 | omega) (by first | exact zlt hc40 | omega) sl_40_0 rfl lk145 rfl (tyX9_ok 0 (by decide)) rfl rfl dX9_told_2 (fun H locs hw hS => ?_)
  obtain ⟨X1, hX1⟩ : ∃ Xq, Xq = u3 X 40 0 0 0 := ⟨_, rfl⟩
  rw [← hX1] at hw
  have hRX1 : Rng X1 := by rw [hX1]; exact rng_set hR (show (-2147483648) ≤ 0 ∧ 0 ≤ 2147483647 by omega)
  have hVX1 : X1 40 0 0 = 0 := by rw [hX1]; exact u3_s _ _ _ _ _
  have hFX1 : Frm [4001] X X1 := by rw [hX1]; exact Frm.set Frm.rf (show 4001 ∈ [4001] by first | exact nlm_in rfl | decide)
  refine lv_aload_n hx hb dX9_told_5 rfl (lv_at hl 0 rfl) ?_
  refine lv_iload_n hx hb dX9_told_6 rfl (lv_at hl 1 rfl) ?_
  refine gos_i (run_V (As := [.int (jI x)]) (rest := []) hx hb hml hown hts (c_X9_isThing l D tc base ad cnt X1 Y ln hRX1 hFx x (by omega)) (cwV 1 hts gX9_told_X9_isThing rfl rfl rfl (by first | exact hd_X9_isThing | decide +kernel) ⟨Nat.le_of_ble_eq_true rfl, Nat.le_of_ble_eq_true rfl⟩) hK hw (by first | exact Int.le_refl 0 | omega) (by first | exact zlt hc40 | omega) sl_40_0 rfl rfl hl.1 rfl (Nat.le_of_ble_eq_true rfl) dX9_told_7 ⟨Nat.le_of_ble_eq_true rfl, Nat.le_of_ble_eq_true rfl⟩) hS (fun z2 u3 H locs p4 hw hS => ?_)
  obtain ⟨eu3, p4⟩ := p4
  subst eu3
  have e5 : X1 40 0 13 = X 40 0 13 := by rw [hX1, u3_j _ _ _ _ (by decide)]
  simp only [e5] at p4
  have q900012 : Frm [4001] X X1 := by rw [hX1]; exact Frm.set Frm.rf (show 4001 ∈ [4001] by first | exact nlm_in rfl | decide)
  rcases p4 with ⟨ez2, p4⟩ | ⟨ez2, p4⟩
  · subst ez2
    refine x_if_neT (tgt := 15) hx hb (by omega) (by decide) dX9_told_10 (by decide) ?_
    refine lv_iload_n hx hb dX9_told_15 rfl (lv_at hl 2 rfl) ?_
    refine x_if_ne (tgt := 28) hx hb (by omega) dX9_told_16 (by decide) (fun c6 => ?_) (fun c6 => ?_)
    · refine lv_iload_n hx hb dX9_told_28 rfl (lv_at hl 2 rfl) ?_
      refine lv_iconst (v := jI 1) hx hb dX9_told_29 rfl ?_
      refine x_icmp_ne (tgt := 47) hx hb (by omega) (by omega) dX9_told_30 (by decide) (fun c7 => ?_) (fun c7 => ?_)
      · refine lv_bipush (v := jI (-2)) hx hb dX9_told_47 (by decide) ?_
        rw [hQ9]
        refine ret_i (mc := 0) (ms := 0) hx hb hr hlocks hw hS (by first | exact Nat.le_of_ble_eq_true rfl | omega) (by first | exact Nat.le_of_ble_eq_true rfl | omega) dX9_told_49 ?_
        have q9 : Frm [4001] X X1 := by rw [hX1]; exact Frm.set Frm.rf (show 4001 ∈ [4001] by first | exact nlm_in rfl | decide)
        have hMq8 : MInv X1 := minv_frm hMI q9 (by decide)
        exact ⟨X1, rfl, hRX1, hFX1, hMq8, by omega, (by (try delta Hid at *); first | exact Or.inr (Or.inr (Or.inr (⟨(by omega), by omega, by omega, by omega⟩))) | exact Or.inr (Or.inl ⟨(by omega), by omega, by omega⟩) | exact Or.inr (Or.inr (Or.inl ⟨(by omega), by omega, by omega⟩)))⟩
      · refine lv_aload_n hx hb dX9_told_33 rfl (lv_at hl 0 rfl) ?_
        refine x_geto hx hb hf9 hw (by first | exact Int.le_refl 0 | omega) (by first | exact zlt hc40 | omega) sl_40_3 lk13 dX9_told_34 ?_
        refine lv_aload_n hx hb dX9_told_37 rfl (lv_at hl 0 rfl) ?_
        refine x_geto hx hb hf9 hw (by first | exact Int.le_refl 0 | omega) (by first | exact zlt hc40 | omega) sl_40_14 lk45 dX9_told_38 ?_
        refine lv_iload_n hx hb dX9_told_41 rfl (lv_at hl 1 rfl) ?_
        refine x_iald hx hb hK.1 hw (by first | exact Int.le_refl 0 | omega) (by first | exact zlt hc55 | omega) ar_55 (len_E ar_55 (by first | exact Nat.ne_of_beq_eq_false rfl | decide)) (by omega) (by omega) (by omega) dX9_told_42 ?_
        have e10 : ∀ p9 q9 : Int, X1 55 p9 q9 = X 55 p9 q9 := fun p9 q9 => by rw [hX1, u3_k _ _ _ _ (by first | exact Nat.ne_of_beq_eq_false rfl | decide)]
        rw [e10 0 x]
        have f11 : 0 ≤ X 55 0 x ∧ X 55 0 x ≤ 7 := hR 55 0 x
        refine x_iald hx hb hK.1 hw (by first | exact Int.le_refl 0 | omega) (by first | exact zlt hc44 | omega) ar_44 (len_E ar_44 (by first | exact Nat.ne_of_beq_eq_false rfl | decide)) (by omega) (by omega) (by omega) dX9_told_43 ?_
        have e12 : ∀ p9 q9 : Int, X1 44 p9 q9 = X 44 p9 q9 := fun p9 q9 => by rw [hX1, u3_k _ _ _ _ (by first | exact Nat.ne_of_beq_eq_false rfl | decide)]
        rw [e12 0 (X 55 0 x)]
        have f13 : 0 ≤ X 44 0 (X 55 0 x) ∧ X 44 0 (X 55 0 x) ≤ 5 := hR 44 0 (X 55 0 x)
        refine lv_goto (tgt := 49) hx hb dX9_told_44 (by decide) ?_
        rw [hQ9]
        refine ret_i (mc := 0) (ms := 0) hx hb hr hlocks hw hS (by first | exact Nat.le_of_ble_eq_true rfl | omega) (by first | exact Nat.le_of_ble_eq_true rfl | omega) dX9_told_49 ?_
        have q15 : Frm [4001] X X1 := by rw [hX1]; exact Frm.set Frm.rf (show 4001 ∈ [4001] by first | exact nlm_in rfl | decide)
        have hMq14 : MInv X1 := minv_frm hMI q15 (by decide)
        exact ⟨X1, rfl, hRX1, hFX1, hMq14, by omega, (by (try delta Hid at *); first | exact Or.inr (Or.inr (Or.inl ⟨(by omega), by omega, by omega⟩)) | exact Or.inr (Or.inl ⟨(by omega), by omega, by omega⟩) | exact Or.inl ⟨(fun q => by omega), by omega⟩ | exact Or.inr (Or.inr (Or.inr (⟨(by omega), by omega, by omega, by omega⟩))))⟩
    · refine lv_aload_n hx hb dX9_told_19 rfl (lv_at hl 0 rfl) ?_
      refine x_geto hx hb hf9 hw (by first | exact Int.le_refl 0 | omega) (by first | exact zlt hc40 | omega) sl_40_14 lk45 dX9_told_20 ?_
      refine lv_iload_n hx hb dX9_told_23 rfl (lv_at hl 1 rfl) ?_
      refine x_iald hx hb hK.1 hw (by first | exact Int.le_refl 0 | omega) (by first | exact zlt hc55 | omega) ar_55 (len_E ar_55 (by first | exact Nat.ne_of_beq_eq_false rfl | decide)) (by omega) (by omega) (by omega) dX9_told_24 ?_
      have e16 : ∀ p9 q9 : Int, X1 55 p9 q9 = X 55 p9 q9 := fun p9 q9 => by rw [hX1, u3_k _ _ _ _ (by first | exact Nat.ne_of_beq_eq_false rfl | decide)]
      rw [e16 0 x]
      have f17 : 0 ≤ X 55 0 x ∧ X 55 0 x ≤ 7 := hR 55 0 x
      refine lv_goto (tgt := 49) hx hb dX9_told_25 (by decide) ?_
      rw [hQ9]
      refine ret_i (mc := 0) (ms := 0) hx hb hr hlocks hw hS (by first | exact Nat.le_of_ble_eq_true rfl | omega) (by first | exact Nat.le_of_ble_eq_true rfl | omega) dX9_told_49 ?_
      have q19 : Frm [4001] X X1 := by rw [hX1]; exact Frm.set Frm.rf (show 4001 ∈ [4001] by first | exact nlm_in rfl | decide)
      have hMq18 : MInv X1 := minv_frm hMI q19 (by decide)
      exact ⟨X1, rfl, hRX1, hFX1, hMq18, by omega, (by (try delta Hid at *); first | exact Or.inr (Or.inl ⟨(by omega), by omega, by omega⟩) | exact Or.inr (Or.inr (Or.inl ⟨(by omega), by omega, by omega⟩)) | exact Or.inl ⟨(fun q => by omega), by omega⟩ | exact Or.inr (Or.inr (Or.inr (⟨(by omega), by omega, by omega, by omega⟩))))⟩
  · subst ez2
    refine x_if_neF (tgt := 15) hx hb (by omega) (by decide) dX9_told_10 (by decide) ?_
    refine lv_iconst (v := jI (-1)) hx hb dX9_told_13 rfl ?_
    rw [hQ9]
    refine ret_i (mc := 0) (ms := 0) hx hb hr hlocks hw hS (by first | exact Nat.le_of_ble_eq_true rfl | omega) (by first | exact Nat.le_of_ble_eq_true rfl | omega) dX9_told_14 ?_
    have hMq20 : MInv X1 := minv_frm hMI q900012 (by decide)
    exact ⟨X1, rfl, hRX1, hFX1, hMq20, by omega, (by (try delta Hid at *); first | exact Or.inl ⟨(fun q => by omega), by omega⟩ | exact Or.inr (Or.inl ⟨(by omega), by omega, by omega⟩) | exact Or.inr (Or.inr (Or.inl ⟨(by omega), by omega, by omega⟩)))⟩

set_option maxHeartbeats 4000000 in
set_option maxRecDepth 100000 in
theorem c_X9_fault (l : Launch) (D : va_G) (tc : Nat → ClassId) (base : Nat) (ad : Nat → Int → Nat) (cnt : Nat → Int) (X : Nat → Int → Int → Int) (Y : Nat → Int → Int → Option Int) (ln : Int → Int) (hR : Rng X) (hFx : Fx cnt) (hMI : MInv X) (what : Int) (hwhat : -2147483648 ≤ what ∧ what ≤ 2147483647) : KI l D tc base yX9_fault wsX9_fault ({ frames := 0, cells := 0, slots := 0, locals := 0 } : Room) [.ref (ad 40 0), .int (jI what)] (ad, cnt, X, Y, ln) 0 0 (fun z u => ∃ X1 : Nat → Int → Int → Int, u = (ad, cnt, X1, Y, ln) ∧ Rng X1 ∧ Frm [4001] X X1 ∧ MInv X1 ∧ (-2147483648 ≤ z ∧ z ≤ 2147483647)) := by
  refine K_of (cc := cX9_fault) (maxL := 2) (ret := (some .int)) (by decide) rfl (Nat.le_of_ble_eq_true rfl) ?_
  intro p e s m below meth c ls hx hb hr hml hown hts hlocks hl hK hw hS
  have hown : s.vm.findClass RX9 = some m.cls := hown
  obtain ⟨av9, hav9⟩ : ∃ a9 : Array Value, a9 = ([.ref (ad 40 0), .int (jI what)] : List Value).toArray := ⟨_, rfl⟩
  rw [← hav9] at hts ⊢
  obtain ⟨Q9, hQ9⟩ : ∃ q9Q : State → Prop, q9Q = MQ below (QI D tc base (fun z u => ∃ X1 : Nat → Int → Int → Int, u = (ad, cnt, X1, Y, ln) ∧ Rng X1 ∧ Frm [4001] X X1 ∧ MInv X1 ∧ (-2147483648 ≤ z ∧ z ≤ 2147483647))) av9 s 0 0 (frA base) := ⟨_, rfl⟩
  rw [← hQ9]
  have hi9 : ∀ w ∈ wsX90, w ∈ wsX9_fault := fun w h => List.mem_cons_of_mem _ (List.mem_append_right _ h)
  have hf9 : fctx s m _ RX9 wsX9_fault D tc RX9 TX9 51 9 := ⟨hts, hi9, hown, hK.1, rfl⟩
  have lk117 := hts (.fieldLink RX9 117 (TX9 41).1 (TX9 41).2.1 (TX9 41).2.2.1) (gj_X9_fault_0 _ (gp_1 gp_h))
  have lk121 := hts (.fieldLink RX9 121 (TX9 42).1 (TX9 42).2.1 (TX9 42).2.2.1) (gj_X9_fault_0 _ (gp_1 (gp_1 gp_h)))
  have lk124 := hts (.fieldLink RX9 124 (TX9 43).1 (TX9 43).2.1 (TX9 43).2.2.1) (gj_X9_fault_0 _ (gp_1 (gp_1 (gp_1 gp_h))))
  have lk145 := hts (.fieldLink RX9 145 (TX9 0).1 (TX9 0).2.1 (TX9 0).2.2.1) (gj_X9_fault_0 _ (gp_h))
  have hc40 : cnt 40 = 1 := hFx.at 40 1 (by decide)
  have hl : lv_has ls 2 [(0, .ref (ad 40 0)), (1, .int (jI what))] := hl
  have fstypes : 0 ≤ X 40 0 2 ∧ X 40 0 2 ≤ 8 := hR 40 0 2
  have fsthings : 0 ≤ X 40 0 13 ∧ X 40 0 13 ≤ 30 := hR 40 0 13
  have fsmarks : 0 ≤ X 40 0 20 ∧ X 40 0 20 ≤ 4 := hR 40 0 20
  have fsnotes : 0 ≤ X 40 0 22 ∧ X 40 0 22 ≤ 80 := hR 40 0 22
  refine lv_aload_n hx hb dX9_fault_0 rfl (lv_at hl 0 rfl) ?_
  refine lv_iconst (v := jI 0) hx hb dX9_fault_1 rfl ?_
  refine x_puti (jz := 0) hx hb hf9 ⟨tyX9_ok, nmX9⟩ hw hS (by first | exact Int.le_refl 0 | omega) (by first | exact zlt hc40 | omega) sl_40_0 rfl lk145 rfl (tyX9_ok 0 (by decide)) rfl rfl dX9_fault_2 (fun H locs hw hS => ?_)
  obtain ⟨X1, hX1⟩ : ∃ Xq, Xq = u3 X 40 0 0 0 := ⟨_, rfl⟩
  rw [← hX1] at hw
  have hRX1 : Rng X1 := by rw [hX1]; exact rng_set hR (show (-2147483648) ≤ 0 ∧ 0 ≤ 2147483647 by omega)
  have hVX1 : X1 40 0 0 = 0 := by rw [hX1]; exact u3_s _ _ _ _ _
  have hFX1 : Frm [4001] X X1 := by rw [hX1]; exact Frm.set Frm.rf (show 4001 ∈ [4001] by first | exact nlm_in rfl | decide)
  refine lv_iload_n hx hb dX9_fault_5 rfl (lv_at hl 1 rfl) ?_
  have q900015 : Frm [4001] X X1 := by rw [hX1]; exact Frm.set Frm.rf (show 4001 ∈ [4001] by first | exact nlm_in rfl | decide)
  refine x_if_ne (tgt := 16) hx hb (by omega) dX9_fault_6 (by decide) (fun c2 => ?_) (fun c2 => ?_)
  · refine lv_iload_n hx hb dX9_fault_16 rfl (lv_at hl 1 rfl) ?_
    refine lv_iconst (v := jI 1) hx hb dX9_fault_17 rfl ?_
    refine x_icmp_ne (tgt := 28) hx hb (by omega) (by omega) dX9_fault_18 (by decide) (fun c3 => ?_) (fun c3 => ?_)
    · refine lv_iload_n hx hb dX9_fault_28 rfl (lv_at hl 1 rfl) ?_
      refine lv_iconst (v := jI 2) hx hb dX9_fault_29 rfl ?_
      refine x_icmp_ne (tgt := 40) hx hb (by omega) (by omega) dX9_fault_30 (by decide) (fun c4 => ?_) (fun c4 => ?_)
      · refine lv_bipush (v := jI (-2)) hx hb dX9_fault_40 (by decide) ?_
        rw [hQ9]
        refine ret_i (mc := 0) (ms := 0) hx hb hr hlocks hw hS (by first | exact Nat.le_of_ble_eq_true rfl | omega) (by first | exact Nat.le_of_ble_eq_true rfl | omega) dX9_fault_42 ?_
        have q6 : Frm [4001] X X1 := by rw [hX1]; exact Frm.set Frm.rf (show 4001 ∈ [4001] by first | exact nlm_in rfl | decide)
        have hMq5 : MInv X1 := minv_frm hMI q6 (by decide)
        exact ⟨X1, rfl, hRX1, hFX1, hMq5, by omega⟩
      · refine lv_aload_n hx hb dX9_fault_33 rfl (lv_at hl 0 rfl) ?_
        refine x_geti (jz := 43) hx hb hf9 hw (by first | exact Int.le_refl 0 | omega) (by first | exact zlt hc40 | omega) sl_40_43 rfl lk124 dX9_fault_34 ?_
        have e7 : X1 40 0 43 = X 40 0 43 := by rw [hX1, u3_j _ _ _ _ (by decide)]
        rw [e7]
        have f8 : (-2147483648) ≤ X 40 0 43 ∧ X 40 0 43 ≤ 2147483647 := hR 40 0 43
        refine lv_goto (tgt := 42) hx hb dX9_fault_37 (by decide) ?_
        rw [hQ9]
        refine ret_i (mc := 0) (ms := 0) hx hb hr hlocks hw hS (by first | exact Nat.le_of_ble_eq_true rfl | omega) (by first | exact Nat.le_of_ble_eq_true rfl | omega) dX9_fault_42 ?_
        have q10 : Frm [4001] X X1 := by rw [hX1]; exact Frm.set Frm.rf (show 4001 ∈ [4001] by first | exact nlm_in rfl | decide)
        have hMq9 : MInv X1 := minv_frm hMI q10 (by decide)
        exact ⟨X1, rfl, hRX1, hFX1, hMq9, by omega⟩
    · refine lv_aload_n hx hb dX9_fault_21 rfl (lv_at hl 0 rfl) ?_
      refine x_geti (jz := 42) hx hb hf9 hw (by first | exact Int.le_refl 0 | omega) (by first | exact zlt hc40 | omega) sl_40_42 rfl lk121 dX9_fault_22 ?_
      have e11 : X1 40 0 42 = X 40 0 42 := by rw [hX1, u3_j _ _ _ _ (by decide)]
      rw [e11]
      have f12 : (-2147483648) ≤ X 40 0 42 ∧ X 40 0 42 ≤ 2147483647 := hR 40 0 42
      refine lv_goto (tgt := 42) hx hb dX9_fault_25 (by decide) ?_
      rw [hQ9]
      refine ret_i (mc := 0) (ms := 0) hx hb hr hlocks hw hS (by first | exact Nat.le_of_ble_eq_true rfl | omega) (by first | exact Nat.le_of_ble_eq_true rfl | omega) dX9_fault_42 ?_
      have q14 : Frm [4001] X X1 := by rw [hX1]; exact Frm.set Frm.rf (show 4001 ∈ [4001] by first | exact nlm_in rfl | decide)
      have hMq13 : MInv X1 := minv_frm hMI q14 (by decide)
      exact ⟨X1, rfl, hRX1, hFX1, hMq13, by omega⟩
  · refine lv_aload_n hx hb dX9_fault_9 rfl (lv_at hl 0 rfl) ?_
    refine x_geti (jz := 41) hx hb hf9 hw (by first | exact Int.le_refl 0 | omega) (by first | exact zlt hc40 | omega) sl_40_41 rfl lk117 dX9_fault_10 ?_
    have e15 : X1 40 0 41 = X 40 0 41 := by rw [hX1, u3_j _ _ _ _ (by decide)]
    rw [e15]
    have f16 : (-2147483648) ≤ X 40 0 41 ∧ X 40 0 41 ≤ 2147483647 := hR 40 0 41
    refine lv_goto (tgt := 42) hx hb dX9_fault_13 (by decide) ?_
    rw [hQ9]
    refine ret_i (mc := 0) (ms := 0) hx hb hr hlocks hw hS (by first | exact Nat.le_of_ble_eq_true rfl | omega) (by first | exact Nat.le_of_ble_eq_true rfl | omega) dX9_fault_42 ?_
    have q18 : Frm [4001] X X1 := by rw [hX1]; exact Frm.set Frm.rf (show 4001 ∈ [4001] by first | exact nlm_in rfl | decide)
    have hMq17 : MInv X1 := minv_frm hMI q18 (by decide)
    exact ⟨X1, rfl, hRX1, hFX1, hMq17, by omega⟩

set_option maxHeartbeats 4000000 in
set_option maxRecDepth 100000 in
theorem c_X9_count (l : Launch) (D : va_G) (tc : Nat → ClassId) (base : Nat) (ad : Nat → Int → Nat) (cnt : Nat → Int) (X : Nat → Int → Int → Int) (Y : Nat → Int → Int → Option Int) (ln : Int → Int) (hR : Rng X) (hFx : Fx cnt) (hMI : MInv X) (what : Int) (hwhat : -2147483648 ≤ what ∧ what ≤ 2147483647) : KI l D tc base yX9_count wsX9_count ({ frames := 0, cells := 0, slots := 0, locals := 0 } : Room) [.ref (ad 40 0), .int (jI what)] (ad, cnt, X, Y, ln) 0 0 (fun z u => ∃ X1 : Nat → Int → Int → Int, u = (ad, cnt, X1, Y, ln) ∧ Rng X1 ∧ Frm [4001] X X1 ∧ MInv X1 ∧ (-2147483648 ≤ z ∧ z ≤ 2147483647) ∧ ((what = 0 ∧ z = X 40 0 2) ∨ (what = 1 ∧ z = X 40 0 13) ∨ (what = 2 ∧ z = X 40 0 20) ∨ (what = 3 ∧ z = X 40 0 22) ∨ (¬ (0 ≤ what ∧ what ≤ 3) ∧ z = -2))) := by
  refine K_of (cc := cX9_count) (maxL := 2) (ret := (some .int)) (by decide) rfl (Nat.le_of_ble_eq_true rfl) ?_
  intro p e s m below meth c ls hx hb hr hml hown hts hlocks hl hK hw hS
  have hown : s.vm.findClass RX9 = some m.cls := hown
  obtain ⟨av9, hav9⟩ : ∃ a9 : Array Value, a9 = ([.ref (ad 40 0), .int (jI what)] : List Value).toArray := ⟨_, rfl⟩
  rw [← hav9] at hts ⊢
  obtain ⟨Q9, hQ9⟩ : ∃ q9Q : State → Prop, q9Q = MQ below (QI D tc base (fun z u => ∃ X1 : Nat → Int → Int → Int, u = (ad, cnt, X1, Y, ln) ∧ Rng X1 ∧ Frm [4001] X X1 ∧ MInv X1 ∧ (-2147483648 ≤ z ∧ z ≤ 2147483647) ∧ ((what = 0 ∧ z = X 40 0 2) ∨ (what = 1 ∧ z = X 40 0 13) ∨ (what = 2 ∧ z = X 40 0 20) ∨ (what = 3 ∧ z = X 40 0 22) ∨ (¬ (0 ≤ what ∧ what ≤ 3) ∧ z = -2)))) av9 s 0 0 (frA base) := ⟨_, rfl⟩
  rw [← hQ9]
  have hi9 : ∀ w ∈ wsX90, w ∈ wsX9_count := fun w h => List.mem_cons_of_mem _ (List.mem_append_right _ h)
  have hf9 : fctx s m _ RX9 wsX9_count D tc RX9 TX9 51 9 := ⟨hts, hi9, hown, hK.1, rfl⟩
  have lk145 := hts (.fieldLink RX9 145 (TX9 0).1 (TX9 0).2.1 (TX9 0).2.2.1) (gj_X9_count_0 _ (gp_h))
  have lk148 := hts (.fieldLink RX9 148 (TX9 2).1 (TX9 2).2.1 (TX9 2).2.2.1) (gj_X9_count_0 _ (gp_1 gp_h))
  have lk151 := hts (.fieldLink RX9 151 (TX9 13).1 (TX9 13).2.1 (TX9 13).2.2.1) (gj_X9_count_0 _ (gp_1 (gp_1 gp_h)))
  have lk165 := hts (.fieldLink RX9 165 (TX9 20).1 (TX9 20).2.1 (TX9 20).2.2.1) (gj_X9_count_0 _ (gp_1 (gp_1 (gp_1 gp_h))))
  have lk173 := hts (.fieldLink RX9 173 (TX9 22).1 (TX9 22).2.1 (TX9 22).2.2.1) (gj_X9_count_0 _ (gp_4 gp_h))
  have hc40 : cnt 40 = 1 := hFx.at 40 1 (by decide)
  have hl : lv_has ls 2 [(0, .ref (ad 40 0)), (1, .int (jI what))] := hl
  have fstypes : 0 ≤ X 40 0 2 ∧ X 40 0 2 ≤ 8 := hR 40 0 2
  have fsthings : 0 ≤ X 40 0 13 ∧ X 40 0 13 ≤ 30 := hR 40 0 13
  have fsmarks : 0 ≤ X 40 0 20 ∧ X 40 0 20 ≤ 4 := hR 40 0 20
  have fsnotes : 0 ≤ X 40 0 22 ∧ X 40 0 22 ≤ 80 := hR 40 0 22
  refine lv_aload_n hx hb dX9_count_0 rfl (lv_at hl 0 rfl) ?_
  refine lv_iconst (v := jI 0) hx hb dX9_count_1 rfl ?_
  refine x_puti (jz := 0) hx hb hf9 ⟨tyX9_ok, nmX9⟩ hw hS (by first | exact Int.le_refl 0 | omega) (by first | exact zlt hc40 | omega) sl_40_0 rfl lk145 rfl (tyX9_ok 0 (by decide)) rfl rfl dX9_count_2 (fun H locs hw hS => ?_)
  obtain ⟨X1, hX1⟩ : ∃ Xq, Xq = u3 X 40 0 0 0 := ⟨_, rfl⟩
  rw [← hX1] at hw
  have hRX1 : Rng X1 := by rw [hX1]; exact rng_set hR (show (-2147483648) ≤ 0 ∧ 0 ≤ 2147483647 by omega)
  have hVX1 : X1 40 0 0 = 0 := by rw [hX1]; exact u3_s _ _ _ _ _
  have hFX1 : Frm [4001] X X1 := by rw [hX1]; exact Frm.set Frm.rf (show 4001 ∈ [4001] by first | exact nlm_in rfl | decide)
  refine lv_iload_n hx hb dX9_count_5 rfl (lv_at hl 1 rfl) ?_
  have q900019 : Frm [4001] X X1 := by rw [hX1]; exact Frm.set Frm.rf (show 4001 ∈ [4001] by first | exact nlm_in rfl | decide)
  refine x_if_ne (tgt := 16) hx hb (by omega) dX9_count_6 (by decide) (fun c2 => ?_) (fun c2 => ?_)
  · refine lv_iload_n hx hb dX9_count_16 rfl (lv_at hl 1 rfl) ?_
    refine lv_iconst (v := jI 1) hx hb dX9_count_17 rfl ?_
    refine x_icmp_ne (tgt := 28) hx hb (by omega) (by omega) dX9_count_18 (by decide) (fun c3 => ?_) (fun c3 => ?_)
    · refine lv_iload_n hx hb dX9_count_28 rfl (lv_at hl 1 rfl) ?_
      refine lv_iconst (v := jI 2) hx hb dX9_count_29 rfl ?_
      refine x_icmp_ne (tgt := 40) hx hb (by omega) (by omega) dX9_count_30 (by decide) (fun c4 => ?_) (fun c4 => ?_)
      · refine lv_iload_n hx hb dX9_count_40 rfl (lv_at hl 1 rfl) ?_
        refine lv_iconst (v := jI 3) hx hb dX9_count_41 rfl ?_
        refine x_icmp_ne (tgt := 52) hx hb (by omega) (by omega) dX9_count_42 (by decide) (fun c5 => ?_) (fun c5 => ?_)
        · refine lv_bipush (v := jI (-2)) hx hb dX9_count_52 (by decide) ?_
          rw [hQ9]
          refine ret_i (mc := 0) (ms := 0) hx hb hr hlocks hw hS (by first | exact Nat.le_of_ble_eq_true rfl | omega) (by first | exact Nat.le_of_ble_eq_true rfl | omega) dX9_count_54 ?_
          have q7 : Frm [4001] X X1 := by rw [hX1]; exact Frm.set Frm.rf (show 4001 ∈ [4001] by first | exact nlm_in rfl | decide)
          have hMq6 : MInv X1 := minv_frm hMI q7 (by decide)
          exact ⟨X1, rfl, hRX1, hFX1, hMq6, by omega, (by (try delta Hid at *); first | exact Or.inr (Or.inr (Or.inr (Or.inr (⟨(fun q => by omega), by omega⟩)))) | exact Or.inl ⟨by omega, by omega⟩ | exact Or.inr (Or.inl ⟨by omega, by omega⟩) | exact Or.inr (Or.inr (Or.inl ⟨by omega, by omega⟩)) | exact Or.inr (Or.inr (Or.inr (Or.inl ⟨by omega, by omega⟩))))⟩
        · refine lv_aload_n hx hb dX9_count_45 rfl (lv_at hl 0 rfl) ?_
          refine x_geti (jz := 22) hx hb hf9 hw (by first | exact Int.le_refl 0 | omega) (by first | exact zlt hc40 | omega) sl_40_22 rfl lk173 dX9_count_46 ?_
          have e8 : X1 40 0 22 = X 40 0 22 := by rw [hX1, u3_j _ _ _ _ (by decide)]
          rw [e8]
          have f9 : 0 ≤ X 40 0 22 ∧ X 40 0 22 ≤ 80 := hR 40 0 22
          refine lv_goto (tgt := 54) hx hb dX9_count_49 (by decide) ?_
          rw [hQ9]
          refine ret_i (mc := 0) (ms := 0) hx hb hr hlocks hw hS (by first | exact Nat.le_of_ble_eq_true rfl | omega) (by first | exact Nat.le_of_ble_eq_true rfl | omega) dX9_count_54 ?_
          have q11 : Frm [4001] X X1 := by rw [hX1]; exact Frm.set Frm.rf (show 4001 ∈ [4001] by first | exact nlm_in rfl | decide)
          have hMq10 : MInv X1 := minv_frm hMI q11 (by decide)
          exact ⟨X1, rfl, hRX1, hFX1, hMq10, by omega, (by (try delta Hid at *); first | exact Or.inr (Or.inr (Or.inr (Or.inl ⟨by omega, by omega⟩))) | exact Or.inl ⟨by omega, by omega⟩ | exact Or.inr (Or.inl ⟨by omega, by omega⟩) | exact Or.inr (Or.inr (Or.inl ⟨by omega, by omega⟩)) | exact Or.inr (Or.inr (Or.inr (Or.inr (⟨(fun q => by omega), by omega⟩)))))⟩
      · refine lv_aload_n hx hb dX9_count_33 rfl (lv_at hl 0 rfl) ?_
        refine x_geti (jz := 20) hx hb hf9 hw (by first | exact Int.le_refl 0 | omega) (by first | exact zlt hc40 | omega) sl_40_20 rfl lk165 dX9_count_34 ?_
        have e12 : X1 40 0 20 = X 40 0 20 := by rw [hX1, u3_j _ _ _ _ (by decide)]
        rw [e12]
        have f13 : 0 ≤ X 40 0 20 ∧ X 40 0 20 ≤ 4 := hR 40 0 20
        refine lv_goto (tgt := 54) hx hb dX9_count_37 (by decide) ?_
        rw [hQ9]
        refine ret_i (mc := 0) (ms := 0) hx hb hr hlocks hw hS (by first | exact Nat.le_of_ble_eq_true rfl | omega) (by first | exact Nat.le_of_ble_eq_true rfl | omega) dX9_count_54 ?_
        have q15 : Frm [4001] X X1 := by rw [hX1]; exact Frm.set Frm.rf (show 4001 ∈ [4001] by first | exact nlm_in rfl | decide)
        have hMq14 : MInv X1 := minv_frm hMI q15 (by decide)
        exact ⟨X1, rfl, hRX1, hFX1, hMq14, by omega, (by (try delta Hid at *); first | exact Or.inr (Or.inr (Or.inl ⟨by omega, by omega⟩)) | exact Or.inl ⟨by omega, by omega⟩ | exact Or.inr (Or.inl ⟨by omega, by omega⟩) | exact Or.inr (Or.inr (Or.inr (Or.inl ⟨by omega, by omega⟩))) | exact Or.inr (Or.inr (Or.inr (Or.inr (⟨(fun q => by omega), by omega⟩)))))⟩
    · refine lv_aload_n hx hb dX9_count_21 rfl (lv_at hl 0 rfl) ?_
      refine x_geti (jz := 13) hx hb hf9 hw (by first | exact Int.le_refl 0 | omega) (by first | exact zlt hc40 | omega) sl_40_13 rfl lk151 dX9_count_22 ?_
      have e16 : X1 40 0 13 = X 40 0 13 := by rw [hX1, u3_j _ _ _ _ (by decide)]
      rw [e16]
      have f17 : 0 ≤ X 40 0 13 ∧ X 40 0 13 ≤ 30 := hR 40 0 13
      refine lv_goto (tgt := 54) hx hb dX9_count_25 (by decide) ?_
      rw [hQ9]
      refine ret_i (mc := 0) (ms := 0) hx hb hr hlocks hw hS (by first | exact Nat.le_of_ble_eq_true rfl | omega) (by first | exact Nat.le_of_ble_eq_true rfl | omega) dX9_count_54 ?_
      have q19 : Frm [4001] X X1 := by rw [hX1]; exact Frm.set Frm.rf (show 4001 ∈ [4001] by first | exact nlm_in rfl | decide)
      have hMq18 : MInv X1 := minv_frm hMI q19 (by decide)
      exact ⟨X1, rfl, hRX1, hFX1, hMq18, by omega, (by (try delta Hid at *); first | exact Or.inr (Or.inl ⟨by omega, by omega⟩) | exact Or.inl ⟨by omega, by omega⟩ | exact Or.inr (Or.inr (Or.inl ⟨by omega, by omega⟩)) | exact Or.inr (Or.inr (Or.inr (Or.inl ⟨by omega, by omega⟩))) | exact Or.inr (Or.inr (Or.inr (Or.inr (⟨(fun q => by omega), by omega⟩)))))⟩
  · refine lv_aload_n hx hb dX9_count_9 rfl (lv_at hl 0 rfl) ?_
    refine x_geti (jz := 2) hx hb hf9 hw (by first | exact Int.le_refl 0 | omega) (by first | exact zlt hc40 | omega) sl_40_2 rfl lk148 dX9_count_10 ?_
    have e20 : X1 40 0 2 = X 40 0 2 := by rw [hX1, u3_j _ _ _ _ (by decide)]
    rw [e20]
    have f21 : 0 ≤ X 40 0 2 ∧ X 40 0 2 ≤ 8 := hR 40 0 2
    refine lv_goto (tgt := 54) hx hb dX9_count_13 (by decide) ?_
    rw [hQ9]
    refine ret_i (mc := 0) (ms := 0) hx hb hr hlocks hw hS (by first | exact Nat.le_of_ble_eq_true rfl | omega) (by first | exact Nat.le_of_ble_eq_true rfl | omega) dX9_count_54 ?_
    have hMq22 : MInv X1 := minv_frm hMI q900019 (by decide)
    exact ⟨X1, rfl, hRX1, hFX1, hMq22, by omega, (by (try delta Hid at *); first | exact Or.inl ⟨by omega, by omega⟩ | exact Or.inr (Or.inl ⟨by omega, by omega⟩) | exact Or.inr (Or.inr (Or.inl ⟨by omega, by omega⟩)) | exact Or.inr (Or.inr (Or.inr (Or.inl ⟨by omega, by omega⟩))) | exact Or.inr (Or.inr (Or.inr (Or.inr (⟨(fun q => by omega), by omega⟩)))))⟩

set_option maxHeartbeats 4000000 in
set_option maxRecDepth 100000 in
theorem c_X9_faulty (l : Launch) (D : va_G) (tc : Nat → ClassId) (base : Nat) (ad : Nat → Int → Nat) (cnt : Nat → Int) (X : Nat → Int → Int → Int) (Y : Nat → Int → Int → Option Int) (ln : Int → Int) (hR : Rng X) (hFx : Fx cnt) (hMI : MInv X) (kind r name cq : Int) (hkind : 0 ≤ kind ∧ kind ≤ 10) (hr : -2147483648 ≤ r ∧ r ≤ 2147483647) (hname : -2147483648 ≤ name ∧ name ≤ 2147483647) (hcq : -2147483648 ≤ cq ∧ cq ≤ 2147483647) : KI l D tc base yX9_faulty wsX9_faulty ({ frames := 0, cells := 0, slots := 0, locals := 0 } : Room) [.ref (ad 40 0), .int (jI kind), .int (jI r), .int (jI name), .int (jI cq)] (ad, cnt, X, Y, ln) 0 0 (fun z u => ∃ X1 : Nat → Int → Int → Int, u = (ad, cnt, X1, Y, ln) ∧ Rng X1 ∧ Frm [4042, 4043, 4044] X X1 ∧ MInv X1 ∧ z = -10 - kind) := by
  refine K_of (cc := cX9_faulty) (maxL := 5) (ret := (some .int)) (by decide) rfl (Nat.le_of_ble_eq_true rfl) ?_
  intro p e s m below meth c ls hx hb hr hml hown hts hlocks hl hK hw hS
  have hown : s.vm.findClass RX9 = some m.cls := hown
  obtain ⟨av9, hav9⟩ : ∃ a9 : Array Value, a9 = ([.ref (ad 40 0), .int (jI kind), .int (jI r), .int (jI name), .int (jI cq)] : List Value).toArray := ⟨_, rfl⟩
  rw [← hav9] at hts ⊢
  obtain ⟨Q9, hQ9⟩ : ∃ q9Q : State → Prop, q9Q = MQ below (QI D tc base (fun z u => ∃ X1 : Nat → Int → Int → Int, u = (ad, cnt, X1, Y, ln) ∧ Rng X1 ∧ Frm [4042, 4043, 4044] X X1 ∧ MInv X1 ∧ z = -10 - kind)) av9 s 0 0 (frA base) := ⟨_, rfl⟩
  rw [← hQ9]
  have hi9 : ∀ w ∈ wsX90, w ∈ wsX9_faulty := fun w h => List.mem_cons_of_mem _ (List.mem_append_right _ h)
  have hf9 : fctx s m _ RX9 wsX9_faulty D tc RX9 TX9 51 9 := ⟨hts, hi9, hown, hK.1, rfl⟩
  have lk117 := hts (.fieldLink RX9 117 (TX9 41).1 (TX9 41).2.1 (TX9 41).2.2.1) (gj_X9_faulty_0 _ (gp_h))
  have lk121 := hts (.fieldLink RX9 121 (TX9 42).1 (TX9 42).2.1 (TX9 42).2.2.1) (gj_X9_faulty_0 _ (gp_1 gp_h))
  have lk124 := hts (.fieldLink RX9 124 (TX9 43).1 (TX9 43).2.1 (TX9 43).2.2.1) (gj_X9_faulty_0 _ (gp_1 (gp_1 gp_h)))
  have hc40 : cnt 40 = 1 := hFx.at 40 1 (by decide)
  have hl : lv_has ls 5 [(0, .ref (ad 40 0)), (1, .int (jI kind)), (2, .int (jI r)), (3, .int (jI name)), (4, .int (jI cq))] := hl
  have fstypes : 0 ≤ X 40 0 2 ∧ X 40 0 2 ≤ 8 := hR 40 0 2
  have fsthings : 0 ≤ X 40 0 13 ∧ X 40 0 13 ≤ 30 := hR 40 0 13
  have fsmarks : 0 ≤ X 40 0 20 ∧ X 40 0 20 ≤ 4 := hR 40 0 20
  have fsnotes : 0 ≤ X 40 0 22 ∧ X 40 0 22 ≤ 80 := hR 40 0 22
  refine lv_aload_n hx hb dX9_faulty_0 rfl (lv_at hl 0 rfl) ?_
  refine lv_iload_n hx hb dX9_faulty_1 rfl (lv_at hl 2 rfl) ?_
  refine x_puti (jz := 41) hx hb hf9 ⟨tyX9_ok, nmX9⟩ hw hS (by first | exact Int.le_refl 0 | omega) (by first | exact zlt hc40 | omega) sl_40_41 rfl lk117 rfl (tyX9_ok 41 (by decide)) rfl rfl dX9_faulty_2 (fun H locs hw hS => ?_)
  obtain ⟨X1, hX1⟩ : ∃ Xq, Xq = u3 X 40 0 41 r := ⟨_, rfl⟩
  rw [← hX1] at hw
  have hRX1 : Rng X1 := by rw [hX1]; exact rng_set hR (show (-2147483648) ≤ r ∧ r ≤ 2147483647 by omega)
  have hVX1 : X1 40 0 41 = r := by rw [hX1]; exact u3_s _ _ _ _ _
  have hFX1 : Frm [4042, 4043, 4044] X X1 := by rw [hX1]; exact Frm.set Frm.rf (show 4042 ∈ [4042, 4043, 4044] by first | exact nlm_in rfl | decide)
  refine lv_aload_n hx hb dX9_faulty_5 rfl (lv_at hl 0 rfl) ?_
  refine lv_iload_n hx hb dX9_faulty_6 rfl (lv_at hl 3 rfl) ?_
  refine x_puti (jz := 42) hx hb hf9 ⟨tyX9_ok, nmX9⟩ hw hS (by first | exact Int.le_refl 0 | omega) (by first | exact zlt hc40 | omega) sl_40_42 rfl lk121 rfl (tyX9_ok 42 (by decide)) rfl rfl dX9_faulty_7 (fun H locs hw hS => ?_)
  obtain ⟨X2, hX2⟩ : ∃ Xq, Xq = u3 X1 40 0 42 name := ⟨_, rfl⟩
  rw [← hX2] at hw
  have hRX2 : Rng X2 := by rw [hX2]; exact rng_set hRX1 (show (-2147483648) ≤ name ∧ name ≤ 2147483647 by omega)
  have hVX2 : X2 40 0 42 = name := by rw [hX2]; exact u3_s _ _ _ _ _
  have hFX2 : Frm [4042, 4043, 4044] X X2 := by rw [hX2]; exact Frm.set hFX1 (show 4043 ∈ [4042, 4043, 4044] by first | exact nlm_in rfl | decide)
  refine lv_aload_n hx hb dX9_faulty_10 rfl (lv_at hl 0 rfl) ?_
  refine lv_iload hx hb dX9_faulty_11 (lv_at hl 4 rfl) ?_
  refine x_puti (jz := 43) hx hb hf9 ⟨tyX9_ok, nmX9⟩ hw hS (by first | exact Int.le_refl 0 | omega) (by first | exact zlt hc40 | omega) sl_40_43 rfl lk124 rfl (tyX9_ok 43 (by decide)) rfl rfl dX9_faulty_13 (fun H locs hw hS => ?_)
  obtain ⟨X3, hX3⟩ : ∃ Xq, Xq = u3 X2 40 0 43 cq := ⟨_, rfl⟩
  rw [← hX3] at hw
  have hRX3 : Rng X3 := by rw [hX3]; exact rng_set hRX2 (show (-2147483648) ≤ cq ∧ cq ≤ 2147483647 by omega)
  have hVX3 : X3 40 0 43 = cq := by rw [hX3]; exact u3_s _ _ _ _ _
  have hFX3 : Frm [4042, 4043, 4044] X X3 := by rw [hX3]; exact Frm.set hFX2 (show 4044 ∈ [4042, 4043, 4044] by first | exact nlm_in rfl | decide)
  refine lv_bipush (v := jI (-10)) hx hb dX9_faulty_16 (by decide) ?_
  refine lv_iload_n hx hb dX9_faulty_18 rfl (lv_at hl 1 rfl) ?_
  refine x_isub hx hb dX9_faulty_19 ?_
  rw [hQ9]
  refine ret_i (mc := 0) (ms := 0) hx hb hr hlocks hw hS (by first | exact Nat.le_of_ble_eq_true rfl | omega) (by first | exact Nat.le_of_ble_eq_true rfl | omega) dX9_faulty_20 ?_
  have q5 : Frm [4042, 4043, 4044] X X1 := by rw [hX1]; exact Frm.set Frm.rf (show 4042 ∈ [4042, 4043, 4044] by first | exact nlm_in rfl | decide)
  have q6 : Frm [4042, 4043, 4044] X X2 := by rw [hX2]; exact Frm.set q5 (show 4043 ∈ [4042, 4043, 4044] by first | exact nlm_in rfl | decide)
  have q7 : Frm [4042, 4043, 4044] X X3 := by rw [hX3]; exact Frm.set q6 (show 4044 ∈ [4042, 4043, 4044] by first | exact nlm_in rfl | decide)
  have hMq4 : MInv X3 := minv_frm hMI q7 (by decide)
  exact ⟨X3, rfl, hRX3, hFX3, hMq4, by omega⟩

set_option maxHeartbeats 4000000 in
set_option maxRecDepth 100000 in
theorem c_X9_cut (l : Launch) (D : va_G) (tc : Nat → ClassId) (base : Nat) (ad : Nat → Int → Nat) (cnt : Nat → Int) (X : Nat → Int → Int → Int) (Y : Nat → Int → Int → Option Int) (ln : Int → Int) (lane v : Int) (hlane : 0 ≤ lane ∧ lane ≤ 5) (hv : -9223372036854775808 ≤ v ∧ v ≤ 9223372036854775807) : KL l D tc base yX9_cut wsX9_cut ({ frames := 0, cells := 0, slots := 0, locals := 0 } : Room) [.int (jI lane), .long (jL v)] (ad, cnt, X, Y, ln) 0 0 (fun z u => u = (ad, cnt, X, Y, ln) ∧ (-9223372036854775808 ≤ z ∧ z ≤ 9223372036854775807) ∧ z = cutZ lane v) := by
  refine K_of (cc := cX9_cut) (maxL := 3) (ret := (some .long)) (by decide) rfl (Nat.le_of_ble_eq_true rfl) ?_
  intro p e s m below meth c ls hx hb hr hml hown hts hlocks hl hK hw hS
  have hown : s.vm.findClass RX9 = some m.cls := hown
  obtain ⟨av9, hav9⟩ : ∃ a9 : Array Value, a9 = ([.int (jI lane), .long (jL v)] : List Value).toArray := ⟨_, rfl⟩
  rw [← hav9] at hts ⊢
  obtain ⟨Q9, hQ9⟩ : ∃ q9Q : State → Prop, q9Q = MQ below (QL D tc base (fun z u => u = (ad, cnt, X, Y, ln) ∧ (-9223372036854775808 ≤ z ∧ z ≤ 9223372036854775807) ∧ z = cutZ lane v)) av9 s 0 0 (frA base) := ⟨_, rfl⟩
  rw [← hQ9]
  have hl : lv_has ls 3 [(0, .int (jI lane)), (1, .long (jL v))] := hl
  refine lv_iload_n hx hb dX9_cut_0 rfl (lv_at hl 0 rfl) ?_
  refine lv_iconst (v := jI 3) hx hb dX9_cut_1 rfl ?_
  refine x_icmp_ne (tgt := 12) hx hb (by omega) (by omega) dX9_cut_2 (by decide) (fun c1 => ?_) (fun c1 => ?_)
  · refine lv_iload_n hx hb dX9_cut_12 rfl (lv_at hl 0 rfl) ?_
    refine lv_iconst (v := jI 4) hx hb dX9_cut_13 rfl ?_
    refine x_icmp_ne (tgt := 23) hx hb (by omega) (by omega) dX9_cut_14 (by decide) (fun c2 => ?_) (fun c2 => ?_)
    · refine lv_lload_n hx hb dX9_cut_23 rfl (lv_at hl 1 rfl) ?_
      rw [hQ9]
      refine ret_l (mc := 0) (ms := 0) hx hb hr hlocks hw hS (by first | exact Nat.le_of_ble_eq_true rfl | omega) (by first | exact Nat.le_of_ble_eq_true rfl | omega) dX9_cut_24 ?_
      exact ⟨rfl, by omega, by first | (unfold cutZ; rw [if_pos (by omega)]; assumption) | (unfold cutZ; rw [if_neg (by omega), if_pos (by omega)]; assumption) | (unfold cutZ; rw [if_neg (by omega), if_neg (by omega)])⟩
    · refine lv_lload_n hx hb dX9_cut_17 rfl (lv_at hl 1 rfl) ?_
      refine x_l2i hx hb dX9_cut_18 ?_
      refine x_eqi (fun z3 hz3 ez3 => ?_)
      refine x_i2l hx hb (by omega) dX9_cut_19 ?_
      refine lv_goto (tgt := 24) hx hb dX9_cut_20 (by decide) ?_
      rw [hQ9]
      refine ret_l (mc := 0) (ms := 0) hx hb hr hlocks hw hS (by first | exact Nat.le_of_ble_eq_true rfl | omega) (by first | exact Nat.le_of_ble_eq_true rfl | omega) dX9_cut_24 ?_
      exact ⟨rfl, by omega, by first | (unfold cutZ; rw [if_pos (by omega)]; assumption) | (unfold cutZ; rw [if_neg (by omega), if_pos (by omega)]; assumption) | (unfold cutZ; rw [if_neg (by omega), if_neg (by omega)])⟩
  · refine lv_lload_n hx hb dX9_cut_5 rfl (lv_at hl 1 rfl) ?_
    refine x_l2i hx hb dX9_cut_6 ?_
    refine lv_i2b hx hb dX9_cut_7 rfl ?_
    refine x_eqi (fun z4 hz4 ez4 => ?_)
    refine x_i2l hx hb (by omega) dX9_cut_8 ?_
    refine lv_goto (tgt := 24) hx hb dX9_cut_9 (by decide) ?_
    rw [hQ9]
    refine ret_l (mc := 0) (ms := 0) hx hb hr hlocks hw hS (by first | exact Nat.le_of_ble_eq_true rfl | omega) (by first | exact Nat.le_of_ble_eq_true rfl | omega) dX9_cut_24 ?_
    exact ⟨rfl, by omega, by first | (unfold cutZ; rw [if_pos (by omega)]; assumption) | (unfold cutZ; rw [if_neg (by omega), if_pos (by omega)]; assumption) | (unfold cutZ; rw [if_neg (by omega), if_neg (by omega)])⟩

set_option maxHeartbeats 4000000 in
set_option maxRecDepth 100000 in
theorem c_X9_type (l : Launch) (D : va_G) (tc : Nat → ClassId) (base : Nat) (ad : Nat → Int → Nat) (cnt : Nat → Int) (X : Nat → Int → Int → Int) (Y : Nat → Int → Int → Option Int) (ln : Int → Int) (hR : Rng X) (hFx : Fx cnt) (hMI : MInv X)  : KI l D tc base yX9_type wsX9_type ({ frames := 0, cells := 0, slots := 0, locals := 0 } : Room) [.ref (ad 40 0)] (ad, cnt, X, Y, ln) 0 0 (fun z u => ∃ X1 : Nat → Int → Int → Int, u = (ad, cnt, X1, Y, ln) ∧ Rng X1 ∧ Frm [4001, 4400, 4900, 4003] X X1 ∧ MInv X1 ∧ (-2147483648 ≤ z ∧ z ≤ 2147483647) ∧ ((X 40 0 2 = 8 ∧ z = -4 ∧ X1 40 0 2 = 8) ∨ (X 40 0 2 < 8 ∧ z = X 40 0 2 ∧ X1 40 0 2 = X 40 0 2 + 1 ∧ X1 44 0 (X 40 0 2) = 0 ∧ X1 49 0 (X 40 0 2) = 0)) ∧ (∀ y, y ≠ X 40 0 2 → X1 44 0 y = X 44 0 y) ∧ ∀ y, y ≠ X 40 0 2 → X1 49 0 y = X 49 0 y) := by
  refine K_of (cc := cX9_type) (maxL := 1) (ret := (some .int)) (by decide) rfl (Nat.le_of_ble_eq_true rfl) ?_
  intro p e s m below meth c ls hx hb hr hml hown hts hlocks hl hK hw hS
  have hown : s.vm.findClass RX9 = some m.cls := hown
  obtain ⟨av9, hav9⟩ : ∃ a9 : Array Value, a9 = ([.ref (ad 40 0)] : List Value).toArray := ⟨_, rfl⟩
  rw [← hav9] at hts ⊢
  obtain ⟨Q9, hQ9⟩ : ∃ q9Q : State → Prop, q9Q = MQ below (QI D tc base (fun z u => ∃ X1 : Nat → Int → Int → Int, u = (ad, cnt, X1, Y, ln) ∧ Rng X1 ∧ Frm [4001, 4400, 4900, 4003] X X1 ∧ MInv X1 ∧ (-2147483648 ≤ z ∧ z ≤ 2147483647) ∧ ((X 40 0 2 = 8 ∧ z = -4 ∧ X1 40 0 2 = 8) ∨ (X 40 0 2 < 8 ∧ z = X 40 0 2 ∧ X1 40 0 2 = X 40 0 2 + 1 ∧ X1 44 0 (X 40 0 2) = 0 ∧ X1 49 0 (X 40 0 2) = 0)) ∧ (∀ y, y ≠ X 40 0 2 → X1 44 0 y = X 44 0 y) ∧ ∀ y, y ≠ X 40 0 2 → X1 49 0 y = X 49 0 y)) av9 s 0 0 (frA base) := ⟨_, rfl⟩
  rw [← hQ9]
  have hi9 : ∀ w ∈ wsX90, w ∈ wsX9_type := fun w h => List.mem_cons_of_mem _ (List.mem_append_right _ h)
  have hf9 : fctx s m _ RX9 wsX9_type D tc RX9 TX9 51 9 := ⟨hts, hi9, hown, hK.1, rfl⟩
  have lk13 := hts (.fieldLink RX9 13 (TX9 3).1 (TX9 3).2.1 (TX9 3).2.2.1) (gj_X9_type_0 _ (gp_1 (gp_1 gp_h)))
  have lk30 := hts (.fieldLink RX9 30 (TX9 8).1 (TX9 8).2.1 (TX9 8).2.2.1) (gj_X9_type_0 _ (gp_1 (gp_1 (gp_1 gp_h))))
  have lk145 := hts (.fieldLink RX9 145 (TX9 0).1 (TX9 0).2.1 (TX9 0).2.2.1) (gj_X9_type_0 _ (gp_h))
  have lk148 := hts (.fieldLink RX9 148 (TX9 2).1 (TX9 2).2.1 (TX9 2).2.2.1) (gj_X9_type_0 _ (gp_1 gp_h))
  have hc40 : cnt 40 = 1 := hFx.at 40 1 (by decide)
  have hc44 : cnt 44 = 1 := hFx.at 44 1 (by decide)
  have hc49 : cnt 49 = 1 := hFx.at 49 1 (by decide)
  have hl : lv_has ls 1 [(0, .ref (ad 40 0))] := hl
  have fstypes : 0 ≤ X 40 0 2 ∧ X 40 0 2 ≤ 8 := hR 40 0 2
  have fsthings : 0 ≤ X 40 0 13 ∧ X 40 0 13 ≤ 30 := hR 40 0 13
  have fsmarks : 0 ≤ X 40 0 20 ∧ X 40 0 20 ≤ 4 := hR 40 0 20
  have fsnotes : 0 ≤ X 40 0 22 ∧ X 40 0 22 ≤ 80 := hR 40 0 22
  refine lv_aload_n hx hb dX9_type_0 rfl (lv_at hl 0 rfl) ?_
  refine lv_iconst (v := jI 0) hx hb dX9_type_1 rfl ?_
  refine x_puti (jz := 0) hx hb hf9 ⟨tyX9_ok, nmX9⟩ hw hS (by first | exact Int.le_refl 0 | omega) (by first | exact zlt hc40 | omega) sl_40_0 rfl lk145 rfl (tyX9_ok 0 (by decide)) rfl rfl dX9_type_2 (fun H locs hw hS => ?_)
  obtain ⟨X1, hX1⟩ : ∃ Xq, Xq = u3 X 40 0 0 0 := ⟨_, rfl⟩
  rw [← hX1] at hw
  have hRX1 : Rng X1 := by rw [hX1]; exact rng_set hR (show (-2147483648) ≤ 0 ∧ 0 ≤ 2147483647 by omega)
  have hVX1 : X1 40 0 0 = 0 := by rw [hX1]; exact u3_s _ _ _ _ _
  have hFX1 : Frm [4001, 4400, 4900, 4003] X X1 := by rw [hX1]; exact Frm.set Frm.rf (show 4001 ∈ [4001, 4400, 4900, 4003] by first | exact nlm_in rfl | decide)
  refine lv_aload_n hx hb dX9_type_5 rfl (lv_at hl 0 rfl) ?_
  refine x_geti (jz := 2) hx hb hf9 hw (by first | exact Int.le_refl 0 | omega) (by first | exact zlt hc40 | omega) sl_40_2 rfl lk148 dX9_type_6 ?_
  have e2 : X1 40 0 2 = X 40 0 2 := by rw [hX1, u3_j _ _ _ _ (by decide)]
  rw [e2]
  have f3 : 0 ≤ X 40 0 2 ∧ X 40 0 2 ≤ 8 := hR 40 0 2
  refine lv_bipush (v := jI 8) hx hb dX9_type_9 (by decide) ?_
  have q900020 : X1 40 0 2 = X 40 0 2 := by rw [hX1, u3_j _ _ _ _ (by decide)]
  refine x_icmp_ne (tgt := 17) hx hb (by omega) (by omega) dX9_type_11 (by decide) (fun c4 => ?_) (fun c4 => ?_)
  · refine lv_aload_n hx hb dX9_type_17 rfl (lv_at hl 0 rfl) ?_
    refine x_geto hx hb hf9 hw (by first | exact Int.le_refl 0 | omega) (by first | exact zlt hc40 | omega) sl_40_3 lk13 dX9_type_18 ?_
    refine lv_aload_n hx hb dX9_type_21 rfl (lv_at hl 0 rfl) ?_
    refine x_geti (jz := 2) hx hb hf9 hw (by first | exact Int.le_refl 0 | omega) (by first | exact zlt hc40 | omega) sl_40_2 rfl lk148 dX9_type_22 ?_
    have e5 : X1 40 0 2 = X 40 0 2 := by rw [hX1, u3_j _ _ _ _ (by decide)]
    rw [e5]
    have f6 : 0 ≤ X 40 0 2 ∧ X 40 0 2 ≤ 8 := hR 40 0 2
    refine lv_iconst (v := jI 0) hx hb dX9_type_25 rfl ?_
    refine x_iast hx hb hK.1 hw hS (by first | exact Int.le_refl 0 | omega) (by first | exact zlt hc44 | omega) ar_44 (len_E ar_44 (by first | exact Nat.ne_of_beq_eq_false rfl | decide)) (by omega) (by omega) (by omega) dX9_type_26 (fun H locs hw hS => ?_)
    obtain ⟨X7, hX7⟩ : ∃ Xq, Xq = u3 X1 44 0 (X 40 0 2) 0 := ⟨_, rfl⟩
    rw [← hX7] at hw
    have hRX7 : Rng X7 := by rw [hX7]; exact rng_set hRX1 (show 0 ≤ 0 ∧ 0 ≤ 5 by omega)
    have hVX7 : X7 44 0 (X 40 0 2) = 0 := by rw [hX7]; exact u3_s _ _ _ _ _
    have hFX7 : Frm [4001, 4400, 4900, 4003] X X7 := by rw [hX7]; exact Frm.set hFX1 (show 4400 ∈ [4001, 4400, 4900, 4003] by first | exact nlm_in rfl | decide)
    refine lv_aload_n hx hb dX9_type_27 rfl (lv_at hl 0 rfl) ?_
    refine x_geto hx hb hf9 hw (by first | exact Int.le_refl 0 | omega) (by first | exact zlt hc40 | omega) sl_40_8 lk30 dX9_type_28 ?_
    refine lv_aload_n hx hb dX9_type_31 rfl (lv_at hl 0 rfl) ?_
    refine x_geti (jz := 2) hx hb hf9 hw (by first | exact Int.le_refl 0 | omega) (by first | exact zlt hc40 | omega) sl_40_2 rfl lk148 dX9_type_32 ?_
    have e8 : X7 40 0 2 = X 40 0 2 := by rw [hX7, u3_k _ _ _ _ (by first | exact Nat.ne_of_beq_eq_false rfl | decide), hX1, u3_j _ _ _ _ (by decide)]
    rw [e8]
    have f9 : 0 ≤ X 40 0 2 ∧ X 40 0 2 ≤ 8 := hR 40 0 2
    refine lv_iconst (v := jI 0) hx hb dX9_type_35 rfl ?_
    refine x_iast hx hb hK.1 hw hS (by first | exact Int.le_refl 0 | omega) (by first | exact zlt hc49 | omega) ar_49 (len_E ar_49 (by first | exact Nat.ne_of_beq_eq_false rfl | decide)) (by omega) (by omega) (by omega) dX9_type_36 (fun H locs hw hS => ?_)
    obtain ⟨X10, hX10⟩ : ∃ Xq, Xq = u3 X7 49 0 (X 40 0 2) 0 := ⟨_, rfl⟩
    rw [← hX10] at hw
    have hRX10 : Rng X10 := by rw [hX10]; exact rng_set hRX7 (show 0 ≤ 0 ∧ 0 ≤ 4 by omega)
    have hVX10 : X10 49 0 (X 40 0 2) = 0 := by rw [hX10]; exact u3_s _ _ _ _ _
    have hFX10 : Frm [4001, 4400, 4900, 4003] X X10 := by rw [hX10]; exact Frm.set hFX7 (show 4900 ∈ [4001, 4400, 4900, 4003] by first | exact nlm_in rfl | decide)
    refine lv_aload_n hx hb dX9_type_37 rfl (lv_at hl 0 rfl) ?_
    refine lv_dup hx hb dX9_type_38 rfl ?_
    refine x_geti (jz := 2) hx hb hf9 hw (by first | exact Int.le_refl 0 | omega) (by first | exact zlt hc40 | omega) sl_40_2 rfl lk148 dX9_type_39 ?_
    have e11 : X10 40 0 2 = X 40 0 2 := by rw [hX10, u3_k _ _ _ _ (by first | exact Nat.ne_of_beq_eq_false rfl | decide), hX7, u3_k _ _ _ _ (by first | exact Nat.ne_of_beq_eq_false rfl | decide), hX1, u3_j _ _ _ _ (by decide)]
    rw [e11]
    have f12 : 0 ≤ X 40 0 2 ∧ X 40 0 2 ≤ 8 := hR 40 0 2
    refine lv_iconst (v := jI 1) hx hb dX9_type_42 rfl ?_
    refine x_iadd hx hb dX9_type_43 ?_
    refine x_puti (jz := 2) hx hb hf9 ⟨tyX9_ok, nmX9⟩ hw hS (by first | exact Int.le_refl 0 | omega) (by first | exact zlt hc40 | omega) sl_40_2 rfl lk148 rfl (tyX9_ok 2 (by decide)) rfl rfl dX9_type_44 (fun H locs hw hS => ?_)
    obtain ⟨X13, hX13⟩ : ∃ Xq, Xq = u3 X10 40 0 2 ((X 40 0 2) + 1) := ⟨_, rfl⟩
    rw [← hX13] at hw
    have hRX13 : Rng X13 := by rw [hX13]; exact rng_set hRX10 (show 0 ≤ ((X 40 0 2) + 1) ∧ ((X 40 0 2) + 1) ≤ 8 by omega)
    have hVX13 : X13 40 0 2 = ((X 40 0 2) + 1) := by rw [hX13]; exact u3_s _ _ _ _ _
    have hFX13 : Frm [4001, 4400, 4900, 4003] X X13 := by rw [hX13]; exact Frm.set hFX10 (show 4003 ∈ [4001, 4400, 4900, 4003] by first | exact nlm_in rfl | decide)
    refine lv_aload_n hx hb dX9_type_47 rfl (lv_at hl 0 rfl) ?_
    refine x_geti (jz := 2) hx hb hf9 hw (by first | exact Int.le_refl 0 | omega) (by first | exact zlt hc40 | omega) sl_40_2 rfl lk148 dX9_type_48 ?_
    rw [hVX13]
    refine lv_iconst (v := jI 1) hx hb dX9_type_51 rfl ?_
    refine x_isub hx hb dX9_type_52 ?_
    rw [hQ9]
    refine ret_i (mc := 0) (ms := 0) hx hb hr hlocks hw hS (by first | exact Nat.le_of_ble_eq_true rfl | omega) (by first | exact Nat.le_of_ble_eq_true rfl | omega) dX9_type_53 ?_
    have e14 : X13 40 0 2 = ((X 40 0 2) + 1) := (by exact hVX13)
    have e15 : X13 44 0 (X 40 0 2) = 0 := (by rw [hX13, u3_k _ _ _ _ (by first | exact Nat.ne_of_beq_eq_false rfl | decide), hX10, u3_k _ _ _ _ (by first | exact Nat.ne_of_beq_eq_false rfl | decide)]; exact hVX7)
    have e16 : X13 49 0 (X 40 0 2) = 0 := (by rw [hX13, u3_k _ _ _ _ (by first | exact Nat.ne_of_beq_eq_false rfl | decide)]; exact hVX10)
    exact ⟨X13, rfl, hRX13, hFX13, minv_type hMI hR hFX13 (fun j hj => (by rw [hX13, u3_k _ _ _ _ (by first | exact Nat.ne_of_beq_eq_false rfl | decide), hX10, u3_k _ _ _ _ (by first | exact Nat.ne_of_beq_eq_false rfl | decide), hX7, u3_j _ _ _ _ hj, hX1, u3_k _ _ _ _ (by first | exact Nat.ne_of_beq_eq_false rfl | decide)])) (by rw [hX13, u3_k _ _ _ _ (by first | exact Nat.ne_of_beq_eq_false rfl | decide), hX10, u3_k _ _ _ _ (by first | exact Nat.ne_of_beq_eq_false rfl | decide)]; exact hVX7) hVX13, by omega, by omega, fun y hy => (by rw [hX13, u3_k _ _ _ _ (by first | exact Nat.ne_of_beq_eq_false rfl | decide), hX10, u3_k _ _ _ _ (by first | exact Nat.ne_of_beq_eq_false rfl | decide), hX7, u3_j _ _ _ _ hy, hX1, u3_k _ _ _ _ (by first | exact Nat.ne_of_beq_eq_false rfl | decide)]), fun y hy => (by rw [hX13, u3_k _ _ _ _ (by first | exact Nat.ne_of_beq_eq_false rfl | decide), hX10, u3_j _ _ _ _ hy, hX7, u3_k _ _ _ _ (by first | exact Nat.ne_of_beq_eq_false rfl | decide), hX1, u3_k _ _ _ _ (by first | exact Nat.ne_of_beq_eq_false rfl | decide)])⟩
  · refine lv_bipush (v := jI (-4)) hx hb dX9_type_14 (by decide) ?_
    rw [hQ9]
    refine ret_i (mc := 0) (ms := 0) hx hb hr hlocks hw hS (by first | exact Nat.le_of_ble_eq_true rfl | omega) (by first | exact Nat.le_of_ble_eq_true rfl | omega) dX9_type_16 ?_
    have q18 : Frm [4001] X X1 := by rw [hX1]; exact Frm.set Frm.rf (show 4001 ∈ [4001] by first | exact nlm_in rfl | decide)
    have hMq17 : MInv X1 := minv_frm hMI q18 (by decide)
    have e19 : X1 40 0 2 = X 40 0 2 := (by rw [hX1, u3_j _ _ _ _ (by decide)])
    exact ⟨X1, rfl, hRX1, hFX1, hMq17, by omega, by omega, fun y hy => (by rw [hX1, u3_k _ _ _ _ (by first | exact Nat.ne_of_beq_eq_false rfl | decide)]), fun y hy => (by rw [hX1, u3_k _ _ _ _ (by first | exact Nat.ne_of_beq_eq_false rfl | decide)])⟩

set_option maxHeartbeats 4000000 in
set_option maxRecDepth 100000 in
theorem c_X9_forget (l : Launch) (D : va_G) (tc : Nat → ClassId) (base : Nat) (ad : Nat → Int → Nat) (cnt : Nat → Int) (X : Nat → Int → Int → Int) (Y : Nat → Int → Int → Option Int) (ln : Int → Int) (hR : Rng X) (hFx : Fx cnt) (hMI : MInv X)  : KI l D tc base yX9_forget wsX9_forget ({ frames := 0, cells := 0, slots := 0, locals := 0 } : Room) [.ref (ad 40 0)] (ad, cnt, X, Y, ln) 0 0 (fun z u => ∃ X1 : Nat → Int → Int → Int, u = (ad, cnt, X1, Y, ln) ∧ Rng X1 ∧ Frm [4001, 4014] X X1 ∧ MInv X1 ∧ (-2147483648 ≤ z ∧ z ≤ 2147483647) ∧ ((0 < X 40 0 20 ∧ z = -3 ∧ X1 40 0 13 = X 40 0 13) ∨ (X 40 0 20 = 0 ∧ z = X 40 0 13 ∧ X1 40 0 13 = 0))) := by
  refine K_of (cc := cX9_forget) (maxL := 2) (ret := (some .int)) (by decide) rfl (Nat.le_of_ble_eq_true rfl) ?_
  intro p e s m below meth c ls hx hb hr hml hown hts hlocks hl hK hw hS
  have hown : s.vm.findClass RX9 = some m.cls := hown
  obtain ⟨av9, hav9⟩ : ∃ a9 : Array Value, a9 = ([.ref (ad 40 0)] : List Value).toArray := ⟨_, rfl⟩
  rw [← hav9] at hts ⊢
  obtain ⟨Q9, hQ9⟩ : ∃ q9Q : State → Prop, q9Q = MQ below (QI D tc base (fun z u => ∃ X1 : Nat → Int → Int → Int, u = (ad, cnt, X1, Y, ln) ∧ Rng X1 ∧ Frm [4001, 4014] X X1 ∧ MInv X1 ∧ (-2147483648 ≤ z ∧ z ≤ 2147483647) ∧ ((0 < X 40 0 20 ∧ z = -3 ∧ X1 40 0 13 = X 40 0 13) ∨ (X 40 0 20 = 0 ∧ z = X 40 0 13 ∧ X1 40 0 13 = 0)))) av9 s 0 0 (frA base) := ⟨_, rfl⟩
  rw [← hQ9]
  have hi9 : ∀ w ∈ wsX90, w ∈ wsX9_forget := fun w h => List.mem_cons_of_mem _ (List.mem_append_right _ h)
  have hf9 : fctx s m _ RX9 wsX9_forget D tc RX9 TX9 51 9 := ⟨hts, hi9, hown, hK.1, rfl⟩
  have lk145 := hts (.fieldLink RX9 145 (TX9 0).1 (TX9 0).2.1 (TX9 0).2.2.1) (gj_X9_forget_0 _ (gp_h))
  have lk151 := hts (.fieldLink RX9 151 (TX9 13).1 (TX9 13).2.1 (TX9 13).2.2.1) (gj_X9_forget_0 _ (gp_1 (gp_1 gp_h)))
  have lk165 := hts (.fieldLink RX9 165 (TX9 20).1 (TX9 20).2.1 (TX9 20).2.2.1) (gj_X9_forget_0 _ (gp_1 gp_h))
  have hc40 : cnt 40 = 1 := hFx.at 40 1 (by decide)
  have hl : lv_has ls 2 [(0, .ref (ad 40 0))] := hl
  have fstypes : 0 ≤ X 40 0 2 ∧ X 40 0 2 ≤ 8 := hR 40 0 2
  have fsthings : 0 ≤ X 40 0 13 ∧ X 40 0 13 ≤ 30 := hR 40 0 13
  have fsmarks : 0 ≤ X 40 0 20 ∧ X 40 0 20 ≤ 4 := hR 40 0 20
  have fsnotes : 0 ≤ X 40 0 22 ∧ X 40 0 22 ≤ 80 := hR 40 0 22
  refine lv_aload_n hx hb dX9_forget_0 rfl (lv_at hl 0 rfl) ?_
  refine lv_iconst (v := jI 0) hx hb dX9_forget_1 rfl ?_
  refine x_puti (jz := 0) hx hb hf9 ⟨tyX9_ok, nmX9⟩ hw hS (by first | exact Int.le_refl 0 | omega) (by first | exact zlt hc40 | omega) sl_40_0 rfl lk145 rfl (tyX9_ok 0 (by decide)) rfl rfl dX9_forget_2 (fun H locs hw hS => ?_)
  obtain ⟨X1, hX1⟩ : ∃ Xq, Xq = u3 X 40 0 0 0 := ⟨_, rfl⟩
  rw [← hX1] at hw
  have hRX1 : Rng X1 := by rw [hX1]; exact rng_set hR (show (-2147483648) ≤ 0 ∧ 0 ≤ 2147483647 by omega)
  have hVX1 : X1 40 0 0 = 0 := by rw [hX1]; exact u3_s _ _ _ _ _
  have hFX1 : Frm [4001, 4014] X X1 := by rw [hX1]; exact Frm.set Frm.rf (show 4001 ∈ [4001, 4014] by first | exact nlm_in rfl | decide)
  refine lv_aload_n hx hb dX9_forget_5 rfl (lv_at hl 0 rfl) ?_
  refine x_geti (jz := 20) hx hb hf9 hw (by first | exact Int.le_refl 0 | omega) (by first | exact zlt hc40 | omega) sl_40_20 rfl lk165 dX9_forget_6 ?_
  have e2 : X1 40 0 20 = X 40 0 20 := by rw [hX1, u3_j _ _ _ _ (by decide)]
  rw [e2]
  have f3 : 0 ≤ X 40 0 20 ∧ X 40 0 20 ≤ 4 := hR 40 0 20
  have q900021 : X1 40 0 13 = X 40 0 13 := by rw [hX1, u3_j _ _ _ _ (by decide)]
  refine x_if_le (tgt := 15) hx hb (by omega) dX9_forget_9 (by decide) (fun c4 => ?_) (fun c4 => ?_)
  · refine lv_aload_n hx hb dX9_forget_15 rfl (lv_at hl 0 rfl) ?_
    refine x_geti (jz := 13) hx hb hf9 hw (by first | exact Int.le_refl 0 | omega) (by first | exact zlt hc40 | omega) sl_40_13 rfl lk151 dX9_forget_16 ?_
    have e5 : X1 40 0 13 = X 40 0 13 := by rw [hX1, u3_j _ _ _ _ (by decide)]
    rw [e5]
    have f6 : 0 ≤ X 40 0 13 ∧ X 40 0 13 ≤ 30 := hR 40 0 13
    refine lv_istore_n (lv' := [(1, .int (jI (X 40 0 13))), (0, .ref (ad 40 0))]) hx hb dX9_forget_19 rfl hl (by decide) rfl (fun ls hl => ?_)
    refine lv_aload_n hx hb dX9_forget_20 rfl (lv_at hl 1 rfl) ?_
    refine lv_iconst (v := jI 0) hx hb dX9_forget_21 rfl ?_
    refine x_puti (jz := 13) hx hb hf9 ⟨tyX9_ok, nmX9⟩ hw hS (by first | exact Int.le_refl 0 | omega) (by first | exact zlt hc40 | omega) sl_40_13 rfl lk151 rfl (tyX9_ok 13 (by decide)) rfl rfl dX9_forget_22 (fun H locs hw hS => ?_)
    obtain ⟨X7, hX7⟩ : ∃ Xq, Xq = u3 X1 40 0 13 0 := ⟨_, rfl⟩
    rw [← hX7] at hw
    have hRX7 : Rng X7 := by rw [hX7]; exact rng_set hRX1 (show 0 ≤ 0 ∧ 0 ≤ 30 by omega)
    have hVX7 : X7 40 0 13 = 0 := by rw [hX7]; exact u3_s _ _ _ _ _
    have hFX7 : Frm [4001, 4014] X X7 := by rw [hX7]; exact Frm.set hFX1 (show 4014 ∈ [4001, 4014] by first | exact nlm_in rfl | decide)
    refine lv_iload_n hx hb dX9_forget_25 rfl (lv_at hl 0 rfl) ?_
    rw [hQ9]
    refine ret_i (mc := 0) (ms := 0) hx hb hr hlocks hw hS (by first | exact Nat.le_of_ble_eq_true rfl | omega) (by first | exact Nat.le_of_ble_eq_true rfl | omega) dX9_forget_26 ?_
    have e8 : X7 40 0 13 = 0 := (by exact hVX7)
    exact ⟨X7, rfl, hRX7, hFX7, minv_forget hMI (by omega) hFX7 hVX7, by omega, (by (try delta Hid at *); first | exact Or.inr (⟨by omega, by omega, by omega⟩) | exact Or.inl ⟨by omega, by omega, by omega⟩)⟩
  · refine lv_bipush (v := jI (-3)) hx hb dX9_forget_12 (by decide) ?_
    rw [hQ9]
    refine ret_i (mc := 0) (ms := 0) hx hb hr hlocks hw hS (by first | exact Nat.le_of_ble_eq_true rfl | omega) (by first | exact Nat.le_of_ble_eq_true rfl | omega) dX9_forget_14 ?_
    have q10 : Frm [4001] X X1 := by rw [hX1]; exact Frm.set Frm.rf (show 4001 ∈ [4001] by first | exact nlm_in rfl | decide)
    have hMq9 : MInv X1 := minv_frm hMI q10 (by decide)
    have e11 : X1 40 0 13 = X 40 0 13 := (by rw [hX1, u3_j _ _ _ _ (by decide)])
    exact ⟨X1, rfl, hRX1, hFX1, hMq9, by omega, (by (try delta Hid at *); first | exact Or.inl ⟨by omega, by omega, by omega⟩ | exact Or.inr (⟨by omega, by omega, by omega⟩))⟩

set_option maxHeartbeats 4000000 in
set_option maxRecDepth 100000 in
theorem c_X9_mark (l : Launch) (D : va_G) (tc : Nat → ClassId) (base : Nat) (ad : Nat → Int → Nat) (cnt : Nat → Int) (X : Nat → Int → Int → Int) (Y : Nat → Int → Int → Option Int) (ln : Int → Int) (hR : Rng X) (hFx : Fx cnt) (hMI : MInv X)  : KI l D tc base yX9_mark wsX9_mark ({ frames := 0, cells := 0, slots := 0, locals := 0 } : Room) [.ref (ad 40 0)] (ad, cnt, X, Y, ln) 0 0 (fun z u => ∃ X1 : Nat → Int → Int → Int, u = (ad, cnt, X1, Y, ln) ∧ Rng X1 ∧ Frm [4001, 6200, 4021] X X1 ∧ MInv X1 ∧ (-2147483648 ≤ z ∧ z ≤ 2147483647) ∧ ((X 40 0 20 = 4 ∧ z = -4 ∧ X1 40 0 20 = X 40 0 20) ∨ (X 40 0 20 < 4 ∧ z = X 40 0 20 + 1 ∧ X1 40 0 20 = X 40 0 20 + 1)) ∧ (0 ≤ z → X1 62 0 (X 40 0 20) = X 40 0 22) ∧ (∀ j, j ≠ X 40 0 20 → X1 62 0 j = X 62 0 j) ∧ (z < 0 → Frm [4001] X X1)) := by
  refine K_of (cc := cX9_mark) (maxL := 1) (ret := (some .int)) (by decide) rfl (Nat.le_of_ble_eq_true rfl) ?_
  intro p e s m below meth c ls hx hb hr hml hown hts hlocks hl hK hw hS
  have hown : s.vm.findClass RX9 = some m.cls := hown
  obtain ⟨av9, hav9⟩ : ∃ a9 : Array Value, a9 = ([.ref (ad 40 0)] : List Value).toArray := ⟨_, rfl⟩
  rw [← hav9] at hts ⊢
  obtain ⟨Q9, hQ9⟩ : ∃ q9Q : State → Prop, q9Q = MQ below (QI D tc base (fun z u => ∃ X1 : Nat → Int → Int → Int, u = (ad, cnt, X1, Y, ln) ∧ Rng X1 ∧ Frm [4001, 6200, 4021] X X1 ∧ MInv X1 ∧ (-2147483648 ≤ z ∧ z ≤ 2147483647) ∧ ((X 40 0 20 = 4 ∧ z = -4 ∧ X1 40 0 20 = X 40 0 20) ∨ (X 40 0 20 < 4 ∧ z = X 40 0 20 + 1 ∧ X1 40 0 20 = X 40 0 20 + 1)) ∧ (0 ≤ z → X1 62 0 (X 40 0 20) = X 40 0 22) ∧ (∀ j, j ≠ X 40 0 20 → X1 62 0 j = X 62 0 j) ∧ (z < 0 → Frm [4001] X X1))) av9 s 0 0 (frA base) := ⟨_, rfl⟩
  rw [← hQ9]
  have hi9 : ∀ w ∈ wsX90, w ∈ wsX9_mark := fun w h => List.mem_cons_of_mem _ (List.mem_append_right _ h)
  have hf9 : fctx s m _ RX9 wsX9_mark D tc RX9 TX9 51 9 := ⟨hts, hi9, hown, hK.1, rfl⟩
  have lk63 := hts (.fieldLink RX9 63 (TX9 21).1 (TX9 21).2.1 (TX9 21).2.2.1) (gj_X9_mark_0 _ (gp_1 (gp_1 gp_h)))
  have lk145 := hts (.fieldLink RX9 145 (TX9 0).1 (TX9 0).2.1 (TX9 0).2.2.1) (gj_X9_mark_0 _ (gp_h))
  have lk165 := hts (.fieldLink RX9 165 (TX9 20).1 (TX9 20).2.1 (TX9 20).2.2.1) (gj_X9_mark_0 _ (gp_1 gp_h))
  have lk173 := hts (.fieldLink RX9 173 (TX9 22).1 (TX9 22).2.1 (TX9 22).2.2.1) (gj_X9_mark_0 _ (gp_1 (gp_1 (gp_1 gp_h))))
  have hc40 : cnt 40 = 1 := hFx.at 40 1 (by decide)
  have hc62 : cnt 62 = 1 := hFx.at 62 1 (by decide)
  have hl : lv_has ls 1 [(0, .ref (ad 40 0))] := hl
  have fstypes : 0 ≤ X 40 0 2 ∧ X 40 0 2 ≤ 8 := hR 40 0 2
  have fsthings : 0 ≤ X 40 0 13 ∧ X 40 0 13 ≤ 30 := hR 40 0 13
  have fsmarks : 0 ≤ X 40 0 20 ∧ X 40 0 20 ≤ 4 := hR 40 0 20
  have fsnotes : 0 ≤ X 40 0 22 ∧ X 40 0 22 ≤ 80 := hR 40 0 22
  refine lv_aload_n hx hb dX9_mark_0 rfl (lv_at hl 0 rfl) ?_
  refine lv_iconst (v := jI 0) hx hb dX9_mark_1 rfl ?_
  refine x_puti (jz := 0) hx hb hf9 ⟨tyX9_ok, nmX9⟩ hw hS (by first | exact Int.le_refl 0 | omega) (by first | exact zlt hc40 | omega) sl_40_0 rfl lk145 rfl (tyX9_ok 0 (by decide)) rfl rfl dX9_mark_2 (fun H locs hw hS => ?_)
  obtain ⟨X1, hX1⟩ : ∃ Xq, Xq = u3 X 40 0 0 0 := ⟨_, rfl⟩
  rw [← hX1] at hw
  have hRX1 : Rng X1 := by rw [hX1]; exact rng_set hR (show (-2147483648) ≤ 0 ∧ 0 ≤ 2147483647 by omega)
  have hVX1 : X1 40 0 0 = 0 := by rw [hX1]; exact u3_s _ _ _ _ _
  have hFX1 : Frm [4001, 6200, 4021] X X1 := by rw [hX1]; exact Frm.set Frm.rf (show 4001 ∈ [4001, 6200, 4021] by first | exact nlm_in rfl | decide)
  refine lv_aload_n hx hb dX9_mark_5 rfl (lv_at hl 0 rfl) ?_
  refine x_geti (jz := 20) hx hb hf9 hw (by first | exact Int.le_refl 0 | omega) (by first | exact zlt hc40 | omega) sl_40_20 rfl lk165 dX9_mark_6 ?_
  have e2 : X1 40 0 20 = X 40 0 20 := by rw [hX1, u3_j _ _ _ _ (by decide)]
  rw [e2]
  have f3 : 0 ≤ X 40 0 20 ∧ X 40 0 20 ≤ 4 := hR 40 0 20
  refine lv_iconst (v := jI 4) hx hb dX9_mark_9 rfl ?_
  have q900022 : X1 40 0 20 = X 40 0 20 := by rw [hX1, u3_j _ _ _ _ (by decide)]
  refine x_icmp_ne (tgt := 16) hx hb (by omega) (by omega) dX9_mark_10 (by decide) (fun c4 => ?_) (fun c4 => ?_)
  · refine lv_aload_n hx hb dX9_mark_16 rfl (lv_at hl 0 rfl) ?_
    refine x_geto hx hb hf9 hw (by first | exact Int.le_refl 0 | omega) (by first | exact zlt hc40 | omega) sl_40_21 lk63 dX9_mark_17 ?_
    refine lv_aload_n hx hb dX9_mark_20 rfl (lv_at hl 0 rfl) ?_
    refine x_geti (jz := 20) hx hb hf9 hw (by first | exact Int.le_refl 0 | omega) (by first | exact zlt hc40 | omega) sl_40_20 rfl lk165 dX9_mark_21 ?_
    have e5 : X1 40 0 20 = X 40 0 20 := by rw [hX1, u3_j _ _ _ _ (by decide)]
    rw [e5]
    have f6 : 0 ≤ X 40 0 20 ∧ X 40 0 20 ≤ 4 := hR 40 0 20
    refine lv_aload_n hx hb dX9_mark_24 rfl (lv_at hl 0 rfl) ?_
    refine x_geti (jz := 22) hx hb hf9 hw (by first | exact Int.le_refl 0 | omega) (by first | exact zlt hc40 | omega) sl_40_22 rfl lk173 dX9_mark_25 ?_
    have e7 : X1 40 0 22 = X 40 0 22 := by rw [hX1, u3_j _ _ _ _ (by decide)]
    rw [e7]
    have f8 : 0 ≤ X 40 0 22 ∧ X 40 0 22 ≤ 80 := hR 40 0 22
    refine x_iast hx hb hK.1 hw hS (by first | exact Int.le_refl 0 | omega) (by first | exact zlt hc62 | omega) ar_62 (len_E ar_62 (by first | exact Nat.ne_of_beq_eq_false rfl | decide)) (by omega) (by omega) (by omega) dX9_mark_28 (fun H locs hw hS => ?_)
    obtain ⟨X9, hX9⟩ : ∃ Xq, Xq = u3 X1 62 0 (X 40 0 20) (X 40 0 22) := ⟨_, rfl⟩
    rw [← hX9] at hw
    have hRX9 : Rng X9 := by rw [hX9]; exact rng_set hRX1 (show 0 ≤ (X 40 0 22) ∧ (X 40 0 22) ≤ 80 by omega)
    have hVX9 : X9 62 0 (X 40 0 20) = (X 40 0 22) := by rw [hX9]; exact u3_s _ _ _ _ _
    have hFX9 : Frm [4001, 6200, 4021] X X9 := by rw [hX9]; exact Frm.set hFX1 (show 6200 ∈ [4001, 6200, 4021] by first | exact nlm_in rfl | decide)
    refine lv_aload_n hx hb dX9_mark_29 rfl (lv_at hl 0 rfl) ?_
    refine lv_dup hx hb dX9_mark_30 rfl ?_
    refine x_geti (jz := 20) hx hb hf9 hw (by first | exact Int.le_refl 0 | omega) (by first | exact zlt hc40 | omega) sl_40_20 rfl lk165 dX9_mark_31 ?_
    have e10 : X9 40 0 20 = X 40 0 20 := by rw [hX9, u3_k _ _ _ _ (by first | exact Nat.ne_of_beq_eq_false rfl | decide), hX1, u3_j _ _ _ _ (by decide)]
    rw [e10]
    have f11 : 0 ≤ X 40 0 20 ∧ X 40 0 20 ≤ 4 := hR 40 0 20
    refine lv_iconst (v := jI 1) hx hb dX9_mark_34 rfl ?_
    refine x_iadd hx hb dX9_mark_35 ?_
    refine x_puti (jz := 20) hx hb hf9 ⟨tyX9_ok, nmX9⟩ hw hS (by first | exact Int.le_refl 0 | omega) (by first | exact zlt hc40 | omega) sl_40_20 rfl lk165 rfl (tyX9_ok 20 (by decide)) rfl rfl dX9_mark_36 (fun H locs hw hS => ?_)
    obtain ⟨X12, hX12⟩ : ∃ Xq, Xq = u3 X9 40 0 20 ((X 40 0 20) + 1) := ⟨_, rfl⟩
    rw [← hX12] at hw
    have hRX12 : Rng X12 := by rw [hX12]; exact rng_set hRX9 (show 0 ≤ ((X 40 0 20) + 1) ∧ ((X 40 0 20) + 1) ≤ 4 by omega)
    have hVX12 : X12 40 0 20 = ((X 40 0 20) + 1) := by rw [hX12]; exact u3_s _ _ _ _ _
    have hFX12 : Frm [4001, 6200, 4021] X X12 := by rw [hX12]; exact Frm.set hFX9 (show 4021 ∈ [4001, 6200, 4021] by first | exact nlm_in rfl | decide)
    refine lv_aload_n hx hb dX9_mark_39 rfl (lv_at hl 0 rfl) ?_
    refine x_geti (jz := 20) hx hb hf9 hw (by first | exact Int.le_refl 0 | omega) (by first | exact zlt hc40 | omega) sl_40_20 rfl lk165 dX9_mark_40 ?_
    rw [hVX12]
    rw [hQ9]
    refine ret_i (mc := 0) (ms := 0) hx hb hr hlocks hw hS (by first | exact Nat.le_of_ble_eq_true rfl | omega) (by first | exact Nat.le_of_ble_eq_true rfl | omega) dX9_mark_43 ?_
    have e13 : X12 40 0 20 = ((X 40 0 20) + 1) := (by exact hVX12)
    exact ⟨X12, rfl, hRX12, hFX12, minv_mark hMI hR hFX12 (fun j hj => (by rw [hX12, u3_k _ _ _ _ (by first | exact Nat.ne_of_beq_eq_false rfl | decide), hX9, u3_j _ _ _ _ hj, hX1, u3_k _ _ _ _ (by first | exact Nat.ne_of_beq_eq_false rfl | decide)])) (by rw [hX12, u3_k _ _ _ _ (by first | exact Nat.ne_of_beq_eq_false rfl | decide)]; exact hVX9) hVX12, by omega, by omega, fun _ => (by rw [hX12, u3_k _ _ _ _ (by first | exact Nat.ne_of_beq_eq_false rfl | decide)]; exact hVX9), (fun j hj => (by rw [hX12, u3_k _ _ _ _ (by first | exact Nat.ne_of_beq_eq_false rfl | decide), hX9, u3_j _ _ _ _ hj, hX1, u3_k _ _ _ _ (by first | exact Nat.ne_of_beq_eq_false rfl | decide)])), fun q => (by exfalso; omega)⟩
  · refine lv_bipush (v := jI (-4)) hx hb dX9_mark_13 (by decide) ?_
    rw [hQ9]
    refine ret_i (mc := 0) (ms := 0) hx hb hr hlocks hw hS (by first | exact Nat.le_of_ble_eq_true rfl | omega) (by first | exact Nat.le_of_ble_eq_true rfl | omega) dX9_mark_15 ?_
    have q15 : Frm [4001] X X1 := by rw [hX1]; exact Frm.set Frm.rf (show 4001 ∈ [4001] by first | exact nlm_in rfl | decide)
    have hMq14 : MInv X1 := minv_frm hMI q15 (by decide)
    have e16 : X1 40 0 20 = X 40 0 20 := (by rw [hX1, u3_j _ _ _ _ (by decide)])
    have q17 : Frm [4001] X X1 := by rw [hX1]; exact Frm.set Frm.rf (show 4001 ∈ [4001] by first | exact nlm_in rfl | decide)
    exact ⟨X1, rfl, hRX1, hFX1, hMq14, by omega, by omega, fun q => (by exfalso; omega), (fun j _ => (by rw [hX1, u3_k _ _ _ _ (by first | exact Nat.ne_of_beq_eq_false rfl | decide)])), fun _ => q17⟩

set_option maxHeartbeats 4000000 in
set_option maxRecDepth 100000 in
theorem c_X9_becomes (l : Launch) (D : va_G) (tc : Nat → ClassId) (base : Nat) (ad : Nat → Int → Nat) (cnt : Nat → Int) (X : Nat → Int → Int → Int) (Y : Nat → Int → Int → Option Int) (ln : Int → Int) (hR : Rng X) (hFx : Fx cnt) (hMI : MInv X) (x k v : Int) (hx0 : 0 ≤ x ∧ x ≤ 29) (hk0 : 0 ≤ k ∧ k ≤ 4) (hv : -9223372036854775808 ≤ v ∧ v ≤ 9223372036854775807) (hxt : x < X 40 0 13) (hkf : k < X 44 0 (X 55 0 x)) (htv : tyv (X 40 0 13) (X 46 0 (5 * X 55 0 x + k)) v) (hfu : X 40 0 20 = 0 ∨ X 40 0 22 ≤ 79) : KV l D tc base yX9_becomes wsX9_becomes ({ frames := 1, cells := 0, slots := 0, locals := 22 } : Room) [.ref (ad 40 0), .int (jI x), .int (jI k), .long (jL v)] (ad, cnt, X, Y, ln) 0 0 (fun u => ∃ X1 : Nat → Int → Int → Int, u = (ad, cnt, X1, Y, ln) ∧ Rng X1 ∧ Frm [6400, 6500, 6700, 6800, 6600, 4023, 5600] X X1 ∧ MInv X1 ∧ (0 : Int) ≤ 0 ∧ eNoteM X X1 x k (if 3 ≤ X 46 0 (5 * X 55 0 x + k) then X 56 0 (5 * x + k) else -1) (-1) (X 56 0 (5 * x + k)) ∧ X1 56 0 (5 * x + k) = v ∧ ∀ y, y ≠ 5 * x + k → X1 56 0 y = X 56 0 y) := by
  refine K_of (cc := cX9_becomes) (maxL := 5) (ret := none) (by decide) rfl (Nat.le_of_ble_eq_true rfl) ?_
  intro p e s m below meth c ls hx hb hr hml hown hts hlocks hl hK hw hS
  have hown : s.vm.findClass RX9 = some m.cls := hown
  obtain ⟨av9, hav9⟩ : ∃ a9 : Array Value, a9 = ([.ref (ad 40 0), .int (jI x), .int (jI k), .long (jL v)] : List Value).toArray := ⟨_, rfl⟩
  rw [← hav9] at hts ⊢
  obtain ⟨Q9, hQ9⟩ : ∃ q9Q : State → Prop, q9Q = MQ below (QV D tc base (fun u => ∃ X1 : Nat → Int → Int → Int, u = (ad, cnt, X1, Y, ln) ∧ Rng X1 ∧ Frm [6400, 6500, 6700, 6800, 6600, 4023, 5600] X X1 ∧ MInv X1 ∧ (0 : Int) ≤ 0 ∧ eNoteM X X1 x k (if 3 ≤ X 46 0 (5 * X 55 0 x + k) then X 56 0 (5 * x + k) else -1) (-1) (X 56 0 (5 * x + k)) ∧ X1 56 0 (5 * x + k) = v ∧ ∀ y, y ≠ 5 * x + k → X1 56 0 y = X 56 0 y)) av9 s 0 0 (frA base) := ⟨_, rfl⟩
  rw [← hQ9]
  have hi9 : ∀ w ∈ wsX90, w ∈ wsX9_becomes := fun w h => List.mem_cons_of_mem _ (List.mem_append_right _ h)
  have hf9 : fctx s m _ RX9 wsX9_becomes D tc RX9 TX9 51 9 := ⟨hts, hi9, hown, hK.1, rfl⟩
  have lk48 := hts (.fieldLink RX9 48 (TX9 15).1 (TX9 15).2.1 (TX9 15).2.2.1) (gj_X9_becomes_0 _ (gp_4 (gp_1 (gp_1 gp_h))))
  have lk66 := hts (.fieldLink RX9 66 (TX9 23).1 (TX9 23).2.1 (TX9 23).2.2.1) (gj_X9_becomes_0 _ (gp_1 gp_h))
  have lk69 := hts (.fieldLink RX9 69 (TX9 24).1 (TX9 24).2.1 (TX9 24).2.2.1) (gj_X9_becomes_0 _ (gp_1 (gp_1 (gp_1 gp_h))))
  have lk72 := hts (.fieldLink RX9 72 (TX9 25).1 (TX9 25).2.1 (TX9 25).2.2.1) (gj_X9_becomes_0 _ (gp_4 (gp_1 (gp_1 (gp_1 gp_h)))))
  have lk75 := hts (.fieldLink RX9 75 (TX9 26).1 (TX9 26).2.1 (TX9 26).2.2.1) (gj_X9_becomes_0 _ (gp_4 gp_h))
  have lk78 := hts (.fieldLink RX9 78 (TX9 27).1 (TX9 27).2.1 (TX9 27).2.2.1) (gj_X9_becomes_0 _ (gp_4 (gp_1 gp_h)))
  have lk165 := hts (.fieldLink RX9 165 (TX9 20).1 (TX9 20).2.1 (TX9 20).2.2.1) (gj_X9_becomes_0 _ (gp_h))
  have lk173 := hts (.fieldLink RX9 173 (TX9 22).1 (TX9 22).2.1 (TX9 22).2.2.1) (gj_X9_becomes_0 _ (gp_1 (gp_1 gp_h)))
  have hc40 : cnt 40 = 1 := hFx.at 40 1 (by decide)
  have hc56 : cnt 56 = 1 := hFx.at 56 1 (by decide)
  have hc64 : cnt 64 = 1 := hFx.at 64 1 (by decide)
  have hc65 : cnt 65 = 1 := hFx.at 65 1 (by decide)
  have hc66 : cnt 66 = 1 := hFx.at 66 1 (by decide)
  have hc67 : cnt 67 = 1 := hFx.at 67 1 (by decide)
  have hc68 : cnt 68 = 1 := hFx.at 68 1 (by decide)
  have hl : lv_has ls 5 [(0, .ref (ad 40 0)), (1, .int (jI x)), (2, .int (jI k)), (3, .long (jL v))] := hl
  have fstypes : 0 ≤ X 40 0 2 ∧ X 40 0 2 ≤ 8 := hR 40 0 2
  have fsthings : 0 ≤ X 40 0 13 ∧ X 40 0 13 ≤ 30 := hR 40 0 13
  have fsmarks : 0 ≤ X 40 0 20 ∧ X 40 0 20 ≤ 4 := hR 40 0 20
  have fsnotes : 0 ≤ X 40 0 22 ∧ X 40 0 22 ≤ 80 := hR 40 0 22
  obtain ⟨hy1, hy2, hy3⟩ := hMI.1 x k (by omega) (by omega) (by omega) (by omega)
  refine lv_aload_n hx hb dX9_becomes_0 rfl (lv_at hl 0 rfl) ?_
  refine x_geti (jz := 20) hx hb hf9 hw (by first | exact Int.le_refl 0 | omega) (by first | exact zlt hc40 | omega) sl_40_20 rfl lk165 dX9_becomes_1 ?_
  have f1 : 0 ≤ X 40 0 20 ∧ X 40 0 20 ≤ 4 := hR 40 0 20
  refine x_if_le (tgt := 100) hx hb (by omega) dX9_becomes_4 (by decide) (fun c2 => ?_) (fun c2 => ?_)
  · refine lv_aload_n hx hb dX9_becomes_100 rfl (lv_at hl 0 rfl) ?_
    refine x_geto hx hb hf9 hw (by first | exact Int.le_refl 0 | omega) (by first | exact zlt hc40 | omega) sl_40_15 lk48 dX9_becomes_101 ?_
    refine lv_iconst (v := jI 5) hx hb dX9_becomes_104 rfl ?_
    refine lv_iload_n hx hb dX9_becomes_105 rfl (lv_at hl 1 rfl) ?_
    refine x_imul hx hb dX9_becomes_106 ?_
    refine lv_iload_n hx hb dX9_becomes_107 rfl (lv_at hl 2 rfl) ?_
    refine x_iadd hx hb dX9_becomes_108 ?_
    refine lv_lload_n hx hb dX9_becomes_109 rfl (lv_at hl 3 rfl) ?_
    refine x_last hx hb hK.1 hw hS (by first | exact Int.le_refl 0 | omega) (by first | exact zlt hc56 | omega) ar_56 (len_E ar_56 (by first | exact Nat.ne_of_beq_eq_false rfl | decide)) (by omega) (by omega) (by omega) dX9_becomes_110 (fun H locs hw hS => ?_)
    obtain ⟨X3, hX3⟩ : ∃ Xq, Xq = u3 X 56 0 ((5 * x) + k) v := ⟨_, rfl⟩
    rw [← hX3] at hw
    have hRX3 : Rng X3 := by rw [hX3]; exact rng_set hR (show (-9223372036854775808) ≤ v ∧ v ≤ 9223372036854775807 by omega)
    have hVX3 : X3 56 0 ((5 * x) + k) = v := by rw [hX3]; exact u3_s _ _ _ _ _
    have hFX3 : Frm [6400, 6500, 6700, 6800, 6600, 4023, 5600] X X3 := by rw [hX3]; exact Frm.set Frm.rf (show 5600 ∈ [6400, 6500, 6700, 6800, 6600, 4023, 5600] by first | exact nlm_in rfl | decide)
    rw [hQ9]
    refine ret_v (mc := 0) (ms := 0) hx hb hr hlocks hw hS (by first | exact Nat.le_of_ble_eq_true rfl | omega) (by first | exact Nat.le_of_ble_eq_true rfl | omega) dX9_becomes_111 ?_
    exact ⟨X3, rfl, hRX3, hFX3, by rw [hX3]; exact minv_xval hMI hR (by omega) (by omega) (by omega) (by omega) htv, by omega, Or.inl ⟨by omega, (by rw [hX3, u3_k _ _ _ _ (by first | exact Nat.ne_of_beq_eq_false rfl | decide)]), fun y => ⟨(by rw [hX3, u3_k _ _ _ _ (by first | exact Nat.ne_of_beq_eq_false rfl | decide)]), (by rw [hX3, u3_k _ _ _ _ (by first | exact Nat.ne_of_beq_eq_false rfl | decide)]), (by rw [hX3, u3_k _ _ _ _ (by first | exact Nat.ne_of_beq_eq_false rfl | decide)]), (by rw [hX3, u3_k _ _ _ _ (by first | exact Nat.ne_of_beq_eq_false rfl | decide)]), (by rw [hX3, u3_k _ _ _ _ (by first | exact Nat.ne_of_beq_eq_false rfl | decide)])⟩⟩, (by exact hVX3), fun y hy => (by rw [hX3, u3_j _ _ _ _ hy])⟩
  · refine lv_aload_n hx hb dX9_becomes_7 rfl (lv_at hl 0 rfl) ?_
    refine x_geto hx hb hf9 hw (by first | exact Int.le_refl 0 | omega) (by first | exact zlt hc40 | omega) sl_40_23 lk66 dX9_becomes_8 ?_
    refine lv_aload_n hx hb dX9_becomes_11 rfl (lv_at hl 0 rfl) ?_
    refine x_geti (jz := 22) hx hb hf9 hw (by first | exact Int.le_refl 0 | omega) (by first | exact zlt hc40 | omega) sl_40_22 rfl lk173 dX9_becomes_12 ?_
    have f4 : 0 ≤ X 40 0 22 ∧ X 40 0 22 ≤ 80 := hR 40 0 22
    refine lv_iload_n hx hb dX9_becomes_15 rfl (lv_at hl 1 rfl) ?_
    refine x_iast hx hb hK.1 hw hS (by first | exact Int.le_refl 0 | omega) (by first | exact zlt hc64 | omega) ar_64 (len_E ar_64 (by first | exact Nat.ne_of_beq_eq_false rfl | decide)) (by omega) (by omega) (by omega) dX9_becomes_16 (fun H locs hw hS => ?_)
    obtain ⟨X5, hX5⟩ : ∃ Xq, Xq = u3 X 64 0 (X 40 0 22) x := ⟨_, rfl⟩
    rw [← hX5] at hw
    have hRX5 : Rng X5 := by rw [hX5]; exact rng_set hR (show 0 ≤ x ∧ x ≤ 29 by omega)
    have hVX5 : X5 64 0 (X 40 0 22) = x := by rw [hX5]; exact u3_s _ _ _ _ _
    have hFX5 : Frm [6400, 6500, 6700, 6800, 6600, 4023, 5600] X X5 := by rw [hX5]; exact Frm.set Frm.rf (show 6400 ∈ [6400, 6500, 6700, 6800, 6600, 4023, 5600] by first | exact nlm_in rfl | decide)
    refine lv_aload_n hx hb dX9_becomes_17 rfl (lv_at hl 0 rfl) ?_
    refine x_geto hx hb hf9 hw (by first | exact Int.le_refl 0 | omega) (by first | exact zlt hc40 | omega) sl_40_24 lk69 dX9_becomes_18 ?_
    refine lv_aload_n hx hb dX9_becomes_21 rfl (lv_at hl 0 rfl) ?_
    refine x_geti (jz := 22) hx hb hf9 hw (by first | exact Int.le_refl 0 | omega) (by first | exact zlt hc40 | omega) sl_40_22 rfl lk173 dX9_becomes_22 ?_
    have e6 : X5 40 0 22 = X 40 0 22 := by rw [hX5, u3_k _ _ _ _ (by first | exact Nat.ne_of_beq_eq_false rfl | decide)]
    rw [e6]
    have f7 : 0 ≤ X 40 0 22 ∧ X 40 0 22 ≤ 80 := hR 40 0 22
    refine lv_iload_n hx hb dX9_becomes_25 rfl (lv_at hl 2 rfl) ?_
    refine x_iast hx hb hK.1 hw hS (by first | exact Int.le_refl 0 | omega) (by first | exact zlt hc65 | omega) ar_65 (len_E ar_65 (by first | exact Nat.ne_of_beq_eq_false rfl | decide)) (by omega) (by omega) (by omega) dX9_becomes_26 (fun H locs hw hS => ?_)
    obtain ⟨X8, hX8⟩ : ∃ Xq, Xq = u3 X5 65 0 (X 40 0 22) k := ⟨_, rfl⟩
    rw [← hX8] at hw
    have hRX8 : Rng X8 := by rw [hX8]; exact rng_set hRX5 (show 0 ≤ k ∧ k ≤ 4 by omega)
    have hVX8 : X8 65 0 (X 40 0 22) = k := by rw [hX8]; exact u3_s _ _ _ _ _
    have hFX8 : Frm [6400, 6500, 6700, 6800, 6600, 4023, 5600] X X8 := by rw [hX8]; exact Frm.set hFX5 (show 6500 ∈ [6400, 6500, 6700, 6800, 6600, 4023, 5600] by first | exact nlm_in rfl | decide)
    refine lv_aload_n hx hb dX9_becomes_27 rfl (lv_at hl 0 rfl) ?_
    refine x_geto hx hb hf9 hw (by first | exact Int.le_refl 0 | omega) (by first | exact zlt hc40 | omega) sl_40_26 lk75 dX9_becomes_28 ?_
    refine lv_aload_n hx hb dX9_becomes_31 rfl (lv_at hl 0 rfl) ?_
    refine x_geti (jz := 22) hx hb hf9 hw (by first | exact Int.le_refl 0 | omega) (by first | exact zlt hc40 | omega) sl_40_22 rfl lk173 dX9_becomes_32 ?_
    have e9 : X8 40 0 22 = X 40 0 22 := by rw [hX8, u3_k _ _ _ _ (by first | exact Nat.ne_of_beq_eq_false rfl | decide), hX5, u3_k _ _ _ _ (by first | exact Nat.ne_of_beq_eq_false rfl | decide)]
    rw [e9]
    have f10 : 0 ≤ X 40 0 22 ∧ X 40 0 22 ≤ 80 := hR 40 0 22
    refine lv_iconst (v := jI (-1)) hx hb dX9_becomes_35 rfl ?_
    refine x_iast hx hb hK.1 hw hS (by first | exact Int.le_refl 0 | omega) (by first | exact zlt hc67 | omega) ar_67 (len_E ar_67 (by first | exact Nat.ne_of_beq_eq_false rfl | decide)) (by omega) (by omega) (by omega) dX9_becomes_36 (fun H locs hw hS => ?_)
    obtain ⟨X11, hX11⟩ : ∃ Xq, Xq = u3 X8 67 0 (X 40 0 22) (-1) := ⟨_, rfl⟩
    rw [← hX11] at hw
    have hRX11 : Rng X11 := by rw [hX11]; exact rng_set hRX8 (show (-1) ≤ (-1) ∧ (-1) ≤ 11 by omega)
    have hVX11 : X11 67 0 (X 40 0 22) = (-1) := by rw [hX11]; exact u3_s _ _ _ _ _
    have hFX11 : Frm [6400, 6500, 6700, 6800, 6600, 4023, 5600] X X11 := by rw [hX11]; exact Frm.set hFX8 (show 6700 ∈ [6400, 6500, 6700, 6800, 6600, 4023, 5600] by first | exact nlm_in rfl | decide)
    refine lv_aload_n hx hb dX9_becomes_37 rfl (lv_at hl 0 rfl) ?_
    refine x_geto hx hb hf9 hw (by first | exact Int.le_refl 0 | omega) (by first | exact zlt hc40 | omega) sl_40_27 lk78 dX9_becomes_38 ?_
    refine lv_aload_n hx hb dX9_becomes_41 rfl (lv_at hl 0 rfl) ?_
    refine x_geti (jz := 22) hx hb hf9 hw (by first | exact Int.le_refl 0 | omega) (by first | exact zlt hc40 | omega) sl_40_22 rfl lk173 dX9_becomes_42 ?_
    have e12 : X11 40 0 22 = X 40 0 22 := by rw [hX11, u3_k _ _ _ _ (by first | exact Nat.ne_of_beq_eq_false rfl | decide), hX8, u3_k _ _ _ _ (by first | exact Nat.ne_of_beq_eq_false rfl | decide), hX5, u3_k _ _ _ _ (by first | exact Nat.ne_of_beq_eq_false rfl | decide)]
    rw [e12]
    have f13 : 0 ≤ X 40 0 22 ∧ X 40 0 22 ≤ 80 := hR 40 0 22
    refine lv_aload_n hx hb dX9_becomes_45 rfl (lv_at hl 0 rfl) ?_
    refine x_geto hx hb hf9 hw (by first | exact Int.le_refl 0 | omega) (by first | exact zlt hc40 | omega) sl_40_15 lk48 dX9_becomes_46 ?_
    refine lv_iconst (v := jI 5) hx hb dX9_becomes_49 rfl ?_
    refine lv_iload_n hx hb dX9_becomes_50 rfl (lv_at hl 1 rfl) ?_
    refine x_imul hx hb dX9_becomes_51 ?_
    refine lv_iload_n hx hb dX9_becomes_52 rfl (lv_at hl 2 rfl) ?_
    refine x_iadd hx hb dX9_becomes_53 ?_
    refine x_lald hx hb hK.1 hw (by first | exact Int.le_refl 0 | omega) (by first | exact zlt hc56 | omega) ar_56 (len_E ar_56 (by first | exact Nat.ne_of_beq_eq_false rfl | decide)) (by omega) (by omega) (by omega) dX9_becomes_54 ?_
    have e14 : ∀ p9 q9 : Int, X11 56 p9 q9 = X 56 p9 q9 := fun p9 q9 => by rw [hX11, u3_k _ _ _ _ (by first | exact Nat.ne_of_beq_eq_false rfl | decide), hX8, u3_k _ _ _ _ (by first | exact Nat.ne_of_beq_eq_false rfl | decide), hX5, u3_k _ _ _ _ (by first | exact Nat.ne_of_beq_eq_false rfl | decide)]
    rw [e14 0 ((5 * x) + k)]
    have f15 : (-9223372036854775808) ≤ X 56 0 ((5 * x) + k) ∧ X 56 0 ((5 * x) + k) ≤ 9223372036854775807 := hR 56 0 ((5 * x) + k)
    refine x_last hx hb hK.1 hw hS (by first | exact Int.le_refl 0 | omega) (by first | exact zlt hc68 | omega) ar_68 (len_E ar_68 (by first | exact Nat.ne_of_beq_eq_false rfl | decide)) (by omega) (by omega) (by omega) dX9_becomes_55 (fun H locs hw hS => ?_)
    obtain ⟨X16, hX16⟩ : ∃ Xq, Xq = u3 X11 68 0 (X 40 0 22) (X 56 0 ((5 * x) + k)) := ⟨_, rfl⟩
    rw [← hX16] at hw
    have hRX16 : Rng X16 := by rw [hX16]; exact rng_set hRX11 (show (-9223372036854775808) ≤ (X 56 0 ((5 * x) + k)) ∧ (X 56 0 ((5 * x) + k)) ≤ 9223372036854775807 by omega)
    have hVX16 : X16 68 0 (X 40 0 22) = (X 56 0 ((5 * x) + k)) := by rw [hX16]; exact u3_s _ _ _ _ _
    have hFX16 : Frm [6400, 6500, 6700, 6800, 6600, 4023, 5600] X X16 := by rw [hX16]; exact Frm.set hFX11 (show 6800 ∈ [6400, 6500, 6700, 6800, 6600, 4023, 5600] by first | exact nlm_in rfl | decide)
    refine lv_aload_n hx hb dX9_becomes_56 rfl (lv_at hl 0 rfl) ?_
    refine x_geto hx hb hf9 hw (by first | exact Int.le_refl 0 | omega) (by first | exact zlt hc40 | omega) sl_40_25 lk72 dX9_becomes_57 ?_
    refine lv_aload_n hx hb dX9_becomes_60 rfl (lv_at hl 0 rfl) ?_
    refine x_geti (jz := 22) hx hb hf9 hw (by first | exact Int.le_refl 0 | omega) (by first | exact zlt hc40 | omega) sl_40_22 rfl lk173 dX9_becomes_61 ?_
    have e17 : X16 40 0 22 = X 40 0 22 := by rw [hX16, u3_k _ _ _ _ (by first | exact Nat.ne_of_beq_eq_false rfl | decide), hX11, u3_k _ _ _ _ (by first | exact Nat.ne_of_beq_eq_false rfl | decide), hX8, u3_k _ _ _ _ (by first | exact Nat.ne_of_beq_eq_false rfl | decide), hX5, u3_k _ _ _ _ (by first | exact Nat.ne_of_beq_eq_false rfl | decide)]
    rw [e17]
    have f18 : 0 ≤ X 40 0 22 ∧ X 40 0 22 ≤ 80 := hR 40 0 22
    refine lv_aload_n hx hb dX9_becomes_64 rfl (lv_at hl 0 rfl) ?_
    refine lv_iload_n hx hb dX9_becomes_65 rfl (lv_at hl 1 rfl) ?_
    refine lv_iload_n hx hb dX9_becomes_66 rfl (lv_at hl 2 rfl) ?_
    refine gos_i (run_V (As := [.int (jI x), .int (jI k)]) (rest := [.int (jI (X 40 0 22)), .ref (ad 66 0)]) hx hb hml hown hts (c_X9_lane l D tc base ad cnt X16 Y ln hRX16 hFx x k (by omega) (by omega)) (cwV 2 hts gX9_becomes_X9_lane rfl rfl rfl (by first | exact hd_X9_lane | decide +kernel) ⟨Nat.le_of_ble_eq_true rfl, Nat.le_of_ble_eq_true rfl⟩) hK hw (by first | exact Int.le_refl 0 | omega) (by first | exact zlt hc40 | omega) sl_40_0 rfl rfl hl.1 rfl (Nat.le_of_ble_eq_true rfl) dX9_becomes_67 ⟨Nat.le_of_ble_eq_true rfl, Nat.le_of_ble_eq_true rfl⟩) hS (fun z19 u20 H locs p21 hw hS => ?_)
    obtain ⟨eu20, p21⟩ := p21
    subst eu20
    have e22 : ∀ j : Int, X16 55 0 j = X 55 0 j := fun j => by rw [hX16, u3_k _ _ _ _ (by first | exact Nat.ne_of_beq_eq_false rfl | decide), hX11, u3_k _ _ _ _ (by first | exact Nat.ne_of_beq_eq_false rfl | decide), hX8, u3_k _ _ _ _ (by first | exact Nat.ne_of_beq_eq_false rfl | decide), hX5, u3_k _ _ _ _ (by first | exact Nat.ne_of_beq_eq_false rfl | decide)]
    have e23 : ∀ j : Int, X16 46 0 j = X 46 0 j := fun j => by rw [hX16, u3_k _ _ _ _ (by first | exact Nat.ne_of_beq_eq_false rfl | decide), hX11, u3_k _ _ _ _ (by first | exact Nat.ne_of_beq_eq_false rfl | decide), hX8, u3_k _ _ _ _ (by first | exact Nat.ne_of_beq_eq_false rfl | decide), hX5, u3_k _ _ _ _ (by first | exact Nat.ne_of_beq_eq_false rfl | decide)]
    simp only [e22, e23] at p21
    refine lv_iconst (v := jI 3) hx hb dX9_becomes_70 rfl ?_
    have q900023 : Frm [4001, 6400, 6500, 6600, 6700, 6800, 4023, 5900] X X5 := by rw [hX5]; exact Frm.set Frm.rf (show 6400 ∈ [4001, 6400, 6500, 6600, 6700, 6800, 4023, 5900] by first | exact nlm_in rfl | decide)
    have q900024 : Frm [4001, 6400, 6500, 6600, 6700, 6800, 4023, 5900] X X8 := by rw [hX8]; exact Frm.set q900023 (show 6500 ∈ [4001, 6400, 6500, 6600, 6700, 6800, 4023, 5900] by first | exact nlm_in rfl | decide)
    have q900025 : Frm [4001, 6400, 6500, 6600, 6700, 6800, 4023, 5900] X X11 := by rw [hX11]; exact Frm.set q900024 (show 6700 ∈ [4001, 6400, 6500, 6600, 6700, 6800, 4023, 5900] by first | exact nlm_in rfl | decide)
    have q900026 : Frm [4001, 6400, 6500, 6600, 6700, 6800, 4023, 5900] X X16 := by rw [hX16]; exact Frm.set q900025 (show 6800 ∈ [4001, 6400, 6500, 6600, 6700, 6800, 4023, 5900] by first | exact nlm_in rfl | decide)
    refine x_icmp_lt (tgt := 88) hx hb (by omega) (by omega) dX9_becomes_71 (by decide) (fun c24 => ?_) (fun c24 => ?_)
    · refine lv_iconst (v := jI (-1)) hx hb dX9_becomes_88 rfl ?_
      refine x_iast hx hb hK.1 hw hS (by first | exact Int.le_refl 0 | omega) (by first | exact zlt hc66 | omega) ar_66 (len_E ar_66 (by first | exact Nat.ne_of_beq_eq_false rfl | decide)) (by omega) (by omega) (by omega) dX9_becomes_89 (fun H locs hw hS => ?_)
      obtain ⟨X25, hX25⟩ : ∃ Xq, Xq = u3 X16 66 0 (X 40 0 22) (-1) := ⟨_, rfl⟩
      rw [← hX25] at hw
      have hRX25 : Rng X25 := by rw [hX25]; exact rng_set hRX16 (show (-1) ≤ (-1) ∧ (-1) ≤ 399 by omega)
      have hVX25 : X25 66 0 (X 40 0 22) = (-1) := by rw [hX25]; exact u3_s _ _ _ _ _
      have hFX25 : Frm [6400, 6500, 6700, 6800, 6600, 4023, 5600] X X25 := by rw [hX25]; exact Frm.set hFX16 (show 6600 ∈ [6400, 6500, 6700, 6800, 6600, 4023, 5600] by first | exact nlm_in rfl | decide)
      refine lv_aload_n hx hb dX9_becomes_90 rfl (lv_at hl 0 rfl) ?_
      refine lv_dup hx hb dX9_becomes_91 rfl ?_
      refine x_geti (jz := 22) hx hb hf9 hw (by first | exact Int.le_refl 0 | omega) (by first | exact zlt hc40 | omega) sl_40_22 rfl lk173 dX9_becomes_92 ?_
      have e26 : X25 40 0 22 = X 40 0 22 := by rw [hX25, u3_k _ _ _ _ (by first | exact Nat.ne_of_beq_eq_false rfl | decide), hX16, u3_k _ _ _ _ (by first | exact Nat.ne_of_beq_eq_false rfl | decide), hX11, u3_k _ _ _ _ (by first | exact Nat.ne_of_beq_eq_false rfl | decide), hX8, u3_k _ _ _ _ (by first | exact Nat.ne_of_beq_eq_false rfl | decide), hX5, u3_k _ _ _ _ (by first | exact Nat.ne_of_beq_eq_false rfl | decide)]
      rw [e26]
      have f27 : 0 ≤ X 40 0 22 ∧ X 40 0 22 ≤ 80 := hR 40 0 22
      refine lv_iconst (v := jI 1) hx hb dX9_becomes_95 rfl ?_
      refine x_iadd hx hb dX9_becomes_96 ?_
      refine x_puti (jz := 22) hx hb hf9 ⟨tyX9_ok, nmX9⟩ hw hS (by first | exact Int.le_refl 0 | omega) (by first | exact zlt hc40 | omega) sl_40_22 rfl lk173 rfl (tyX9_ok 22 (by decide)) rfl rfl dX9_becomes_97 (fun H locs hw hS => ?_)
      obtain ⟨X28, hX28⟩ : ∃ Xq, Xq = u3 X25 40 0 22 ((X 40 0 22) + 1) := ⟨_, rfl⟩
      rw [← hX28] at hw
      have hRX28 : Rng X28 := by rw [hX28]; exact rng_set hRX25 (show 0 ≤ ((X 40 0 22) + 1) ∧ ((X 40 0 22) + 1) ≤ 80 by omega)
      have hVX28 : X28 40 0 22 = ((X 40 0 22) + 1) := by rw [hX28]; exact u3_s _ _ _ _ _
      have hFX28 : Frm [6400, 6500, 6700, 6800, 6600, 4023, 5600] X X28 := by rw [hX28]; exact Frm.set hFX25 (show 4023 ∈ [6400, 6500, 6700, 6800, 6600, 4023, 5600] by first | exact nlm_in rfl | decide)
      refine lv_aload_n hx hb dX9_becomes_100 rfl (lv_at hl 0 rfl) ?_
      refine x_geto hx hb hf9 hw (by first | exact Int.le_refl 0 | omega) (by first | exact zlt hc40 | omega) sl_40_15 lk48 dX9_becomes_101 ?_
      refine lv_iconst (v := jI 5) hx hb dX9_becomes_104 rfl ?_
      refine lv_iload_n hx hb dX9_becomes_105 rfl (lv_at hl 1 rfl) ?_
      refine x_imul hx hb dX9_becomes_106 ?_
      refine lv_iload_n hx hb dX9_becomes_107 rfl (lv_at hl 2 rfl) ?_
      refine x_iadd hx hb dX9_becomes_108 ?_
      refine lv_lload_n hx hb dX9_becomes_109 rfl (lv_at hl 3 rfl) ?_
      refine x_last hx hb hK.1 hw hS (by first | exact Int.le_refl 0 | omega) (by first | exact zlt hc56 | omega) ar_56 (len_E ar_56 (by first | exact Nat.ne_of_beq_eq_false rfl | decide)) (by omega) (by omega) (by omega) dX9_becomes_110 (fun H locs hw hS => ?_)
      obtain ⟨X29, hX29⟩ : ∃ Xq, Xq = u3 X28 56 0 ((5 * x) + k) v := ⟨_, rfl⟩
      rw [← hX29] at hw
      have hRX29 : Rng X29 := by rw [hX29]; exact rng_set hRX28 (show (-9223372036854775808) ≤ v ∧ v ≤ 9223372036854775807 by omega)
      have hVX29 : X29 56 0 ((5 * x) + k) = v := by rw [hX29]; exact u3_s _ _ _ _ _
      have hFX29 : Frm [6400, 6500, 6700, 6800, 6600, 4023, 5600] X X29 := by rw [hX29]; exact Frm.set hFX28 (show 5600 ∈ [6400, 6500, 6700, 6800, 6600, 4023, 5600] by first | exact nlm_in rfl | decide)
      rw [hQ9]
      refine ret_v (mc := 0) (ms := 0) hx hb hr hlocks hw hS (by first | exact Nat.le_of_ble_eq_true rfl | omega) (by first | exact Nat.le_of_ble_eq_true rfl | omega) dX9_becomes_111 ?_
      have q35 : Frm [4001, 6400, 6500, 6600, 6700, 6800, 4023, 5900] X X25 := by rw [hX25]; exact Frm.set q900026 (show 6600 ∈ [4001, 6400, 6500, 6600, 6700, 6800, 4023, 5900] by first | exact nlm_in rfl | decide)
      have q36 : Frm [4001, 6400, 6500, 6600, 6700, 6800, 4023, 5900] X X28 := by rw [hX28]; exact Frm.set q35 (show 4023 ∈ [4001, 6400, 6500, 6600, 6700, 6800, 4023, 5900] by first | exact nlm_in rfl | decide)
      have hMn30 : MInv X28 := minv_note (th := x) (fd := k) (rw := 0) (it := -1) (ws := X 56 0 (5 * x + k)) hMI (by omega) q36 (by exact hVX28) (fun j hj => ⟨(by rw [hX28, u3_k _ _ _ _ (by first | exact Nat.ne_of_beq_eq_false rfl | decide), hX25, u3_k _ _ _ _ (by first | exact Nat.ne_of_beq_eq_false rfl | decide), hX16, u3_k _ _ _ _ (by first | exact Nat.ne_of_beq_eq_false rfl | decide), hX11, u3_k _ _ _ _ (by first | exact Nat.ne_of_beq_eq_false rfl | decide), hX8, u3_k _ _ _ _ (by first | exact Nat.ne_of_beq_eq_false rfl | decide), hX5, u3_j _ _ _ _ (by omega)]), (by rw [hX28, u3_k _ _ _ _ (by first | exact Nat.ne_of_beq_eq_false rfl | decide), hX25, u3_k _ _ _ _ (by first | exact Nat.ne_of_beq_eq_false rfl | decide), hX16, u3_k _ _ _ _ (by first | exact Nat.ne_of_beq_eq_false rfl | decide), hX11, u3_k _ _ _ _ (by first | exact Nat.ne_of_beq_eq_false rfl | decide), hX8, u3_j _ _ _ _ (by omega), hX5, u3_k _ _ _ _ (by first | exact Nat.ne_of_beq_eq_false rfl | decide)]), (by rw [hX28, u3_k _ _ _ _ (by first | exact Nat.ne_of_beq_eq_false rfl | decide), hX25, u3_j _ _ _ _ (by omega), hX16, u3_k _ _ _ _ (by first | exact Nat.ne_of_beq_eq_false rfl | decide), hX11, u3_k _ _ _ _ (by first | exact Nat.ne_of_beq_eq_false rfl | decide), hX8, u3_k _ _ _ _ (by first | exact Nat.ne_of_beq_eq_false rfl | decide), hX5, u3_k _ _ _ _ (by first | exact Nat.ne_of_beq_eq_false rfl | decide)]), (by rw [hX28, u3_k _ _ _ _ (by first | exact Nat.ne_of_beq_eq_false rfl | decide), hX25, u3_k _ _ _ _ (by first | exact Nat.ne_of_beq_eq_false rfl | decide), hX16, u3_k _ _ _ _ (by first | exact Nat.ne_of_beq_eq_false rfl | decide), hX11, u3_j _ _ _ _ (by omega), hX8, u3_k _ _ _ _ (by first | exact Nat.ne_of_beq_eq_false rfl | decide), hX5, u3_k _ _ _ _ (by first | exact Nat.ne_of_beq_eq_false rfl | decide)]), (by rw [hX28, u3_k _ _ _ _ (by first | exact Nat.ne_of_beq_eq_false rfl | decide), hX25, u3_k _ _ _ _ (by first | exact Nat.ne_of_beq_eq_false rfl | decide), hX16, u3_j _ _ _ _ (by omega), hX11, u3_k _ _ _ _ (by first | exact Nat.ne_of_beq_eq_false rfl | decide), hX8, u3_k _ _ _ _ (by first | exact Nat.ne_of_beq_eq_false rfl | decide), hX5, u3_k _ _ _ _ (by first | exact Nat.ne_of_beq_eq_false rfl | decide)])⟩) (by rw [hX28, u3_k _ _ _ _ (by first | exact Nat.ne_of_beq_eq_false rfl | decide), hX25, u3_k _ _ _ _ (by first | exact Nat.ne_of_beq_eq_false rfl | decide), hX16, u3_k _ _ _ _ (by first | exact Nat.ne_of_beq_eq_false rfl | decide)]; exact hVX11) ⟨fun _ => ⟨(by rw [hX28, u3_k _ _ _ _ (by first | exact Nat.ne_of_beq_eq_false rfl | decide), hX25, u3_k _ _ _ _ (by first | exact Nat.ne_of_beq_eq_false rfl | decide), hX16, u3_k _ _ _ _ (by first | exact Nat.ne_of_beq_eq_false rfl | decide), hX11, u3_k _ _ _ _ (by first | exact Nat.ne_of_beq_eq_false rfl | decide), hX8, u3_k _ _ _ _ (by first | exact Nat.ne_of_beq_eq_false rfl | decide)]; exact hVX5), (by rw [hX28, u3_k _ _ _ _ (by first | exact Nat.ne_of_beq_eq_false rfl | decide), hX25, u3_k _ _ _ _ (by first | exact Nat.ne_of_beq_eq_false rfl | decide), hX16, u3_k _ _ _ _ (by first | exact Nat.ne_of_beq_eq_false rfl | decide), hX11, u3_k _ _ _ _ (by first | exact Nat.ne_of_beq_eq_false rfl | decide)]; exact hVX8), (by rw [hX28, u3_k _ _ _ _ (by first | exact Nat.ne_of_beq_eq_false rfl | decide), hX25, u3_k _ _ _ _ (by first | exact Nat.ne_of_beq_eq_false rfl | decide)]; exact hVX16), by omega, by omega, hMI.1 x k (by omega) (by omega) (by omega) (by omega)⟩, fun q => by omega⟩
      have e37 : X28 40 0 13 = X 40 0 13 := by rw [hX28, u3_j _ _ _ _ (by decide), hX25, u3_k _ _ _ _ (by first | exact Nat.ne_of_beq_eq_false rfl | decide), hX16, u3_k _ _ _ _ (by first | exact Nat.ne_of_beq_eq_false rfl | decide), hX11, u3_k _ _ _ _ (by first | exact Nat.ne_of_beq_eq_false rfl | decide), hX8, u3_k _ _ _ _ (by first | exact Nat.ne_of_beq_eq_false rfl | decide), hX5, u3_k _ _ _ _ (by first | exact Nat.ne_of_beq_eq_false rfl | decide)]
      have e38 : ∀ j : Int, X28 44 0 j = X 44 0 j := fun j => by rw [hX28, u3_k _ _ _ _ (by first | exact Nat.ne_of_beq_eq_false rfl | decide), hX25, u3_k _ _ _ _ (by first | exact Nat.ne_of_beq_eq_false rfl | decide), hX16, u3_k _ _ _ _ (by first | exact Nat.ne_of_beq_eq_false rfl | decide), hX11, u3_k _ _ _ _ (by first | exact Nat.ne_of_beq_eq_false rfl | decide), hX8, u3_k _ _ _ _ (by first | exact Nat.ne_of_beq_eq_false rfl | decide), hX5, u3_k _ _ _ _ (by first | exact Nat.ne_of_beq_eq_false rfl | decide)]
      have e39 : ∀ j : Int, X28 46 0 j = X 46 0 j := fun j => by rw [hX28, u3_k _ _ _ _ (by first | exact Nat.ne_of_beq_eq_false rfl | decide), hX25, u3_k _ _ _ _ (by first | exact Nat.ne_of_beq_eq_false rfl | decide), hX16, u3_k _ _ _ _ (by first | exact Nat.ne_of_beq_eq_false rfl | decide), hX11, u3_k _ _ _ _ (by first | exact Nat.ne_of_beq_eq_false rfl | decide), hX8, u3_k _ _ _ _ (by first | exact Nat.ne_of_beq_eq_false rfl | decide), hX5, u3_k _ _ _ _ (by first | exact Nat.ne_of_beq_eq_false rfl | decide)]
      have e40 : ∀ j : Int, X28 55 0 j = X 55 0 j := fun j => by rw [hX28, u3_k _ _ _ _ (by first | exact Nat.ne_of_beq_eq_false rfl | decide), hX25, u3_k _ _ _ _ (by first | exact Nat.ne_of_beq_eq_false rfl | decide), hX16, u3_k _ _ _ _ (by first | exact Nat.ne_of_beq_eq_false rfl | decide), hX11, u3_k _ _ _ _ (by first | exact Nat.ne_of_beq_eq_false rfl | decide), hX8, u3_k _ _ _ _ (by first | exact Nat.ne_of_beq_eq_false rfl | decide), hX5, u3_k _ _ _ _ (by first | exact Nat.ne_of_beq_eq_false rfl | decide)]
      exact ⟨X29, rfl, hRX29, hFX29, by rw [hX29]; exact minv_xval hMn30 hRX28 (by omega) (by simp only [e37, e38, e39, e40]; omega) (by omega) (by simp only [e37, e38, e39, e40]; omega) (by simp only [e37, e38, e39, e40]; exact htv), by omega, Or.inr ⟨by omega, (by rw [hX29, u3_k _ _ _ _ (by first | exact Nat.ne_of_beq_eq_false rfl | decide)]; exact hVX28), ⟨(by rw [hX29, u3_k _ _ _ _ (by first | exact Nat.ne_of_beq_eq_false rfl | decide), hX28, u3_k _ _ _ _ (by first | exact Nat.ne_of_beq_eq_false rfl | decide), hX25, u3_k _ _ _ _ (by first | exact Nat.ne_of_beq_eq_false rfl | decide), hX16, u3_k _ _ _ _ (by first | exact Nat.ne_of_beq_eq_false rfl | decide), hX11, u3_k _ _ _ _ (by first | exact Nat.ne_of_beq_eq_false rfl | decide), hX8, u3_k _ _ _ _ (by first | exact Nat.ne_of_beq_eq_false rfl | decide)]; exact hVX5), (by rw [hX29, u3_k _ _ _ _ (by first | exact Nat.ne_of_beq_eq_false rfl | decide), hX28, u3_k _ _ _ _ (by first | exact Nat.ne_of_beq_eq_false rfl | decide), hX25, u3_k _ _ _ _ (by first | exact Nat.ne_of_beq_eq_false rfl | decide), hX16, u3_k _ _ _ _ (by first | exact Nat.ne_of_beq_eq_false rfl | decide), hX11, u3_k _ _ _ _ (by first | exact Nat.ne_of_beq_eq_false rfl | decide)]; exact hVX8), (by rw [hX29, u3_k _ _ _ _ (by first | exact Nat.ne_of_beq_eq_false rfl | decide), hX28, u3_k _ _ _ _ (by first | exact Nat.ne_of_beq_eq_false rfl | decide)]; rw [hVX25]; split <;> omega), (by rw [hX29, u3_k _ _ _ _ (by first | exact Nat.ne_of_beq_eq_false rfl | decide), hX28, u3_k _ _ _ _ (by first | exact Nat.ne_of_beq_eq_false rfl | decide), hX25, u3_k _ _ _ _ (by first | exact Nat.ne_of_beq_eq_false rfl | decide), hX16, u3_k _ _ _ _ (by first | exact Nat.ne_of_beq_eq_false rfl | decide)]; exact hVX11), (by rw [hX29, u3_k _ _ _ _ (by first | exact Nat.ne_of_beq_eq_false rfl | decide), hX28, u3_k _ _ _ _ (by first | exact Nat.ne_of_beq_eq_false rfl | decide), hX25, u3_k _ _ _ _ (by first | exact Nat.ne_of_beq_eq_false rfl | decide)]; exact hVX16)⟩, fun y hy => ⟨(by rw [hX29, u3_k _ _ _ _ (by first | exact Nat.ne_of_beq_eq_false rfl | decide), hX28, u3_k _ _ _ _ (by first | exact Nat.ne_of_beq_eq_false rfl | decide), hX25, u3_k _ _ _ _ (by first | exact Nat.ne_of_beq_eq_false rfl | decide), hX16, u3_k _ _ _ _ (by first | exact Nat.ne_of_beq_eq_false rfl | decide), hX11, u3_k _ _ _ _ (by first | exact Nat.ne_of_beq_eq_false rfl | decide), hX8, u3_k _ _ _ _ (by first | exact Nat.ne_of_beq_eq_false rfl | decide), hX5, u3_j _ _ _ _ hy]), (by rw [hX29, u3_k _ _ _ _ (by first | exact Nat.ne_of_beq_eq_false rfl | decide), hX28, u3_k _ _ _ _ (by first | exact Nat.ne_of_beq_eq_false rfl | decide), hX25, u3_k _ _ _ _ (by first | exact Nat.ne_of_beq_eq_false rfl | decide), hX16, u3_k _ _ _ _ (by first | exact Nat.ne_of_beq_eq_false rfl | decide), hX11, u3_k _ _ _ _ (by first | exact Nat.ne_of_beq_eq_false rfl | decide), hX8, u3_j _ _ _ _ hy, hX5, u3_k _ _ _ _ (by first | exact Nat.ne_of_beq_eq_false rfl | decide)]), (by rw [hX29, u3_k _ _ _ _ (by first | exact Nat.ne_of_beq_eq_false rfl | decide), hX28, u3_k _ _ _ _ (by first | exact Nat.ne_of_beq_eq_false rfl | decide), hX25, u3_j _ _ _ _ hy, hX16, u3_k _ _ _ _ (by first | exact Nat.ne_of_beq_eq_false rfl | decide), hX11, u3_k _ _ _ _ (by first | exact Nat.ne_of_beq_eq_false rfl | decide), hX8, u3_k _ _ _ _ (by first | exact Nat.ne_of_beq_eq_false rfl | decide), hX5, u3_k _ _ _ _ (by first | exact Nat.ne_of_beq_eq_false rfl | decide)]), (by rw [hX29, u3_k _ _ _ _ (by first | exact Nat.ne_of_beq_eq_false rfl | decide), hX28, u3_k _ _ _ _ (by first | exact Nat.ne_of_beq_eq_false rfl | decide), hX25, u3_k _ _ _ _ (by first | exact Nat.ne_of_beq_eq_false rfl | decide), hX16, u3_k _ _ _ _ (by first | exact Nat.ne_of_beq_eq_false rfl | decide), hX11, u3_j _ _ _ _ hy, hX8, u3_k _ _ _ _ (by first | exact Nat.ne_of_beq_eq_false rfl | decide), hX5, u3_k _ _ _ _ (by first | exact Nat.ne_of_beq_eq_false rfl | decide)]), (by rw [hX29, u3_k _ _ _ _ (by first | exact Nat.ne_of_beq_eq_false rfl | decide), hX28, u3_k _ _ _ _ (by first | exact Nat.ne_of_beq_eq_false rfl | decide), hX25, u3_k _ _ _ _ (by first | exact Nat.ne_of_beq_eq_false rfl | decide), hX16, u3_j _ _ _ _ hy, hX11, u3_k _ _ _ _ (by first | exact Nat.ne_of_beq_eq_false rfl | decide), hX8, u3_k _ _ _ _ (by first | exact Nat.ne_of_beq_eq_false rfl | decide), hX5, u3_k _ _ _ _ (by first | exact Nat.ne_of_beq_eq_false rfl | decide)])⟩⟩, (by exact hVX29), fun y hy => (by rw [hX29, u3_j _ _ _ _ hy, hX28, u3_k _ _ _ _ (by first | exact Nat.ne_of_beq_eq_false rfl | decide), hX25, u3_k _ _ _ _ (by first | exact Nat.ne_of_beq_eq_false rfl | decide), hX16, u3_k _ _ _ _ (by first | exact Nat.ne_of_beq_eq_false rfl | decide), hX11, u3_k _ _ _ _ (by first | exact Nat.ne_of_beq_eq_false rfl | decide), hX8, u3_k _ _ _ _ (by first | exact Nat.ne_of_beq_eq_false rfl | decide), hX5, u3_k _ _ _ _ (by first | exact Nat.ne_of_beq_eq_false rfl | decide)])⟩
    · refine lv_aload_n hx hb dX9_becomes_74 rfl (lv_at hl 0 rfl) ?_
      refine x_geto hx hb hf9 hw (by first | exact Int.le_refl 0 | omega) (by first | exact zlt hc40 | omega) sl_40_15 lk48 dX9_becomes_75 ?_
      refine lv_iconst (v := jI 5) hx hb dX9_becomes_78 rfl ?_
      refine lv_iload_n hx hb dX9_becomes_79 rfl (lv_at hl 1 rfl) ?_
      refine x_imul hx hb dX9_becomes_80 ?_
      refine lv_iload_n hx hb dX9_becomes_81 rfl (lv_at hl 2 rfl) ?_
      refine x_iadd hx hb dX9_becomes_82 ?_
      refine x_lald hx hb hK.1 hw (by first | exact Int.le_refl 0 | omega) (by first | exact zlt hc56 | omega) ar_56 (len_E ar_56 (by first | exact Nat.ne_of_beq_eq_false rfl | decide)) (by omega) (by omega) (by omega) dX9_becomes_83 ?_
      have e41 : ∀ p9 q9 : Int, X16 56 p9 q9 = X 56 p9 q9 := fun p9 q9 => by rw [hX16, u3_k _ _ _ _ (by first | exact Nat.ne_of_beq_eq_false rfl | decide), hX11, u3_k _ _ _ _ (by first | exact Nat.ne_of_beq_eq_false rfl | decide), hX8, u3_k _ _ _ _ (by first | exact Nat.ne_of_beq_eq_false rfl | decide), hX5, u3_k _ _ _ _ (by first | exact Nat.ne_of_beq_eq_false rfl | decide)]
      rw [e41 0 ((5 * x) + k)]
      have f42 : (-9223372036854775808) ≤ X 56 0 ((5 * x) + k) ∧ X 56 0 ((5 * x) + k) ≤ 9223372036854775807 := hR 56 0 ((5 * x) + k)
      refine x_l2i hx hb dX9_becomes_84 ?_
      refine lv_goto (tgt := 89) hx hb dX9_becomes_85 (by decide) ?_
      refine x_iast hx hb hK.1 hw hS (by first | exact Int.le_refl 0 | omega) (by first | exact zlt hc66 | omega) ar_66 (len_E ar_66 (by first | exact Nat.ne_of_beq_eq_false rfl | decide)) (by omega) (by omega) (by omega) dX9_becomes_89 (fun H locs hw hS => ?_)
      obtain ⟨X43, hX43⟩ : ∃ Xq, Xq = u3 X16 66 0 (X 40 0 22) (X 56 0 ((5 * x) + k)) := ⟨_, rfl⟩
      rw [← hX43] at hw
      have hRX43 : Rng X43 := by rw [hX43]; exact rng_set hRX16 (show (-1) ≤ (X 56 0 ((5 * x) + k)) ∧ (X 56 0 ((5 * x) + k)) ≤ 399 by omega)
      have hVX43 : X43 66 0 (X 40 0 22) = (X 56 0 ((5 * x) + k)) := by rw [hX43]; exact u3_s _ _ _ _ _
      have hFX43 : Frm [6400, 6500, 6700, 6800, 6600, 4023, 5600] X X43 := by rw [hX43]; exact Frm.set hFX16 (show 6600 ∈ [6400, 6500, 6700, 6800, 6600, 4023, 5600] by first | exact nlm_in rfl | decide)
      refine lv_aload_n hx hb dX9_becomes_90 rfl (lv_at hl 0 rfl) ?_
      refine lv_dup hx hb dX9_becomes_91 rfl ?_
      refine x_geti (jz := 22) hx hb hf9 hw (by first | exact Int.le_refl 0 | omega) (by first | exact zlt hc40 | omega) sl_40_22 rfl lk173 dX9_becomes_92 ?_
      have e44 : X43 40 0 22 = X 40 0 22 := by rw [hX43, u3_k _ _ _ _ (by first | exact Nat.ne_of_beq_eq_false rfl | decide), hX16, u3_k _ _ _ _ (by first | exact Nat.ne_of_beq_eq_false rfl | decide), hX11, u3_k _ _ _ _ (by first | exact Nat.ne_of_beq_eq_false rfl | decide), hX8, u3_k _ _ _ _ (by first | exact Nat.ne_of_beq_eq_false rfl | decide), hX5, u3_k _ _ _ _ (by first | exact Nat.ne_of_beq_eq_false rfl | decide)]
      rw [e44]
      have f45 : 0 ≤ X 40 0 22 ∧ X 40 0 22 ≤ 80 := hR 40 0 22
      refine lv_iconst (v := jI 1) hx hb dX9_becomes_95 rfl ?_
      refine x_iadd hx hb dX9_becomes_96 ?_
      refine x_puti (jz := 22) hx hb hf9 ⟨tyX9_ok, nmX9⟩ hw hS (by first | exact Int.le_refl 0 | omega) (by first | exact zlt hc40 | omega) sl_40_22 rfl lk173 rfl (tyX9_ok 22 (by decide)) rfl rfl dX9_becomes_97 (fun H locs hw hS => ?_)
      obtain ⟨X46, hX46⟩ : ∃ Xq, Xq = u3 X43 40 0 22 ((X 40 0 22) + 1) := ⟨_, rfl⟩
      rw [← hX46] at hw
      have hRX46 : Rng X46 := by rw [hX46]; exact rng_set hRX43 (show 0 ≤ ((X 40 0 22) + 1) ∧ ((X 40 0 22) + 1) ≤ 80 by omega)
      have hVX46 : X46 40 0 22 = ((X 40 0 22) + 1) := by rw [hX46]; exact u3_s _ _ _ _ _
      have hFX46 : Frm [6400, 6500, 6700, 6800, 6600, 4023, 5600] X X46 := by rw [hX46]; exact Frm.set hFX43 (show 4023 ∈ [6400, 6500, 6700, 6800, 6600, 4023, 5600] by first | exact nlm_in rfl | decide)
      refine lv_aload_n hx hb dX9_becomes_100 rfl (lv_at hl 0 rfl) ?_
      refine x_geto hx hb hf9 hw (by first | exact Int.le_refl 0 | omega) (by first | exact zlt hc40 | omega) sl_40_15 lk48 dX9_becomes_101 ?_
      refine lv_iconst (v := jI 5) hx hb dX9_becomes_104 rfl ?_
      refine lv_iload_n hx hb dX9_becomes_105 rfl (lv_at hl 1 rfl) ?_
      refine x_imul hx hb dX9_becomes_106 ?_
      refine lv_iload_n hx hb dX9_becomes_107 rfl (lv_at hl 2 rfl) ?_
      refine x_iadd hx hb dX9_becomes_108 ?_
      refine lv_lload_n hx hb dX9_becomes_109 rfl (lv_at hl 3 rfl) ?_
      refine x_last hx hb hK.1 hw hS (by first | exact Int.le_refl 0 | omega) (by first | exact zlt hc56 | omega) ar_56 (len_E ar_56 (by first | exact Nat.ne_of_beq_eq_false rfl | decide)) (by omega) (by omega) (by omega) dX9_becomes_110 (fun H locs hw hS => ?_)
      obtain ⟨X47, hX47⟩ : ∃ Xq, Xq = u3 X46 56 0 ((5 * x) + k) v := ⟨_, rfl⟩
      rw [← hX47] at hw
      have hRX47 : Rng X47 := by rw [hX47]; exact rng_set hRX46 (show (-9223372036854775808) ≤ v ∧ v ≤ 9223372036854775807 by omega)
      have hVX47 : X47 56 0 ((5 * x) + k) = v := by rw [hX47]; exact u3_s _ _ _ _ _
      have hFX47 : Frm [6400, 6500, 6700, 6800, 6600, 4023, 5600] X X47 := by rw [hX47]; exact Frm.set hFX46 (show 5600 ∈ [6400, 6500, 6700, 6800, 6600, 4023, 5600] by first | exact nlm_in rfl | decide)
      rw [hQ9]
      refine ret_v (mc := 0) (ms := 0) hx hb hr hlocks hw hS (by first | exact Nat.le_of_ble_eq_true rfl | omega) (by first | exact Nat.le_of_ble_eq_true rfl | omega) dX9_becomes_111 ?_
      have q53 : Frm [4001, 6400, 6500, 6600, 6700, 6800, 4023, 5900] X X43 := by rw [hX43]; exact Frm.set q900026 (show 6600 ∈ [4001, 6400, 6500, 6600, 6700, 6800, 4023, 5900] by first | exact nlm_in rfl | decide)
      have q54 : Frm [4001, 6400, 6500, 6600, 6700, 6800, 4023, 5900] X X46 := by rw [hX46]; exact Frm.set q53 (show 4023 ∈ [4001, 6400, 6500, 6600, 6700, 6800, 4023, 5900] by first | exact nlm_in rfl | decide)
      have hMn48 : MInv X46 := minv_note (th := x) (fd := k) (rw := 0) (it := -1) (ws := X 56 0 (5 * x + k)) hMI (by omega) q54 (by exact hVX46) (fun j hj => ⟨(by rw [hX46, u3_k _ _ _ _ (by first | exact Nat.ne_of_beq_eq_false rfl | decide), hX43, u3_k _ _ _ _ (by first | exact Nat.ne_of_beq_eq_false rfl | decide), hX16, u3_k _ _ _ _ (by first | exact Nat.ne_of_beq_eq_false rfl | decide), hX11, u3_k _ _ _ _ (by first | exact Nat.ne_of_beq_eq_false rfl | decide), hX8, u3_k _ _ _ _ (by first | exact Nat.ne_of_beq_eq_false rfl | decide), hX5, u3_j _ _ _ _ (by omega)]), (by rw [hX46, u3_k _ _ _ _ (by first | exact Nat.ne_of_beq_eq_false rfl | decide), hX43, u3_k _ _ _ _ (by first | exact Nat.ne_of_beq_eq_false rfl | decide), hX16, u3_k _ _ _ _ (by first | exact Nat.ne_of_beq_eq_false rfl | decide), hX11, u3_k _ _ _ _ (by first | exact Nat.ne_of_beq_eq_false rfl | decide), hX8, u3_j _ _ _ _ (by omega), hX5, u3_k _ _ _ _ (by first | exact Nat.ne_of_beq_eq_false rfl | decide)]), (by rw [hX46, u3_k _ _ _ _ (by first | exact Nat.ne_of_beq_eq_false rfl | decide), hX43, u3_j _ _ _ _ (by omega), hX16, u3_k _ _ _ _ (by first | exact Nat.ne_of_beq_eq_false rfl | decide), hX11, u3_k _ _ _ _ (by first | exact Nat.ne_of_beq_eq_false rfl | decide), hX8, u3_k _ _ _ _ (by first | exact Nat.ne_of_beq_eq_false rfl | decide), hX5, u3_k _ _ _ _ (by first | exact Nat.ne_of_beq_eq_false rfl | decide)]), (by rw [hX46, u3_k _ _ _ _ (by first | exact Nat.ne_of_beq_eq_false rfl | decide), hX43, u3_k _ _ _ _ (by first | exact Nat.ne_of_beq_eq_false rfl | decide), hX16, u3_k _ _ _ _ (by first | exact Nat.ne_of_beq_eq_false rfl | decide), hX11, u3_j _ _ _ _ (by omega), hX8, u3_k _ _ _ _ (by first | exact Nat.ne_of_beq_eq_false rfl | decide), hX5, u3_k _ _ _ _ (by first | exact Nat.ne_of_beq_eq_false rfl | decide)]), (by rw [hX46, u3_k _ _ _ _ (by first | exact Nat.ne_of_beq_eq_false rfl | decide), hX43, u3_k _ _ _ _ (by first | exact Nat.ne_of_beq_eq_false rfl | decide), hX16, u3_j _ _ _ _ (by omega), hX11, u3_k _ _ _ _ (by first | exact Nat.ne_of_beq_eq_false rfl | decide), hX8, u3_k _ _ _ _ (by first | exact Nat.ne_of_beq_eq_false rfl | decide), hX5, u3_k _ _ _ _ (by first | exact Nat.ne_of_beq_eq_false rfl | decide)])⟩) (by rw [hX46, u3_k _ _ _ _ (by first | exact Nat.ne_of_beq_eq_false rfl | decide), hX43, u3_k _ _ _ _ (by first | exact Nat.ne_of_beq_eq_false rfl | decide), hX16, u3_k _ _ _ _ (by first | exact Nat.ne_of_beq_eq_false rfl | decide)]; exact hVX11) ⟨fun _ => ⟨(by rw [hX46, u3_k _ _ _ _ (by first | exact Nat.ne_of_beq_eq_false rfl | decide), hX43, u3_k _ _ _ _ (by first | exact Nat.ne_of_beq_eq_false rfl | decide), hX16, u3_k _ _ _ _ (by first | exact Nat.ne_of_beq_eq_false rfl | decide), hX11, u3_k _ _ _ _ (by first | exact Nat.ne_of_beq_eq_false rfl | decide), hX8, u3_k _ _ _ _ (by first | exact Nat.ne_of_beq_eq_false rfl | decide)]; exact hVX5), (by rw [hX46, u3_k _ _ _ _ (by first | exact Nat.ne_of_beq_eq_false rfl | decide), hX43, u3_k _ _ _ _ (by first | exact Nat.ne_of_beq_eq_false rfl | decide), hX16, u3_k _ _ _ _ (by first | exact Nat.ne_of_beq_eq_false rfl | decide), hX11, u3_k _ _ _ _ (by first | exact Nat.ne_of_beq_eq_false rfl | decide)]; exact hVX8), (by rw [hX46, u3_k _ _ _ _ (by first | exact Nat.ne_of_beq_eq_false rfl | decide), hX43, u3_k _ _ _ _ (by first | exact Nat.ne_of_beq_eq_false rfl | decide)]; exact hVX16), by omega, by omega, hMI.1 x k (by omega) (by omega) (by omega) (by omega)⟩, fun q => by omega⟩
      have e55 : X46 40 0 13 = X 40 0 13 := by rw [hX46, u3_j _ _ _ _ (by decide), hX43, u3_k _ _ _ _ (by first | exact Nat.ne_of_beq_eq_false rfl | decide), hX16, u3_k _ _ _ _ (by first | exact Nat.ne_of_beq_eq_false rfl | decide), hX11, u3_k _ _ _ _ (by first | exact Nat.ne_of_beq_eq_false rfl | decide), hX8, u3_k _ _ _ _ (by first | exact Nat.ne_of_beq_eq_false rfl | decide), hX5, u3_k _ _ _ _ (by first | exact Nat.ne_of_beq_eq_false rfl | decide)]
      have e56 : ∀ j : Int, X46 44 0 j = X 44 0 j := fun j => by rw [hX46, u3_k _ _ _ _ (by first | exact Nat.ne_of_beq_eq_false rfl | decide), hX43, u3_k _ _ _ _ (by first | exact Nat.ne_of_beq_eq_false rfl | decide), hX16, u3_k _ _ _ _ (by first | exact Nat.ne_of_beq_eq_false rfl | decide), hX11, u3_k _ _ _ _ (by first | exact Nat.ne_of_beq_eq_false rfl | decide), hX8, u3_k _ _ _ _ (by first | exact Nat.ne_of_beq_eq_false rfl | decide), hX5, u3_k _ _ _ _ (by first | exact Nat.ne_of_beq_eq_false rfl | decide)]
      have e57 : ∀ j : Int, X46 46 0 j = X 46 0 j := fun j => by rw [hX46, u3_k _ _ _ _ (by first | exact Nat.ne_of_beq_eq_false rfl | decide), hX43, u3_k _ _ _ _ (by first | exact Nat.ne_of_beq_eq_false rfl | decide), hX16, u3_k _ _ _ _ (by first | exact Nat.ne_of_beq_eq_false rfl | decide), hX11, u3_k _ _ _ _ (by first | exact Nat.ne_of_beq_eq_false rfl | decide), hX8, u3_k _ _ _ _ (by first | exact Nat.ne_of_beq_eq_false rfl | decide), hX5, u3_k _ _ _ _ (by first | exact Nat.ne_of_beq_eq_false rfl | decide)]
      have e58 : ∀ j : Int, X46 55 0 j = X 55 0 j := fun j => by rw [hX46, u3_k _ _ _ _ (by first | exact Nat.ne_of_beq_eq_false rfl | decide), hX43, u3_k _ _ _ _ (by first | exact Nat.ne_of_beq_eq_false rfl | decide), hX16, u3_k _ _ _ _ (by first | exact Nat.ne_of_beq_eq_false rfl | decide), hX11, u3_k _ _ _ _ (by first | exact Nat.ne_of_beq_eq_false rfl | decide), hX8, u3_k _ _ _ _ (by first | exact Nat.ne_of_beq_eq_false rfl | decide), hX5, u3_k _ _ _ _ (by first | exact Nat.ne_of_beq_eq_false rfl | decide)]
      exact ⟨X47, rfl, hRX47, hFX47, by rw [hX47]; exact minv_xval hMn48 hRX46 (by omega) (by simp only [e55, e56, e57, e58]; omega) (by omega) (by simp only [e55, e56, e57, e58]; omega) (by simp only [e55, e56, e57, e58]; exact htv), by omega, Or.inr ⟨by omega, (by rw [hX47, u3_k _ _ _ _ (by first | exact Nat.ne_of_beq_eq_false rfl | decide)]; exact hVX46), ⟨(by rw [hX47, u3_k _ _ _ _ (by first | exact Nat.ne_of_beq_eq_false rfl | decide), hX46, u3_k _ _ _ _ (by first | exact Nat.ne_of_beq_eq_false rfl | decide), hX43, u3_k _ _ _ _ (by first | exact Nat.ne_of_beq_eq_false rfl | decide), hX16, u3_k _ _ _ _ (by first | exact Nat.ne_of_beq_eq_false rfl | decide), hX11, u3_k _ _ _ _ (by first | exact Nat.ne_of_beq_eq_false rfl | decide), hX8, u3_k _ _ _ _ (by first | exact Nat.ne_of_beq_eq_false rfl | decide)]; exact hVX5), (by rw [hX47, u3_k _ _ _ _ (by first | exact Nat.ne_of_beq_eq_false rfl | decide), hX46, u3_k _ _ _ _ (by first | exact Nat.ne_of_beq_eq_false rfl | decide), hX43, u3_k _ _ _ _ (by first | exact Nat.ne_of_beq_eq_false rfl | decide), hX16, u3_k _ _ _ _ (by first | exact Nat.ne_of_beq_eq_false rfl | decide), hX11, u3_k _ _ _ _ (by first | exact Nat.ne_of_beq_eq_false rfl | decide)]; exact hVX8), (by rw [hX47, u3_k _ _ _ _ (by first | exact Nat.ne_of_beq_eq_false rfl | decide), hX46, u3_k _ _ _ _ (by first | exact Nat.ne_of_beq_eq_false rfl | decide)]; rw [hVX43]; split <;> omega), (by rw [hX47, u3_k _ _ _ _ (by first | exact Nat.ne_of_beq_eq_false rfl | decide), hX46, u3_k _ _ _ _ (by first | exact Nat.ne_of_beq_eq_false rfl | decide), hX43, u3_k _ _ _ _ (by first | exact Nat.ne_of_beq_eq_false rfl | decide), hX16, u3_k _ _ _ _ (by first | exact Nat.ne_of_beq_eq_false rfl | decide)]; exact hVX11), (by rw [hX47, u3_k _ _ _ _ (by first | exact Nat.ne_of_beq_eq_false rfl | decide), hX46, u3_k _ _ _ _ (by first | exact Nat.ne_of_beq_eq_false rfl | decide), hX43, u3_k _ _ _ _ (by first | exact Nat.ne_of_beq_eq_false rfl | decide)]; exact hVX16)⟩, fun y hy => ⟨(by rw [hX47, u3_k _ _ _ _ (by first | exact Nat.ne_of_beq_eq_false rfl | decide), hX46, u3_k _ _ _ _ (by first | exact Nat.ne_of_beq_eq_false rfl | decide), hX43, u3_k _ _ _ _ (by first | exact Nat.ne_of_beq_eq_false rfl | decide), hX16, u3_k _ _ _ _ (by first | exact Nat.ne_of_beq_eq_false rfl | decide), hX11, u3_k _ _ _ _ (by first | exact Nat.ne_of_beq_eq_false rfl | decide), hX8, u3_k _ _ _ _ (by first | exact Nat.ne_of_beq_eq_false rfl | decide), hX5, u3_j _ _ _ _ hy]), (by rw [hX47, u3_k _ _ _ _ (by first | exact Nat.ne_of_beq_eq_false rfl | decide), hX46, u3_k _ _ _ _ (by first | exact Nat.ne_of_beq_eq_false rfl | decide), hX43, u3_k _ _ _ _ (by first | exact Nat.ne_of_beq_eq_false rfl | decide), hX16, u3_k _ _ _ _ (by first | exact Nat.ne_of_beq_eq_false rfl | decide), hX11, u3_k _ _ _ _ (by first | exact Nat.ne_of_beq_eq_false rfl | decide), hX8, u3_j _ _ _ _ hy, hX5, u3_k _ _ _ _ (by first | exact Nat.ne_of_beq_eq_false rfl | decide)]), (by rw [hX47, u3_k _ _ _ _ (by first | exact Nat.ne_of_beq_eq_false rfl | decide), hX46, u3_k _ _ _ _ (by first | exact Nat.ne_of_beq_eq_false rfl | decide), hX43, u3_j _ _ _ _ hy, hX16, u3_k _ _ _ _ (by first | exact Nat.ne_of_beq_eq_false rfl | decide), hX11, u3_k _ _ _ _ (by first | exact Nat.ne_of_beq_eq_false rfl | decide), hX8, u3_k _ _ _ _ (by first | exact Nat.ne_of_beq_eq_false rfl | decide), hX5, u3_k _ _ _ _ (by first | exact Nat.ne_of_beq_eq_false rfl | decide)]), (by rw [hX47, u3_k _ _ _ _ (by first | exact Nat.ne_of_beq_eq_false rfl | decide), hX46, u3_k _ _ _ _ (by first | exact Nat.ne_of_beq_eq_false rfl | decide), hX43, u3_k _ _ _ _ (by first | exact Nat.ne_of_beq_eq_false rfl | decide), hX16, u3_k _ _ _ _ (by first | exact Nat.ne_of_beq_eq_false rfl | decide), hX11, u3_j _ _ _ _ hy, hX8, u3_k _ _ _ _ (by first | exact Nat.ne_of_beq_eq_false rfl | decide), hX5, u3_k _ _ _ _ (by first | exact Nat.ne_of_beq_eq_false rfl | decide)]), (by rw [hX47, u3_k _ _ _ _ (by first | exact Nat.ne_of_beq_eq_false rfl | decide), hX46, u3_k _ _ _ _ (by first | exact Nat.ne_of_beq_eq_false rfl | decide), hX43, u3_k _ _ _ _ (by first | exact Nat.ne_of_beq_eq_false rfl | decide), hX16, u3_j _ _ _ _ hy, hX11, u3_k _ _ _ _ (by first | exact Nat.ne_of_beq_eq_false rfl | decide), hX8, u3_k _ _ _ _ (by first | exact Nat.ne_of_beq_eq_false rfl | decide), hX5, u3_k _ _ _ _ (by first | exact Nat.ne_of_beq_eq_false rfl | decide)])⟩⟩, (by exact hVX47), fun y hy => (by rw [hX47, u3_j _ _ _ _ hy, hX46, u3_k _ _ _ _ (by first | exact Nat.ne_of_beq_eq_false rfl | decide), hX43, u3_k _ _ _ _ (by first | exact Nat.ne_of_beq_eq_false rfl | decide), hX16, u3_k _ _ _ _ (by first | exact Nat.ne_of_beq_eq_false rfl | decide), hX11, u3_k _ _ _ _ (by first | exact Nat.ne_of_beq_eq_false rfl | decide), hX8, u3_k _ _ _ _ (by first | exact Nat.ne_of_beq_eq_false rfl | decide), hX5, u3_k _ _ _ _ (by first | exact Nat.ne_of_beq_eq_false rfl | decide)])⟩
end
section
set_option maxHeartbeats 4000000 in
set_option maxRecDepth 100000 in
theorem c_X9_put (l : Launch) (D : va_G) (tc : Nat → ClassId) (base : Nat) (ad : Nat → Int → Nat) (cnt : Nat → Int) (X : Nat → Int → Int → Int) (Y : Nat → Int → Int → Option Int) (ln : Int → Int) (hR : Rng X) (hFx : Fx cnt) (hMI : MInv X) (x k v : Int) (hx : -2147483648 ≤ x ∧ x ≤ 2147483647) (hk : -2147483648 ≤ k ∧ k ≤ 2147483647) (hv : -9223372036854775808 ≤ v ∧ v ≤ 9223372036854775807) : KI l D tc base yX9_put wsX9_put ({ frames := 2, cells := 0, slots := 0, locals := 46 } : Room) [.ref (ad 40 0), .int (jI x), .int (jI k), .long (jL v)] (ad, cnt, X, Y, ln) 0 0 (fun z u => ∃ X1 : Nat → Int → Int → Int, u = (ad, cnt, X1, Y, ln) ∧ Rng X1 ∧ Frm [4001, 6400, 6500, 6700, 6800, 6600, 4023, 5600] X X1 ∧ MInv X1 ∧ (-2147483648 ≤ z ∧ z ≤ 2147483647) ∧ ((¬ (0 ≤ x ∧ x < X 40 0 13 ∧ 0 ≤ k ∧ k < X 44 0 (X 55 0 x)) ∧ z = -1) ∨ ((0 ≤ x ∧ x < X 40 0 13 ∧ 0 ≤ k ∧ k < X 44 0 (X 55 0 x)) ∧ 1 < X 46 0 (5 * X 55 0 x + k) ∧ z = -14) ∨ ((0 ≤ x ∧ x < X 40 0 13 ∧ 0 ≤ k ∧ k < X 44 0 (X 55 0 x)) ∧ X 46 0 (5 * X 55 0 x + k) = 1 ∧ v ≠ -1 ∧ ¬ (0 ≤ v ∧ v < 16 ∧ X 42 0 v = 0) ∧ z = -17) ∨ ((0 ≤ x ∧ x < X 40 0 13 ∧ 0 ≤ k ∧ k < X 44 0 (X 55 0 x)) ∧ X 46 0 (5 * X 55 0 x + k) ≤ 1 ∧ (X 46 0 (5 * X 55 0 x + k) = 1 → v = -1 ∨ (0 ≤ v ∧ v < 16 ∧ X 42 0 v = 0)) ∧ (0 < X 40 0 20 ∧ X 40 0 22 = 80) ∧ z = -4) ∨ ((0 ≤ x ∧ x < X 40 0 13 ∧ 0 ≤ k ∧ k < X 44 0 (X 55 0 x)) ∧ X 46 0 (5 * X 55 0 x + k) ≤ 1 ∧ (X 46 0 (5 * X 55 0 x + k) = 1 → v = -1 ∨ (0 ≤ v ∧ v < 16 ∧ X 42 0 v = 0)) ∧ (X 40 0 20 = 0 ∨ X 40 0 22 ≤ 79) ∧ z = 1)) ∧ (z < 0 → Frm [4001] X X1) ∧ (z = 1 → eNoteM X X1 x k (if 3 ≤ X 46 0 (5 * X 55 0 x + k) then X 56 0 (5 * x + k) else -1) (-1) (X 56 0 (5 * x + k)) ∧ X1 56 0 (5 * x + k) = v ∧ ∀ p, p ≠ 5 * x + k → X1 56 0 p = X 56 0 p)) := by
  refine K_of (cc := cX9_put) (maxL := 5) (ret := (some .int)) (by decide) rfl (Nat.le_of_ble_eq_true rfl) ?_
  intro p e s m below meth c ls hx hb hr hml hown hts hlocks hl hK hw hS
  have hown : s.vm.findClass RX9 = some m.cls := hown
  obtain ⟨av9, hav9⟩ : ∃ a9 : Array Value, a9 = ([.ref (ad 40 0), .int (jI x), .int (jI k), .long (jL v)] : List Value).toArray := ⟨_, rfl⟩
  rw [← hav9] at hts ⊢
  obtain ⟨Q9, hQ9⟩ : ∃ q9Q : State → Prop, q9Q = MQ below (QI D tc base (fun z u => ∃ X1 : Nat → Int → Int → Int, u = (ad, cnt, X1, Y, ln) ∧ Rng X1 ∧ Frm [4001, 6400, 6500, 6700, 6800, 6600, 4023, 5600] X X1 ∧ MInv X1 ∧ (-2147483648 ≤ z ∧ z ≤ 2147483647) ∧ ((¬ (0 ≤ x ∧ x < X 40 0 13 ∧ 0 ≤ k ∧ k < X 44 0 (X 55 0 x)) ∧ z = -1) ∨ ((0 ≤ x ∧ x < X 40 0 13 ∧ 0 ≤ k ∧ k < X 44 0 (X 55 0 x)) ∧ 1 < X 46 0 (5 * X 55 0 x + k) ∧ z = -14) ∨ ((0 ≤ x ∧ x < X 40 0 13 ∧ 0 ≤ k ∧ k < X 44 0 (X 55 0 x)) ∧ X 46 0 (5 * X 55 0 x + k) = 1 ∧ v ≠ -1 ∧ ¬ (0 ≤ v ∧ v < 16 ∧ X 42 0 v = 0) ∧ z = -17) ∨ ((0 ≤ x ∧ x < X 40 0 13 ∧ 0 ≤ k ∧ k < X 44 0 (X 55 0 x)) ∧ X 46 0 (5 * X 55 0 x + k) ≤ 1 ∧ (X 46 0 (5 * X 55 0 x + k) = 1 → v = -1 ∨ (0 ≤ v ∧ v < 16 ∧ X 42 0 v = 0)) ∧ (0 < X 40 0 20 ∧ X 40 0 22 = 80) ∧ z = -4) ∨ ((0 ≤ x ∧ x < X 40 0 13 ∧ 0 ≤ k ∧ k < X 44 0 (X 55 0 x)) ∧ X 46 0 (5 * X 55 0 x + k) ≤ 1 ∧ (X 46 0 (5 * X 55 0 x + k) = 1 → v = -1 ∨ (0 ≤ v ∧ v < 16 ∧ X 42 0 v = 0)) ∧ (X 40 0 20 = 0 ∨ X 40 0 22 ≤ 79) ∧ z = 1)) ∧ (z < 0 → Frm [4001] X X1) ∧ (z = 1 → eNoteM X X1 x k (if 3 ≤ X 46 0 (5 * X 55 0 x + k) then X 56 0 (5 * x + k) else -1) (-1) (X 56 0 (5 * x + k)) ∧ X1 56 0 (5 * x + k) = v ∧ ∀ p, p ≠ 5 * x + k → X1 56 0 p = X 56 0 p))) av9 s 0 0 (frA base) := ⟨_, rfl⟩
  rw [← hQ9]
  have hi9 : ∀ w ∈ wsX90, w ∈ wsX9_put := fun w h => List.mem_cons_of_mem _ (List.mem_append_right _ h)
  have hf9 : fctx s m _ RX9 wsX9_put D tc RX9 TX9 51 9 := ⟨hts, hi9, hown, hK.1, rfl⟩
  have lk7 := hts (.fieldLink RX9 7 (TX9 1).1 (TX9 1).2.1 (TX9 1).2.2.1) (gj_X9_put_0 _ (gp_1 (gp_1 (gp_1 gp_h))))
  have lk145 := hts (.fieldLink RX9 145 (TX9 0).1 (TX9 0).2.1 (TX9 0).2.2.1) (gj_X9_put_0 _ (gp_h))
  have hc40 : cnt 40 = 1 := hFx.at 40 1 (by decide)
  have hc42 : cnt 42 = 1 := hFx.at 42 1 (by decide)
  have hl : lv_has ls 5 [(0, .ref (ad 40 0)), (1, .int (jI x)), (2, .int (jI k)), (3, .long (jL v))] := hl
  have fstypes : 0 ≤ X 40 0 2 ∧ X 40 0 2 ≤ 8 := hR 40 0 2
  have fsthings : 0 ≤ X 40 0 13 ∧ X 40 0 13 ≤ 30 := hR 40 0 13
  have fsmarks : 0 ≤ X 40 0 20 ∧ X 40 0 20 ≤ 4 := hR 40 0 20
  have fsnotes : 0 ≤ X 40 0 22 ∧ X 40 0 22 ≤ 80 := hR 40 0 22
  refine lv_aload_n hx hb dX9_put_0 rfl (lv_at hl 0 rfl) ?_
  refine lv_iconst (v := jI 0) hx hb dX9_put_1 rfl ?_
  refine x_puti (jz := 0) hx hb hf9 ⟨tyX9_ok, nmX9⟩ hw hS (by first | exact Int.le_refl 0 | omega) (by first | exact zlt hc40 | omega) sl_40_0 rfl lk145 rfl (tyX9_ok 0 (by decide)) rfl rfl dX9_put_2 (fun H locs hw hS => ?_)
  obtain ⟨X1, hX1⟩ : ∃ Xq, Xq = u3 X 40 0 0 0 := ⟨_, rfl⟩
  rw [← hX1] at hw
  have hRX1 : Rng X1 := by rw [hX1]; exact rng_set hR (show (-2147483648) ≤ 0 ∧ 0 ≤ 2147483647 by omega)
  have hVX1 : X1 40 0 0 = 0 := by rw [hX1]; exact u3_s _ _ _ _ _
  have hFX1 : Frm [4001, 6400, 6500, 6700, 6800, 6600, 4023, 5600] X X1 := by rw [hX1]; exact Frm.set Frm.rf (show 4001 ∈ [4001, 6400, 6500, 6700, 6800, 6600, 4023, 5600] by first | exact nlm_in rfl | decide)
  refine lv_aload_n hx hb dX9_put_5 rfl (lv_at hl 0 rfl) ?_
  refine lv_iload_n hx hb dX9_put_6 rfl (lv_at hl 1 rfl) ?_
  refine lv_iload_n hx hb dX9_put_7 rfl (lv_at hl 2 rfl) ?_
  refine gos_i (run_V (As := [.int (jI x), .int (jI k)]) (rest := []) hx hb hml hown hts (c_X9_isField l D tc base ad cnt X1 Y ln hRX1 hFx x k (by omega) (by omega)) (cwV 2 hts gX9_put_X9_isField rfl rfl rfl (by first | exact hd_X9_isField | decide +kernel) ⟨Nat.le_of_ble_eq_true rfl, Nat.le_of_ble_eq_true rfl⟩) hK hw (by first | exact Int.le_refl 0 | omega) (by first | exact zlt hc40 | omega) sl_40_0 rfl rfl hl.1 rfl (Nat.le_of_ble_eq_true rfl) dX9_put_8 ⟨Nat.le_of_ble_eq_true rfl, Nat.le_of_ble_eq_true rfl⟩) hS (fun z2 u3 H locs p4 hw hS => ?_)
  obtain ⟨eu3, p4⟩ := p4
  subst eu3
  have e5 : X1 40 0 13 = X 40 0 13 := by rw [hX1, u3_j _ _ _ _ (by decide)]
  have e6 : ∀ j : Int, X1 55 0 j = X 55 0 j := fun j => by rw [hX1, u3_k _ _ _ _ (by first | exact Nat.ne_of_beq_eq_false rfl | decide)]
  have e7 : ∀ j : Int, X1 44 0 j = X 44 0 j := fun j => by rw [hX1, u3_k _ _ _ _ (by first | exact Nat.ne_of_beq_eq_false rfl | decide)]
  simp only [e5, e6, e7] at p4
  have q900033 : Frm [4001] X X1 := by rw [hX1]; exact Frm.set Frm.rf (show 4001 ∈ [4001] by first | exact nlm_in rfl | decide)
  rcases p4 with ⟨ez2, p4⟩ | ⟨ez2, p4⟩
  · subst ez2
    refine x_if_neT (tgt := 16) hx hb (by omega) (by decide) dX9_put_11 (by decide) ?_
    refine lv_aload_n hx hb dX9_put_16 rfl (lv_at hl 0 rfl) ?_
    refine lv_iload_n hx hb dX9_put_17 rfl (lv_at hl 1 rfl) ?_
    refine lv_iload_n hx hb dX9_put_18 rfl (lv_at hl 2 rfl) ?_
    refine gos_i (run_V (As := [.int (jI x), .int (jI k)]) (rest := []) hx hb hml hown hts (c_X9_lane l D tc base ad cnt X1 Y ln hRX1 hFx x k (by omega) (by omega)) (cwV 2 hts gX9_put_X9_lane rfl rfl rfl (by first | exact hd_X9_lane | decide +kernel) ⟨Nat.le_of_ble_eq_true rfl, Nat.le_of_ble_eq_true rfl⟩) hK hw (by first | exact Int.le_refl 0 | omega) (by first | exact zlt hc40 | omega) sl_40_0 rfl rfl hl.1 rfl (Nat.le_of_ble_eq_true rfl) dX9_put_19 ⟨Nat.le_of_ble_eq_true rfl, Nat.le_of_ble_eq_true rfl⟩) hS (fun z8 u9 H locs p10 hw hS => ?_)
    obtain ⟨eu9, p10⟩ := p10
    subst eu9
    have e11 : ∀ j : Int, X1 55 0 j = X 55 0 j := fun j => by rw [hX1, u3_k _ _ _ _ (by first | exact Nat.ne_of_beq_eq_false rfl | decide)]
    have e12 : ∀ j : Int, X1 46 0 j = X 46 0 j := fun j => by rw [hX1, u3_k _ _ _ _ (by first | exact Nat.ne_of_beq_eq_false rfl | decide)]
    simp only [e11, e12] at p10
    refine lv_iconst (v := jI 1) hx hb dX9_put_22 rfl ?_
    refine x_icmp_le (tgt := 29) hx hb (by omega) (by omega) dX9_put_23 (by decide) (fun c13 => ?_) (fun c13 => ?_)
    · refine lv_aload_n hx hb dX9_put_29 rfl (lv_at hl 0 rfl) ?_
      refine lv_iload_n hx hb dX9_put_30 rfl (lv_at hl 1 rfl) ?_
      refine lv_iload_n hx hb dX9_put_31 rfl (lv_at hl 2 rfl) ?_
      refine gos_i (run_V (As := [.int (jI x), .int (jI k)]) (rest := []) hx hb hml hown hts (c_X9_lane l D tc base ad cnt X1 Y ln hRX1 hFx x k (by omega) (by omega)) (cwV 2 hts gX9_put_X9_lane rfl rfl rfl (by first | exact hd_X9_lane | decide +kernel) ⟨Nat.le_of_ble_eq_true rfl, Nat.le_of_ble_eq_true rfl⟩) hK hw (by first | exact Int.le_refl 0 | omega) (by first | exact zlt hc40 | omega) sl_40_0 rfl rfl hl.1 rfl (Nat.le_of_ble_eq_true rfl) dX9_put_32 ⟨Nat.le_of_ble_eq_true rfl, Nat.le_of_ble_eq_true rfl⟩) hS (fun z14 u15 H locs p16 hw hS => ?_)
      obtain ⟨eu15, p16⟩ := p16
      subst eu15
      have e17 : ∀ j : Int, X1 55 0 j = X 55 0 j := fun j => by rw [hX1, u3_k _ _ _ _ (by first | exact Nat.ne_of_beq_eq_false rfl | decide)]
      have e18 : ∀ j : Int, X1 46 0 j = X 46 0 j := fun j => by rw [hX1, u3_k _ _ _ _ (by first | exact Nat.ne_of_beq_eq_false rfl | decide)]
      simp only [e17, e18] at p16
      refine lv_iconst (v := jI 1) hx hb dX9_put_35 rfl ?_
      have q900027 : X1 40 0 13 = X 40 0 13 := by rw [hX1, u3_j _ _ _ _ (by decide)]
      have q900028 : X1 40 0 20 = X 40 0 20 := by rw [hX1, u3_j _ _ _ _ (by decide)]
      have q900029 : X1 40 0 22 = X 40 0 22 := by rw [hX1, u3_j _ _ _ _ (by decide)]
      refine x_icmp_ne (tgt := 74) hx hb (by omega) (by omega) dX9_put_36 (by decide) (fun c19 => ?_) (fun c19 => ?_)
      · refine lv_aload_n hx hb dX9_put_74 rfl (lv_at hl 0 rfl) ?_
        refine gos_i (run_V (As := []) (rest := []) hx hb hml hown hts (c_X9_isFull l D tc base ad cnt X1 Y ln hRX1 hFx) (cwV 0 hts gX9_put_X9_isFull rfl rfl rfl (by first | exact hd_X9_isFull | decide +kernel) ⟨Nat.le_of_ble_eq_true rfl, Nat.le_of_ble_eq_true rfl⟩) hK hw (by first | exact Int.le_refl 0 | omega) (by first | exact zlt hc40 | omega) sl_40_0 rfl rfl hl.1 rfl (Nat.le_of_ble_eq_true rfl) dX9_put_75 ⟨Nat.le_of_ble_eq_true rfl, Nat.le_of_ble_eq_true rfl⟩) hS (fun z20 u21 H locs p22 hw hS => ?_)
        obtain ⟨eu21, p22⟩ := p22
        subst eu21
        simp only [q900028, q900029] at p22
        rcases p22 with ⟨ez20, p22⟩ | ⟨ez20, p22⟩
        · subst ez20
          refine x_if_eqF (tgt := 84) hx hb (by omega) (by decide) dX9_put_78 (by decide) ?_
          refine lv_bipush (v := jI (-4)) hx hb dX9_put_81 (by decide) ?_
          rw [hQ9]
          refine ret_i (mc := 0) (ms := 0) hx hb hr hlocks hw hS (by first | exact Nat.le_of_ble_eq_true rfl | omega) (by first | exact Nat.le_of_ble_eq_true rfl | omega) dX9_put_83 ?_
          have hMq25 : MInv X1 := minv_frm hMI q900033 (by decide)
          exact ⟨X1, rfl, hRX1, hFX1, hMq25, by omega, (by (try delta Hid at *); exact Or.inr (Or.inr (Or.inr (Or.inl ⟨(by omega), by omega, (by omega), by omega, by omega⟩)))), fun _ => q900033, fun q => (by exfalso; omega)⟩
        · subst ez20
          refine x_if_eqT (tgt := 84) hx hb (by omega) (by decide) dX9_put_78 (by decide) ?_
          refine lv_aload_n hx hb dX9_put_84 rfl (lv_at hl 0 rfl) ?_
          refine lv_iload_n hx hb dX9_put_85 rfl (lv_at hl 1 rfl) ?_
          refine lv_iload_n hx hb dX9_put_86 rfl (lv_at hl 2 rfl) ?_
          refine lv_lload_n hx hb dX9_put_87 rfl (lv_at hl 3 rfl) ?_
          have hMq28 : MInv X1 := minv_frm hMI q900033 (by decide)
          have e30 : ∀ j : Int, X1 55 0 j = X 55 0 j := fun j => by rw [hX1, u3_k _ _ _ _ (by first | exact Nat.ne_of_beq_eq_false rfl | decide)]
          have e31 : ∀ j : Int, X1 44 0 j = X 44 0 j := fun j => by rw [hX1, u3_k _ _ _ _ (by first | exact Nat.ne_of_beq_eq_false rfl | decide)]
          have e32 : ∀ j : Int, X1 46 0 j = X 46 0 j := fun j => by rw [hX1, u3_k _ _ _ _ (by first | exact Nat.ne_of_beq_eq_false rfl | decide)]
          refine gos_v (run_V (As := [.int (jI x), .int (jI k), .long (jL v)]) (rest := []) hx hb hml hown hts (c_X9_becomes l D tc base ad cnt X1 Y ln hRX1 hFx hMq28 x k v (by omega) (by omega) (by omega) (by simp only [e30, e31, e32, q900027, q900028, q900029]; omega) (by simp only [e30, e31, e32, q900027, q900028, q900029]; omega) (by unfold tyv; simp only [e30, e31, e32, q900027, q900028, q900029]; exact ⟨fun _ => by omega, fun _ => by omega, fun _ => by omega⟩) (by simp only [e30, e31, e32, q900027, q900028, q900029]; (try simp only [Hid] at *); omega)) (cwV 3 hts gX9_put_X9_becomes rfl rfl rfl (by first | exact hd_X9_becomes | decide +kernel) ⟨Nat.le_of_ble_eq_true rfl, Nat.le_of_ble_eq_true rfl⟩) hK hw (by first | exact Int.le_refl 0 | omega) (by first | exact zlt hc40 | omega) sl_40_0 rfl rfl hl.1 rfl (Nat.le_of_ble_eq_true rfl) dX9_put_88 ⟨Nat.le_of_ble_eq_true rfl, Nat.le_of_ble_eq_true rfl⟩) hS (fun u37 H locs p38 hw hS => ?_)
          obtain ⟨X39, eu37, hRX39, hG40, hMIX39, p38, hbnX39, hbvX39, hboX39⟩ := p38
          subst eu37
          have hFX39 : Frm [4001, 6400, 6500, 6700, 6800, 6600, 4023, 5600] X X39 := Frm.tr hFX1 (Frm.mono hG40 (by first | exact nls_of rfl | decide))
          refine lv_iconst (v := jI 1) hx hb dX9_put_91 rfl ?_
          rw [hQ9]
          refine ret_i (mc := 0) (ms := 0) hx hb hr hlocks hw hS (by first | exact Nat.le_of_ble_eq_true rfl | omega) (by first | exact Nat.le_of_ble_eq_true rfl | omega) dX9_put_92 ?_
          have e42 : ∀ j : Int, X1 46 0 j = X 46 0 j := fun j => by rw [hX1, u3_k _ _ _ _ (by first | exact Nat.ne_of_beq_eq_false rfl | decide)]
          have e43 : ∀ j : Int, X1 55 0 j = X 55 0 j := fun j => by rw [hX1, u3_k _ _ _ _ (by first | exact Nat.ne_of_beq_eq_false rfl | decide)]
          have e44 : ∀ j : Int, X1 56 0 j = X 56 0 j := fun j => by rw [hX1, u3_k _ _ _ _ (by first | exact Nat.ne_of_beq_eq_false rfl | decide)]
          exact ⟨X39, rfl, hRX39, hFX39, hMIX39, by omega, (by (try delta Hid at *); exact Or.inr (Or.inr (Or.inr (Or.inr (⟨(by omega), by omega, (by omega), by omega, by omega⟩))))), fun q => (by exfalso; omega), fun _ => (by simp only [e42, e43, e44] at hbnX39 hboX39; exact ⟨eNoteM.from (M := [4001]) hbnX39 q900033 (by decide), hbvX39, hboX39⟩)⟩
      · refine lv_lload_n hx hb dX9_put_39 rfl (lv_at hl 3 rfl) ?_
        refine lv_ldc2 (v := jL (-1)) hx hb hown (hts (.constantLong RX9 168 (-1)) (by first | exact gj_X9_put_0 _ (gp_1 gp_h) | decide +kernel)) dX9_put_40 ?_
        refine x_lcmp hx hb (by omega) (by omega) dX9_put_43 ?_
        obtain ⟨z45, ez45⟩ : ∃ y : Int, y = cmpZ v (-1) := ⟨_, rfl⟩
        rw [← ez45]
        have gz45 : (z45 < 0 ↔ (v : Int) < (-1)) ∧ (z45 = 0 ↔ (v : Int) = (-1)) ∧ -1 ≤ z45 ∧ z45 ≤ 1 := by rw [ez45]; exact ⟨cmpZ_lt, cmpZ_eq, (cmpZ_r _ _).1, (cmpZ_r _ _).2⟩
        clear ez45
        refine x_if_eq (tgt := 74) hx hb (by omega) dX9_put_44 (by decide) (fun c46 => ?_) (fun c46 => ?_)
        · replace c46 := cz_eqT gz45 c46
          clear gz45
          refine lv_aload_n hx hb dX9_put_74 rfl (lv_at hl 0 rfl) ?_
          refine gos_i (run_V (As := []) (rest := []) hx hb hml hown hts (c_X9_isFull l D tc base ad cnt X1 Y ln hRX1 hFx) (cwV 0 hts gX9_put_X9_isFull rfl rfl rfl (by first | exact hd_X9_isFull | decide +kernel) ⟨Nat.le_of_ble_eq_true rfl, Nat.le_of_ble_eq_true rfl⟩) hK hw (by first | exact Int.le_refl 0 | omega) (by first | exact zlt hc40 | omega) sl_40_0 rfl rfl hl.1 rfl (Nat.le_of_ble_eq_true rfl) dX9_put_75 ⟨Nat.le_of_ble_eq_true rfl, Nat.le_of_ble_eq_true rfl⟩) hS (fun z47 u48 H locs p49 hw hS => ?_)
          obtain ⟨eu48, p49⟩ := p49
          subst eu48
          simp only [q900028, q900029] at p49
          rcases p49 with ⟨ez47, p49⟩ | ⟨ez47, p49⟩
          · subst ez47
            refine x_if_eqF (tgt := 84) hx hb (by omega) (by decide) dX9_put_78 (by decide) ?_
            refine lv_bipush (v := jI (-4)) hx hb dX9_put_81 (by decide) ?_
            rw [hQ9]
            refine ret_i (mc := 0) (ms := 0) hx hb hr hlocks hw hS (by first | exact Nat.le_of_ble_eq_true rfl | omega) (by first | exact Nat.le_of_ble_eq_true rfl | omega) dX9_put_83 ?_
            have hMq52 : MInv X1 := minv_frm hMI q900033 (by decide)
            exact ⟨X1, rfl, hRX1, hFX1, hMq52, by omega, (by (try delta Hid at *); exact Or.inr (Or.inr (Or.inr (Or.inl ⟨(by omega), by omega, (by omega), by omega, by omega⟩)))), fun _ => q900033, fun q => (by exfalso; omega)⟩
          · subst ez47
            refine x_if_eqT (tgt := 84) hx hb (by omega) (by decide) dX9_put_78 (by decide) ?_
            refine lv_aload_n hx hb dX9_put_84 rfl (lv_at hl 0 rfl) ?_
            refine lv_iload_n hx hb dX9_put_85 rfl (lv_at hl 1 rfl) ?_
            refine lv_iload_n hx hb dX9_put_86 rfl (lv_at hl 2 rfl) ?_
            refine lv_lload_n hx hb dX9_put_87 rfl (lv_at hl 3 rfl) ?_
            have hMq55 : MInv X1 := minv_frm hMI q900033 (by decide)
            have e57 : ∀ j : Int, X1 55 0 j = X 55 0 j := fun j => by rw [hX1, u3_k _ _ _ _ (by first | exact Nat.ne_of_beq_eq_false rfl | decide)]
            have e58 : ∀ j : Int, X1 44 0 j = X 44 0 j := fun j => by rw [hX1, u3_k _ _ _ _ (by first | exact Nat.ne_of_beq_eq_false rfl | decide)]
            have e59 : ∀ j : Int, X1 46 0 j = X 46 0 j := fun j => by rw [hX1, u3_k _ _ _ _ (by first | exact Nat.ne_of_beq_eq_false rfl | decide)]
            refine gos_v (run_V (As := [.int (jI x), .int (jI k), .long (jL v)]) (rest := []) hx hb hml hown hts (c_X9_becomes l D tc base ad cnt X1 Y ln hRX1 hFx hMq55 x k v (by omega) (by omega) (by omega) (by simp only [e57, e58, e59, q900027, q900028, q900029]; omega) (by simp only [e57, e58, e59, q900027, q900028, q900029]; omega) (by unfold tyv; simp only [e57, e58, e59, q900027, q900028, q900029]; exact ⟨fun _ => by omega, fun _ => by omega, fun _ => by omega⟩) (by simp only [e57, e58, e59, q900027, q900028, q900029]; (try simp only [Hid] at *); omega)) (cwV 3 hts gX9_put_X9_becomes rfl rfl rfl (by first | exact hd_X9_becomes | decide +kernel) ⟨Nat.le_of_ble_eq_true rfl, Nat.le_of_ble_eq_true rfl⟩) hK hw (by first | exact Int.le_refl 0 | omega) (by first | exact zlt hc40 | omega) sl_40_0 rfl rfl hl.1 rfl (Nat.le_of_ble_eq_true rfl) dX9_put_88 ⟨Nat.le_of_ble_eq_true rfl, Nat.le_of_ble_eq_true rfl⟩) hS (fun u64 H locs p65 hw hS => ?_)
            obtain ⟨X66, eu64, hRX66, hG67, hMIX66, p65, hbnX66, hbvX66, hboX66⟩ := p65
            subst eu64
            have hFX66 : Frm [4001, 6400, 6500, 6700, 6800, 6600, 4023, 5600] X X66 := Frm.tr hFX1 (Frm.mono hG67 (by first | exact nls_of rfl | decide))
            refine lv_iconst (v := jI 1) hx hb dX9_put_91 rfl ?_
            rw [hQ9]
            refine ret_i (mc := 0) (ms := 0) hx hb hr hlocks hw hS (by first | exact Nat.le_of_ble_eq_true rfl | omega) (by first | exact Nat.le_of_ble_eq_true rfl | omega) dX9_put_92 ?_
            have e69 : ∀ j : Int, X1 46 0 j = X 46 0 j := fun j => by rw [hX1, u3_k _ _ _ _ (by first | exact Nat.ne_of_beq_eq_false rfl | decide)]
            have e70 : ∀ j : Int, X1 55 0 j = X 55 0 j := fun j => by rw [hX1, u3_k _ _ _ _ (by first | exact Nat.ne_of_beq_eq_false rfl | decide)]
            have e71 : ∀ j : Int, X1 56 0 j = X 56 0 j := fun j => by rw [hX1, u3_k _ _ _ _ (by first | exact Nat.ne_of_beq_eq_false rfl | decide)]
            exact ⟨X66, rfl, hRX66, hFX66, hMIX66, by omega, (by (try delta Hid at *); exact Or.inr (Or.inr (Or.inr (Or.inr (⟨(by omega), by omega, (by omega), by omega, by omega⟩))))), fun q => (by exfalso; omega), fun _ => (by simp only [e69, e70, e71] at hbnX66 hboX66; exact ⟨eNoteM.from (M := [4001]) hbnX66 q900033 (by decide), hbvX66, hboX66⟩)⟩
        · replace c46 := cz_eqF gz45 c46
          clear gz45
          refine lv_lload_n hx hb dX9_put_47 rfl (lv_at hl 3 rfl) ?_
          refine lv_lconst (v := jL 0) hx hb dX9_put_48 (by decide) ?_
          refine x_lcmp hx hb (by omega) (by omega) dX9_put_49 ?_
          obtain ⟨z72, ez72⟩ : ∃ y : Int, y = cmpZ v 0 := ⟨_, rfl⟩
          rw [← ez72]
          have gz72 : (z72 < 0 ↔ (v : Int) < 0) ∧ (z72 = 0 ↔ (v : Int) = 0) ∧ -1 ≤ z72 ∧ z72 ≤ 1 := by rw [ez72]; exact ⟨cmpZ_lt, cmpZ_eq, (cmpZ_r _ _).1, (cmpZ_r _ _).2⟩
          clear ez72
          refine x_if_lt (tgt := 71) hx hb (by omega) dX9_put_50 (by decide) (fun c73 => ?_) (fun c73 => ?_)
          · replace c73 := cz_ltT gz72 c73
            clear gz72
            refine lv_bipush (v := jI (-17)) hx hb dX9_put_71 (by decide) ?_
            rw [hQ9]
            refine ret_i (mc := 0) (ms := 0) hx hb hr hlocks hw hS (by first | exact Nat.le_of_ble_eq_true rfl | omega) (by first | exact Nat.le_of_ble_eq_true rfl | omega) dX9_put_73 ?_
            have hMq74 : MInv X1 := minv_frm hMI q900033 (by decide)
            exact ⟨X1, rfl, hRX1, hFX1, hMq74, by omega, (by (try delta Hid at *); exact Or.inr (Or.inr (Or.inl ⟨(by omega), by omega, by omega, (fun q => by omega), by omega⟩))), fun _ => q900033, fun q => (by exfalso; omega)⟩
          · replace c73 := cz_ltF gz72 c73
            clear gz72
            refine lv_lload_n hx hb dX9_put_53 rfl (lv_at hl 3 rfl) ?_
            refine lv_ldc2 (v := jL 15) hx hb hown (hts (.constantLong RX9 180 (15)) (by first | exact gj_X9_put_0 _ (gp_1 (gp_1 gp_h)) | decide +kernel)) dX9_put_54 ?_
            refine x_lcmp hx hb (by omega) (by omega) dX9_put_57 ?_
            obtain ⟨z77, ez77⟩ : ∃ y : Int, y = cmpZ v 15 := ⟨_, rfl⟩
            rw [← ez77]
            have gz77 : (z77 < 0 ↔ (v : Int) < 15) ∧ (z77 = 0 ↔ (v : Int) = 15) ∧ -1 ≤ z77 ∧ z77 ≤ 1 := by rw [ez77]; exact ⟨cmpZ_lt, cmpZ_eq, (cmpZ_r _ _).1, (cmpZ_r _ _).2⟩
            clear ez77
            refine x_if_gt (tgt := 71) hx hb (by omega) dX9_put_58 (by decide) (fun c78 => ?_) (fun c78 => ?_)
            · replace c78 := cz_gtT gz77 c78
              clear gz77
              refine lv_bipush (v := jI (-17)) hx hb dX9_put_71 (by decide) ?_
              rw [hQ9]
              refine ret_i (mc := 0) (ms := 0) hx hb hr hlocks hw hS (by first | exact Nat.le_of_ble_eq_true rfl | omega) (by first | exact Nat.le_of_ble_eq_true rfl | omega) dX9_put_73 ?_
              have hMq79 : MInv X1 := minv_frm hMI q900033 (by decide)
              exact ⟨X1, rfl, hRX1, hFX1, hMq79, by omega, (by (try delta Hid at *); exact Or.inr (Or.inr (Or.inl ⟨(by omega), by omega, by omega, (fun q => by omega), by omega⟩))), fun _ => q900033, fun q => (by exfalso; omega)⟩
            · replace c78 := cz_gtF gz77 c78
              clear gz77
              refine lv_aload_n hx hb dX9_put_61 rfl (lv_at hl 0 rfl) ?_
              refine x_geto hx hb hf9 hw (by first | exact Int.le_refl 0 | omega) (by first | exact zlt hc40 | omega) sl_40_1 lk7 dX9_put_62 ?_
              refine lv_lload_n hx hb dX9_put_65 rfl (lv_at hl 3 rfl) ?_
              refine x_l2i hx hb dX9_put_66 ?_
              refine x_zald hx hb hK.1 hw (by first | exact Int.le_refl 0 | omega) (by first | exact zlt hc42 | omega) ar_42 (len_E ar_42 (by first | exact Nat.ne_of_beq_eq_false rfl | decide)) (by omega) (by omega) (by omega) dX9_put_67 ?_
              have e82 : ∀ p9 q9 : Int, X1 42 p9 q9 = X 42 p9 q9 := fun p9 q9 => by rw [hX1, u3_k _ _ _ _ (by first | exact Nat.ne_of_beq_eq_false rfl | decide)]
              rw [e82 0 v]
              have f83 : 0 ≤ X 42 0 v ∧ X 42 0 v ≤ 1 := hR 42 0 v
              refine x_if_eq (tgt := 74) hx hb (by omega) dX9_put_68 (by decide) (fun c84 => ?_) (fun c84 => ?_)
              · refine lv_aload_n hx hb dX9_put_74 rfl (lv_at hl 0 rfl) ?_
                refine gos_i (run_V (As := []) (rest := []) hx hb hml hown hts (c_X9_isFull l D tc base ad cnt X1 Y ln hRX1 hFx) (cwV 0 hts gX9_put_X9_isFull rfl rfl rfl (by first | exact hd_X9_isFull | decide +kernel) ⟨Nat.le_of_ble_eq_true rfl, Nat.le_of_ble_eq_true rfl⟩) hK hw (by first | exact Int.le_refl 0 | omega) (by first | exact zlt hc40 | omega) sl_40_0 rfl rfl hl.1 rfl (Nat.le_of_ble_eq_true rfl) dX9_put_75 ⟨Nat.le_of_ble_eq_true rfl, Nat.le_of_ble_eq_true rfl⟩) hS (fun z85 u86 H locs p87 hw hS => ?_)
                obtain ⟨eu86, p87⟩ := p87
                subst eu86
                simp only [q900028, q900029] at p87
                rcases p87 with ⟨ez85, p87⟩ | ⟨ez85, p87⟩
                · subst ez85
                  refine x_if_eqF (tgt := 84) hx hb (by omega) (by decide) dX9_put_78 (by decide) ?_
                  refine lv_bipush (v := jI (-4)) hx hb dX9_put_81 (by decide) ?_
                  rw [hQ9]
                  refine ret_i (mc := 0) (ms := 0) hx hb hr hlocks hw hS (by first | exact Nat.le_of_ble_eq_true rfl | omega) (by first | exact Nat.le_of_ble_eq_true rfl | omega) dX9_put_83 ?_
                  have hMq90 : MInv X1 := minv_frm hMI q900033 (by decide)
                  exact ⟨X1, rfl, hRX1, hFX1, hMq90, by omega, (by (try delta Hid at *); exact Or.inr (Or.inr (Or.inr (Or.inl ⟨(by omega), by omega, (by omega), by omega, by omega⟩)))), fun _ => q900033, fun q => (by exfalso; omega)⟩
                · subst ez85
                  refine x_if_eqT (tgt := 84) hx hb (by omega) (by decide) dX9_put_78 (by decide) ?_
                  refine lv_aload_n hx hb dX9_put_84 rfl (lv_at hl 0 rfl) ?_
                  refine lv_iload_n hx hb dX9_put_85 rfl (lv_at hl 1 rfl) ?_
                  refine lv_iload_n hx hb dX9_put_86 rfl (lv_at hl 2 rfl) ?_
                  refine lv_lload_n hx hb dX9_put_87 rfl (lv_at hl 3 rfl) ?_
                  have hMq93 : MInv X1 := minv_frm hMI q900033 (by decide)
                  have e95 : ∀ j : Int, X1 55 0 j = X 55 0 j := fun j => by rw [hX1, u3_k _ _ _ _ (by first | exact Nat.ne_of_beq_eq_false rfl | decide)]
                  have e96 : ∀ j : Int, X1 44 0 j = X 44 0 j := fun j => by rw [hX1, u3_k _ _ _ _ (by first | exact Nat.ne_of_beq_eq_false rfl | decide)]
                  have e97 : ∀ j : Int, X1 46 0 j = X 46 0 j := fun j => by rw [hX1, u3_k _ _ _ _ (by first | exact Nat.ne_of_beq_eq_false rfl | decide)]
                  refine gos_v (run_V (As := [.int (jI x), .int (jI k), .long (jL v)]) (rest := []) hx hb hml hown hts (c_X9_becomes l D tc base ad cnt X1 Y ln hRX1 hFx hMq93 x k v (by omega) (by omega) (by omega) (by simp only [e95, e96, e97, q900027, q900028, q900029]; omega) (by simp only [e95, e96, e97, q900027, q900028, q900029]; omega) (by unfold tyv; simp only [e95, e96, e97, q900027, q900028, q900029]; exact ⟨fun _ => by omega, fun _ => by omega, fun _ => by omega⟩) (by simp only [e95, e96, e97, q900027, q900028, q900029]; (try simp only [Hid] at *); omega)) (cwV 3 hts gX9_put_X9_becomes rfl rfl rfl (by first | exact hd_X9_becomes | decide +kernel) ⟨Nat.le_of_ble_eq_true rfl, Nat.le_of_ble_eq_true rfl⟩) hK hw (by first | exact Int.le_refl 0 | omega) (by first | exact zlt hc40 | omega) sl_40_0 rfl rfl hl.1 rfl (Nat.le_of_ble_eq_true rfl) dX9_put_88 ⟨Nat.le_of_ble_eq_true rfl, Nat.le_of_ble_eq_true rfl⟩) hS (fun u102 H locs p103 hw hS => ?_)
                  obtain ⟨X104, eu102, hRX104, hG105, hMIX104, p103, hbnX104, hbvX104, hboX104⟩ := p103
                  subst eu102
                  have hFX104 : Frm [4001, 6400, 6500, 6700, 6800, 6600, 4023, 5600] X X104 := Frm.tr hFX1 (Frm.mono hG105 (by first | exact nls_of rfl | decide))
                  refine lv_iconst (v := jI 1) hx hb dX9_put_91 rfl ?_
                  rw [hQ9]
                  refine ret_i (mc := 0) (ms := 0) hx hb hr hlocks hw hS (by first | exact Nat.le_of_ble_eq_true rfl | omega) (by first | exact Nat.le_of_ble_eq_true rfl | omega) dX9_put_92 ?_
                  have e107 : ∀ j : Int, X1 46 0 j = X 46 0 j := fun j => by rw [hX1, u3_k _ _ _ _ (by first | exact Nat.ne_of_beq_eq_false rfl | decide)]
                  have e108 : ∀ j : Int, X1 55 0 j = X 55 0 j := fun j => by rw [hX1, u3_k _ _ _ _ (by first | exact Nat.ne_of_beq_eq_false rfl | decide)]
                  have e109 : ∀ j : Int, X1 56 0 j = X 56 0 j := fun j => by rw [hX1, u3_k _ _ _ _ (by first | exact Nat.ne_of_beq_eq_false rfl | decide)]
                  exact ⟨X104, rfl, hRX104, hFX104, hMIX104, by omega, (by (try delta Hid at *); exact Or.inr (Or.inr (Or.inr (Or.inr (⟨(by omega), by omega, (by omega), by omega, by omega⟩))))), fun q => (by exfalso; omega), fun _ => (by simp only [e107, e108, e109] at hbnX104 hboX104; exact ⟨eNoteM.from (M := [4001]) hbnX104 q900033 (by decide), hbvX104, hboX104⟩)⟩
              · refine lv_bipush (v := jI (-17)) hx hb dX9_put_71 (by decide) ?_
                rw [hQ9]
                refine ret_i (mc := 0) (ms := 0) hx hb hr hlocks hw hS (by first | exact Nat.le_of_ble_eq_true rfl | omega) (by first | exact Nat.le_of_ble_eq_true rfl | omega) dX9_put_73 ?_
                have hMq110 : MInv X1 := minv_frm hMI q900033 (by decide)
                exact ⟨X1, rfl, hRX1, hFX1, hMq110, by omega, (by (try delta Hid at *); exact Or.inr (Or.inr (Or.inl ⟨(by omega), by omega, by omega, (fun q => by omega), by omega⟩))), fun _ => q900033, fun q => (by exfalso; omega)⟩
    · refine lv_bipush (v := jI (-14)) hx hb dX9_put_26 (by decide) ?_
      rw [hQ9]
      refine ret_i (mc := 0) (ms := 0) hx hb hr hlocks hw hS (by first | exact Nat.le_of_ble_eq_true rfl | omega) (by first | exact Nat.le_of_ble_eq_true rfl | omega) dX9_put_28 ?_
      have hMq113 : MInv X1 := minv_frm hMI q900033 (by decide)
      exact ⟨X1, rfl, hRX1, hFX1, hMq113, by omega, (by (try delta Hid at *); exact Or.inr (Or.inl ⟨(by omega), by omega, by omega⟩)), fun _ => q900033, fun q => (by exfalso; omega)⟩
  · subst ez2
    refine x_if_neF (tgt := 16) hx hb (by omega) (by decide) dX9_put_11 (by decide) ?_
    refine lv_iconst (v := jI (-1)) hx hb dX9_put_14 rfl ?_
    rw [hQ9]
    refine ret_i (mc := 0) (ms := 0) hx hb hr hlocks hw hS (by first | exact Nat.le_of_ble_eq_true rfl | omega) (by first | exact Nat.le_of_ble_eq_true rfl | omega) dX9_put_15 ?_
    have hMq116 : MInv X1 := minv_frm hMI q900033 (by decide)
    exact ⟨X1, rfl, hRX1, hFX1, hMq116, by omega, (by (try delta Hid at *); exact Or.inl ⟨(fun q => by omega), by omega⟩), fun _ => q900033, fun q => (by exfalso; omega)⟩

set_option maxHeartbeats 4000000 in
set_option maxRecDepth 100000 in
theorem c_X9_refer (l : Launch) (D : va_G) (tc : Nat → ClassId) (base : Nat) (ad : Nat → Int → Nat) (cnt : Nat → Int) (X : Nat → Int → Int → Int) (Y : Nat → Int → Int → Option Int) (ln : Int → Int) (hR : Rng X) (hFx : Fx cnt) (hMI : MInv X) (x k y : Int) (hx : -2147483648 ≤ x ∧ x ≤ 2147483647) (hk : -2147483648 ≤ k ∧ k ≤ 2147483647) (hy : -2147483648 ≤ y ∧ y ≤ 2147483647) : KI l D tc base yX9_refer wsX9_refer ({ frames := 2, cells := 0, slots := 0, locals := 46 } : Room) [.ref (ad 40 0), .int (jI x), .int (jI k), .int (jI y)] (ad, cnt, X, Y, ln) 0 0 (fun z u => ∃ X1 : Nat → Int → Int → Int, u = (ad, cnt, X1, Y, ln) ∧ Rng X1 ∧ Frm [4001, 6400, 6500, 6700, 6800, 6600, 4023, 5600] X X1 ∧ MInv X1 ∧ (-2147483648 ≤ z ∧ z ≤ 2147483647) ∧ ((¬ ((0 ≤ x ∧ x < X 40 0 13 ∧ 0 ≤ k ∧ k < X 44 0 (X 55 0 x)) ∧ (y = -1 ∨ (0 ≤ y ∧ y < X 40 0 13))) ∧ z = -1) ∨ ((0 ≤ x ∧ x < X 40 0 13 ∧ 0 ≤ k ∧ k < X 44 0 (X 55 0 x)) ∧ (y = -1 ∨ (0 ≤ y ∧ y < X 40 0 13)) ∧ X 46 0 (5 * X 55 0 x + k) ≠ 2 ∧ z = -14) ∨ ((0 ≤ x ∧ x < X 40 0 13 ∧ 0 ≤ k ∧ k < X 44 0 (X 55 0 x)) ∧ (y = -1 ∨ (0 ≤ y ∧ y < X 40 0 13)) ∧ X 46 0 (5 * X 55 0 x + k) = 2 ∧ (0 < X 40 0 20 ∧ X 40 0 22 = 80) ∧ z = -4) ∨ ((0 ≤ x ∧ x < X 40 0 13 ∧ 0 ≤ k ∧ k < X 44 0 (X 55 0 x)) ∧ (y = -1 ∨ (0 ≤ y ∧ y < X 40 0 13)) ∧ X 46 0 (5 * X 55 0 x + k) = 2 ∧ (X 40 0 20 = 0 ∨ X 40 0 22 ≤ 79) ∧ z = 1)) ∧ (z < 0 → Frm [4001] X X1) ∧ (z = 1 → eNoteM X X1 x k (if 3 ≤ X 46 0 (5 * X 55 0 x + k) then X 56 0 (5 * x + k) else -1) (-1) (X 56 0 (5 * x + k)) ∧ X1 56 0 (5 * x + k) = y ∧ ∀ p, p ≠ 5 * x + k → X1 56 0 p = X 56 0 p)) := by
  refine K_of (cc := cX9_refer) (maxL := 4) (ret := (some .int)) (by decide) rfl (Nat.le_of_ble_eq_true rfl) ?_
  intro p e s m below meth c ls hx hb hr hml hown hts hlocks hl hK hw hS
  have hown : s.vm.findClass RX9 = some m.cls := hown
  obtain ⟨av9, hav9⟩ : ∃ a9 : Array Value, a9 = ([.ref (ad 40 0), .int (jI x), .int (jI k), .int (jI y)] : List Value).toArray := ⟨_, rfl⟩
  rw [← hav9] at hts ⊢
  obtain ⟨Q9, hQ9⟩ : ∃ q9Q : State → Prop, q9Q = MQ below (QI D tc base (fun z u => ∃ X1 : Nat → Int → Int → Int, u = (ad, cnt, X1, Y, ln) ∧ Rng X1 ∧ Frm [4001, 6400, 6500, 6700, 6800, 6600, 4023, 5600] X X1 ∧ MInv X1 ∧ (-2147483648 ≤ z ∧ z ≤ 2147483647) ∧ ((¬ ((0 ≤ x ∧ x < X 40 0 13 ∧ 0 ≤ k ∧ k < X 44 0 (X 55 0 x)) ∧ (y = -1 ∨ (0 ≤ y ∧ y < X 40 0 13))) ∧ z = -1) ∨ ((0 ≤ x ∧ x < X 40 0 13 ∧ 0 ≤ k ∧ k < X 44 0 (X 55 0 x)) ∧ (y = -1 ∨ (0 ≤ y ∧ y < X 40 0 13)) ∧ X 46 0 (5 * X 55 0 x + k) ≠ 2 ∧ z = -14) ∨ ((0 ≤ x ∧ x < X 40 0 13 ∧ 0 ≤ k ∧ k < X 44 0 (X 55 0 x)) ∧ (y = -1 ∨ (0 ≤ y ∧ y < X 40 0 13)) ∧ X 46 0 (5 * X 55 0 x + k) = 2 ∧ (0 < X 40 0 20 ∧ X 40 0 22 = 80) ∧ z = -4) ∨ ((0 ≤ x ∧ x < X 40 0 13 ∧ 0 ≤ k ∧ k < X 44 0 (X 55 0 x)) ∧ (y = -1 ∨ (0 ≤ y ∧ y < X 40 0 13)) ∧ X 46 0 (5 * X 55 0 x + k) = 2 ∧ (X 40 0 20 = 0 ∨ X 40 0 22 ≤ 79) ∧ z = 1)) ∧ (z < 0 → Frm [4001] X X1) ∧ (z = 1 → eNoteM X X1 x k (if 3 ≤ X 46 0 (5 * X 55 0 x + k) then X 56 0 (5 * x + k) else -1) (-1) (X 56 0 (5 * x + k)) ∧ X1 56 0 (5 * x + k) = y ∧ ∀ p, p ≠ 5 * x + k → X1 56 0 p = X 56 0 p))) av9 s 0 0 (frA base) := ⟨_, rfl⟩
  rw [← hQ9]
  have hi9 : ∀ w ∈ wsX90, w ∈ wsX9_refer := fun w h => List.mem_cons_of_mem _ (List.mem_append_right _ h)
  have hf9 : fctx s m _ RX9 wsX9_refer D tc RX9 TX9 51 9 := ⟨hts, hi9, hown, hK.1, rfl⟩
  have lk145 := hts (.fieldLink RX9 145 (TX9 0).1 (TX9 0).2.1 (TX9 0).2.2.1) (gj_X9_refer_0 _ (gp_h))
  have hc40 : cnt 40 = 1 := hFx.at 40 1 (by decide)
  have hl : lv_has ls 4 [(0, .ref (ad 40 0)), (1, .int (jI x)), (2, .int (jI k)), (3, .int (jI y))] := hl
  have fstypes : 0 ≤ X 40 0 2 ∧ X 40 0 2 ≤ 8 := hR 40 0 2
  have fsthings : 0 ≤ X 40 0 13 ∧ X 40 0 13 ≤ 30 := hR 40 0 13
  have fsmarks : 0 ≤ X 40 0 20 ∧ X 40 0 20 ≤ 4 := hR 40 0 20
  have fsnotes : 0 ≤ X 40 0 22 ∧ X 40 0 22 ≤ 80 := hR 40 0 22
  refine lv_aload_n hx hb dX9_refer_0 rfl (lv_at hl 0 rfl) ?_
  refine lv_iconst (v := jI 0) hx hb dX9_refer_1 rfl ?_
  refine x_puti (jz := 0) hx hb hf9 ⟨tyX9_ok, nmX9⟩ hw hS (by first | exact Int.le_refl 0 | omega) (by first | exact zlt hc40 | omega) sl_40_0 rfl lk145 rfl (tyX9_ok 0 (by decide)) rfl rfl dX9_refer_2 (fun H locs hw hS => ?_)
  obtain ⟨X1, hX1⟩ : ∃ Xq, Xq = u3 X 40 0 0 0 := ⟨_, rfl⟩
  rw [← hX1] at hw
  have hRX1 : Rng X1 := by rw [hX1]; exact rng_set hR (show (-2147483648) ≤ 0 ∧ 0 ≤ 2147483647 by omega)
  have hVX1 : X1 40 0 0 = 0 := by rw [hX1]; exact u3_s _ _ _ _ _
  have hFX1 : Frm [4001, 6400, 6500, 6700, 6800, 6600, 4023, 5600] X X1 := by rw [hX1]; exact Frm.set Frm.rf (show 4001 ∈ [4001, 6400, 6500, 6700, 6800, 6600, 4023, 5600] by first | exact nlm_in rfl | decide)
  refine lv_aload_n hx hb dX9_refer_5 rfl (lv_at hl 0 rfl) ?_
  refine lv_iload_n hx hb dX9_refer_6 rfl (lv_at hl 1 rfl) ?_
  refine lv_iload_n hx hb dX9_refer_7 rfl (lv_at hl 2 rfl) ?_
  refine gos_i (run_V (As := [.int (jI x), .int (jI k)]) (rest := []) hx hb hml hown hts (c_X9_isField l D tc base ad cnt X1 Y ln hRX1 hFx x k (by omega) (by omega)) (cwV 2 hts gX9_refer_X9_isField rfl rfl rfl (by first | exact hd_X9_isField | decide +kernel) ⟨Nat.le_of_ble_eq_true rfl, Nat.le_of_ble_eq_true rfl⟩) hK hw (by first | exact Int.le_refl 0 | omega) (by first | exact zlt hc40 | omega) sl_40_0 rfl rfl hl.1 rfl (Nat.le_of_ble_eq_true rfl) dX9_refer_8 ⟨Nat.le_of_ble_eq_true rfl, Nat.le_of_ble_eq_true rfl⟩) hS (fun z2 u3 H locs p4 hw hS => ?_)
  obtain ⟨eu3, p4⟩ := p4
  subst eu3
  have e5 : X1 40 0 13 = X 40 0 13 := by rw [hX1, u3_j _ _ _ _ (by decide)]
  have e6 : ∀ j : Int, X1 55 0 j = X 55 0 j := fun j => by rw [hX1, u3_k _ _ _ _ (by first | exact Nat.ne_of_beq_eq_false rfl | decide)]
  have e7 : ∀ j : Int, X1 44 0 j = X 44 0 j := fun j => by rw [hX1, u3_k _ _ _ _ (by first | exact Nat.ne_of_beq_eq_false rfl | decide)]
  simp only [e5, e6, e7] at p4
  have q900040 : Frm [4001] X X1 := by rw [hX1]; exact Frm.set Frm.rf (show 4001 ∈ [4001] by first | exact nlm_in rfl | decide)
  rcases p4 with ⟨ez2, p4⟩ | ⟨ez2, p4⟩
  · subst ez2
    refine x_if_eqF (tgt := 27) hx hb (by omega) (by decide) dX9_refer_11 (by decide) ?_
    refine lv_iload_n hx hb dX9_refer_14 rfl (lv_at hl 3 rfl) ?_
    refine lv_iconst (v := jI (-1)) hx hb dX9_refer_15 rfl ?_
    have q900034 : X1 40 0 13 = X 40 0 13 := by rw [hX1, u3_j _ _ _ _ (by decide)]
    have q900035 : X1 40 0 20 = X 40 0 20 := by rw [hX1, u3_j _ _ _ _ (by decide)]
    have q900036 : X1 40 0 22 = X 40 0 22 := by rw [hX1, u3_j _ _ _ _ (by decide)]
    refine x_icmp_eq (tgt := 29) hx hb (by omega) (by omega) dX9_refer_16 (by decide) (fun c8 => ?_) (fun c8 => ?_)
    · refine lv_aload_n hx hb dX9_refer_29 rfl (lv_at hl 0 rfl) ?_
      refine lv_iload_n hx hb dX9_refer_30 rfl (lv_at hl 1 rfl) ?_
      refine lv_iload_n hx hb dX9_refer_31 rfl (lv_at hl 2 rfl) ?_
      refine gos_i (run_V (As := [.int (jI x), .int (jI k)]) (rest := []) hx hb hml hown hts (c_X9_lane l D tc base ad cnt X1 Y ln hRX1 hFx x k (by omega) (by omega)) (cwV 2 hts gX9_refer_X9_lane rfl rfl rfl (by first | exact hd_X9_lane | decide +kernel) ⟨Nat.le_of_ble_eq_true rfl, Nat.le_of_ble_eq_true rfl⟩) hK hw (by first | exact Int.le_refl 0 | omega) (by first | exact zlt hc40 | omega) sl_40_0 rfl rfl hl.1 rfl (Nat.le_of_ble_eq_true rfl) dX9_refer_32 ⟨Nat.le_of_ble_eq_true rfl, Nat.le_of_ble_eq_true rfl⟩) hS (fun z9 u10 H locs p11 hw hS => ?_)
      obtain ⟨eu10, p11⟩ := p11
      subst eu10
      have e12 : ∀ j : Int, X1 55 0 j = X 55 0 j := fun j => by rw [hX1, u3_k _ _ _ _ (by first | exact Nat.ne_of_beq_eq_false rfl | decide)]
      have e13 : ∀ j : Int, X1 46 0 j = X 46 0 j := fun j => by rw [hX1, u3_k _ _ _ _ (by first | exact Nat.ne_of_beq_eq_false rfl | decide)]
      simp only [e12, e13] at p11
      refine lv_iconst (v := jI 2) hx hb dX9_refer_35 rfl ?_
      refine x_icmp_eq (tgt := 42) hx hb (by omega) (by omega) dX9_refer_36 (by decide) (fun c14 => ?_) (fun c14 => ?_)
      · refine lv_aload_n hx hb dX9_refer_42 rfl (lv_at hl 0 rfl) ?_
        refine gos_i (run_V (As := []) (rest := []) hx hb hml hown hts (c_X9_isFull l D tc base ad cnt X1 Y ln hRX1 hFx) (cwV 0 hts gX9_refer_X9_isFull rfl rfl rfl (by first | exact hd_X9_isFull | decide +kernel) ⟨Nat.le_of_ble_eq_true rfl, Nat.le_of_ble_eq_true rfl⟩) hK hw (by first | exact Int.le_refl 0 | omega) (by first | exact zlt hc40 | omega) sl_40_0 rfl rfl hl.1 rfl (Nat.le_of_ble_eq_true rfl) dX9_refer_43 ⟨Nat.le_of_ble_eq_true rfl, Nat.le_of_ble_eq_true rfl⟩) hS (fun z15 u16 H locs p17 hw hS => ?_)
        obtain ⟨eu16, p17⟩ := p17
        subst eu16
        have e18 : X1 40 0 20 = X 40 0 20 := by rw [hX1, u3_j _ _ _ _ (by decide)]
        have e19 : X1 40 0 22 = X 40 0 22 := by rw [hX1, u3_j _ _ _ _ (by decide)]
        simp only [e18, e19] at p17
        rcases p17 with ⟨ez15, p17⟩ | ⟨ez15, p17⟩
        · subst ez15
          refine x_if_eqF (tgt := 52) hx hb (by omega) (by decide) dX9_refer_46 (by decide) ?_
          refine lv_bipush (v := jI (-4)) hx hb dX9_refer_49 (by decide) ?_
          rw [hQ9]
          refine ret_i (mc := 0) (ms := 0) hx hb hr hlocks hw hS (by first | exact Nat.le_of_ble_eq_true rfl | omega) (by first | exact Nat.le_of_ble_eq_true rfl | omega) dX9_refer_51 ?_
          have hMq20 : MInv X1 := minv_frm hMI q900040 (by decide)
          exact ⟨X1, rfl, hRX1, hFX1, hMq20, by omega, (by (try delta Hid at *); exact Or.inr (Or.inr (Or.inl ⟨(by omega), (by omega), by omega, by omega, by omega⟩))), fun _ => q900040, fun q => (by exfalso; omega)⟩
        · subst ez15
          refine x_if_eqT (tgt := 52) hx hb (by omega) (by decide) dX9_refer_46 (by decide) ?_
          refine lv_aload_n hx hb dX9_refer_52 rfl (lv_at hl 0 rfl) ?_
          refine lv_iload_n hx hb dX9_refer_53 rfl (lv_at hl 1 rfl) ?_
          refine lv_iload_n hx hb dX9_refer_54 rfl (lv_at hl 2 rfl) ?_
          refine lv_iload_n hx hb dX9_refer_55 rfl (lv_at hl 3 rfl) ?_
          refine x_i2l hx hb (by omega) dX9_refer_56 ?_
          have hMq23 : MInv X1 := minv_frm hMI q900040 (by decide)
          have e25 : ∀ j : Int, X1 55 0 j = X 55 0 j := fun j => by rw [hX1, u3_k _ _ _ _ (by first | exact Nat.ne_of_beq_eq_false rfl | decide)]
          have e26 : ∀ j : Int, X1 44 0 j = X 44 0 j := fun j => by rw [hX1, u3_k _ _ _ _ (by first | exact Nat.ne_of_beq_eq_false rfl | decide)]
          have e27 : ∀ j : Int, X1 46 0 j = X 46 0 j := fun j => by rw [hX1, u3_k _ _ _ _ (by first | exact Nat.ne_of_beq_eq_false rfl | decide)]
          refine gos_v (run_V (As := [.int (jI x), .int (jI k), .long (jL y)]) (rest := []) hx hb hml hown hts (c_X9_becomes l D tc base ad cnt X1 Y ln hRX1 hFx hMq23 x k y (by omega) (by omega) (by omega) (by simp only [e25, e26, e27, q900034, q900035, q900036]; omega) (by simp only [e25, e26, e27, q900034, q900035, q900036]; omega) (by unfold tyv; simp only [e25, e26, e27, q900034, q900035, q900036]; exact ⟨fun _ => by omega, fun _ => by omega, fun _ => by omega⟩) (by simp only [e25, e26, e27, q900034, q900035, q900036]; (try simp only [Hid] at *); omega)) (cwV 3 hts gX9_refer_X9_becomes rfl rfl rfl (by first | exact hd_X9_becomes | decide +kernel) ⟨Nat.le_of_ble_eq_true rfl, Nat.le_of_ble_eq_true rfl⟩) hK hw (by first | exact Int.le_refl 0 | omega) (by first | exact zlt hc40 | omega) sl_40_0 rfl rfl hl.1 rfl (Nat.le_of_ble_eq_true rfl) dX9_refer_57 ⟨Nat.le_of_ble_eq_true rfl, Nat.le_of_ble_eq_true rfl⟩) hS (fun u32 H locs p33 hw hS => ?_)
          obtain ⟨X34, eu32, hRX34, hG35, hMIX34, p33, hbnX34, hbvX34, hboX34⟩ := p33
          subst eu32
          have hFX34 : Frm [4001, 6400, 6500, 6700, 6800, 6600, 4023, 5600] X X34 := Frm.tr hFX1 (Frm.mono hG35 (by first | exact nls_of rfl | decide))
          refine lv_iconst (v := jI 1) hx hb dX9_refer_60 rfl ?_
          rw [hQ9]
          refine ret_i (mc := 0) (ms := 0) hx hb hr hlocks hw hS (by first | exact Nat.le_of_ble_eq_true rfl | omega) (by first | exact Nat.le_of_ble_eq_true rfl | omega) dX9_refer_61 ?_
          have e37 : ∀ j : Int, X1 46 0 j = X 46 0 j := fun j => by rw [hX1, u3_k _ _ _ _ (by first | exact Nat.ne_of_beq_eq_false rfl | decide)]
          have e38 : ∀ j : Int, X1 55 0 j = X 55 0 j := fun j => by rw [hX1, u3_k _ _ _ _ (by first | exact Nat.ne_of_beq_eq_false rfl | decide)]
          have e39 : ∀ j : Int, X1 56 0 j = X 56 0 j := fun j => by rw [hX1, u3_k _ _ _ _ (by first | exact Nat.ne_of_beq_eq_false rfl | decide)]
          exact ⟨X34, rfl, hRX34, hFX34, hMIX34, by omega, (by (try delta Hid at *); exact Or.inr (Or.inr (Or.inr (⟨(by omega), (by omega), by omega, by omega, by omega⟩)))), fun q => (by exfalso; omega), fun _ => (by simp only [e37, e38, e39] at hbnX34 hboX34; exact ⟨eNoteM.from (M := [4001]) hbnX34 q900040 (by decide), hbvX34, hboX34⟩)⟩
      · refine lv_bipush (v := jI (-14)) hx hb dX9_refer_39 (by decide) ?_
        rw [hQ9]
        refine ret_i (mc := 0) (ms := 0) hx hb hr hlocks hw hS (by first | exact Nat.le_of_ble_eq_true rfl | omega) (by first | exact Nat.le_of_ble_eq_true rfl | omega) dX9_refer_41 ?_
        have hMq40 : MInv X1 := minv_frm hMI q900040 (by decide)
        exact ⟨X1, rfl, hRX1, hFX1, hMq40, by omega, (by (try delta Hid at *); exact Or.inr (Or.inl ⟨(by omega), (by omega), by omega, by omega⟩)), fun _ => q900040, fun q => (by exfalso; omega)⟩
    · refine lv_aload_n hx hb dX9_refer_19 rfl (lv_at hl 0 rfl) ?_
      refine lv_iload_n hx hb dX9_refer_20 rfl (lv_at hl 3 rfl) ?_
      refine gos_i (run_V (As := [.int (jI y)]) (rest := []) hx hb hml hown hts (c_X9_isThing l D tc base ad cnt X1 Y ln hRX1 hFx y (by omega)) (cwV 1 hts gX9_refer_X9_isThing rfl rfl rfl (by first | exact hd_X9_isThing | decide +kernel) ⟨Nat.le_of_ble_eq_true rfl, Nat.le_of_ble_eq_true rfl⟩) hK hw (by first | exact Int.le_refl 0 | omega) (by first | exact zlt hc40 | omega) sl_40_0 rfl rfl hl.1 rfl (Nat.le_of_ble_eq_true rfl) dX9_refer_21 ⟨Nat.le_of_ble_eq_true rfl, Nat.le_of_ble_eq_true rfl⟩) hS (fun z43 u44 H locs p45 hw hS => ?_)
      obtain ⟨eu44, p45⟩ := p45
      subst eu44
      simp only [q900034] at p45
      rcases p45 with ⟨ez43, p45⟩ | ⟨ez43, p45⟩
      · subst ez43
        refine x_if_neT (tgt := 29) hx hb (by omega) (by decide) dX9_refer_24 (by decide) ?_
        refine lv_aload_n hx hb dX9_refer_29 rfl (lv_at hl 0 rfl) ?_
        refine lv_iload_n hx hb dX9_refer_30 rfl (lv_at hl 1 rfl) ?_
        refine lv_iload_n hx hb dX9_refer_31 rfl (lv_at hl 2 rfl) ?_
        refine gos_i (run_V (As := [.int (jI x), .int (jI k)]) (rest := []) hx hb hml hown hts (c_X9_lane l D tc base ad cnt X1 Y ln hRX1 hFx x k (by omega) (by omega)) (cwV 2 hts gX9_refer_X9_lane rfl rfl rfl (by first | exact hd_X9_lane | decide +kernel) ⟨Nat.le_of_ble_eq_true rfl, Nat.le_of_ble_eq_true rfl⟩) hK hw (by first | exact Int.le_refl 0 | omega) (by first | exact zlt hc40 | omega) sl_40_0 rfl rfl hl.1 rfl (Nat.le_of_ble_eq_true rfl) dX9_refer_32 ⟨Nat.le_of_ble_eq_true rfl, Nat.le_of_ble_eq_true rfl⟩) hS (fun z47 u48 H locs p49 hw hS => ?_)
        obtain ⟨eu48, p49⟩ := p49
        subst eu48
        have e50 : ∀ j : Int, X1 55 0 j = X 55 0 j := fun j => by rw [hX1, u3_k _ _ _ _ (by first | exact Nat.ne_of_beq_eq_false rfl | decide)]
        have e51 : ∀ j : Int, X1 46 0 j = X 46 0 j := fun j => by rw [hX1, u3_k _ _ _ _ (by first | exact Nat.ne_of_beq_eq_false rfl | decide)]
        simp only [e50, e51] at p49
        refine lv_iconst (v := jI 2) hx hb dX9_refer_35 rfl ?_
        refine x_icmp_eq (tgt := 42) hx hb (by omega) (by omega) dX9_refer_36 (by decide) (fun c52 => ?_) (fun c52 => ?_)
        · refine lv_aload_n hx hb dX9_refer_42 rfl (lv_at hl 0 rfl) ?_
          refine gos_i (run_V (As := []) (rest := []) hx hb hml hown hts (c_X9_isFull l D tc base ad cnt X1 Y ln hRX1 hFx) (cwV 0 hts gX9_refer_X9_isFull rfl rfl rfl (by first | exact hd_X9_isFull | decide +kernel) ⟨Nat.le_of_ble_eq_true rfl, Nat.le_of_ble_eq_true rfl⟩) hK hw (by first | exact Int.le_refl 0 | omega) (by first | exact zlt hc40 | omega) sl_40_0 rfl rfl hl.1 rfl (Nat.le_of_ble_eq_true rfl) dX9_refer_43 ⟨Nat.le_of_ble_eq_true rfl, Nat.le_of_ble_eq_true rfl⟩) hS (fun z53 u54 H locs p55 hw hS => ?_)
          obtain ⟨eu54, p55⟩ := p55
          subst eu54
          simp only [q900035, q900036] at p55
          rcases p55 with ⟨ez53, p55⟩ | ⟨ez53, p55⟩
          · subst ez53
            refine x_if_eqF (tgt := 52) hx hb (by omega) (by decide) dX9_refer_46 (by decide) ?_
            refine lv_bipush (v := jI (-4)) hx hb dX9_refer_49 (by decide) ?_
            rw [hQ9]
            refine ret_i (mc := 0) (ms := 0) hx hb hr hlocks hw hS (by first | exact Nat.le_of_ble_eq_true rfl | omega) (by first | exact Nat.le_of_ble_eq_true rfl | omega) dX9_refer_51 ?_
            have hMq58 : MInv X1 := minv_frm hMI q900040 (by decide)
            exact ⟨X1, rfl, hRX1, hFX1, hMq58, by omega, (by (try delta Hid at *); exact Or.inr (Or.inr (Or.inl ⟨(by omega), (by omega), by omega, by omega, by omega⟩))), fun _ => q900040, fun q => (by exfalso; omega)⟩
          · subst ez53
            refine x_if_eqT (tgt := 52) hx hb (by omega) (by decide) dX9_refer_46 (by decide) ?_
            refine lv_aload_n hx hb dX9_refer_52 rfl (lv_at hl 0 rfl) ?_
            refine lv_iload_n hx hb dX9_refer_53 rfl (lv_at hl 1 rfl) ?_
            refine lv_iload_n hx hb dX9_refer_54 rfl (lv_at hl 2 rfl) ?_
            refine lv_iload_n hx hb dX9_refer_55 rfl (lv_at hl 3 rfl) ?_
            refine x_i2l hx hb (by omega) dX9_refer_56 ?_
            have hMq61 : MInv X1 := minv_frm hMI q900040 (by decide)
            have e63 : ∀ j : Int, X1 55 0 j = X 55 0 j := fun j => by rw [hX1, u3_k _ _ _ _ (by first | exact Nat.ne_of_beq_eq_false rfl | decide)]
            have e64 : ∀ j : Int, X1 44 0 j = X 44 0 j := fun j => by rw [hX1, u3_k _ _ _ _ (by first | exact Nat.ne_of_beq_eq_false rfl | decide)]
            have e65 : ∀ j : Int, X1 46 0 j = X 46 0 j := fun j => by rw [hX1, u3_k _ _ _ _ (by first | exact Nat.ne_of_beq_eq_false rfl | decide)]
            refine gos_v (run_V (As := [.int (jI x), .int (jI k), .long (jL y)]) (rest := []) hx hb hml hown hts (c_X9_becomes l D tc base ad cnt X1 Y ln hRX1 hFx hMq61 x k y (by omega) (by omega) (by omega) (by simp only [e63, e64, e65, q900034, q900035, q900036]; omega) (by simp only [e63, e64, e65, q900034, q900035, q900036]; omega) (by unfold tyv; simp only [e63, e64, e65, q900034, q900035, q900036]; exact ⟨fun _ => by omega, fun _ => by omega, fun _ => by omega⟩) (by simp only [e63, e64, e65, q900034, q900035, q900036]; (try simp only [Hid] at *); omega)) (cwV 3 hts gX9_refer_X9_becomes rfl rfl rfl (by first | exact hd_X9_becomes | decide +kernel) ⟨Nat.le_of_ble_eq_true rfl, Nat.le_of_ble_eq_true rfl⟩) hK hw (by first | exact Int.le_refl 0 | omega) (by first | exact zlt hc40 | omega) sl_40_0 rfl rfl hl.1 rfl (Nat.le_of_ble_eq_true rfl) dX9_refer_57 ⟨Nat.le_of_ble_eq_true rfl, Nat.le_of_ble_eq_true rfl⟩) hS (fun u70 H locs p71 hw hS => ?_)
            obtain ⟨X72, eu70, hRX72, hG73, hMIX72, p71, hbnX72, hbvX72, hboX72⟩ := p71
            subst eu70
            have hFX72 : Frm [4001, 6400, 6500, 6700, 6800, 6600, 4023, 5600] X X72 := Frm.tr hFX1 (Frm.mono hG73 (by first | exact nls_of rfl | decide))
            refine lv_iconst (v := jI 1) hx hb dX9_refer_60 rfl ?_
            rw [hQ9]
            refine ret_i (mc := 0) (ms := 0) hx hb hr hlocks hw hS (by first | exact Nat.le_of_ble_eq_true rfl | omega) (by first | exact Nat.le_of_ble_eq_true rfl | omega) dX9_refer_61 ?_
            have e75 : ∀ j : Int, X1 46 0 j = X 46 0 j := fun j => by rw [hX1, u3_k _ _ _ _ (by first | exact Nat.ne_of_beq_eq_false rfl | decide)]
            have e76 : ∀ j : Int, X1 55 0 j = X 55 0 j := fun j => by rw [hX1, u3_k _ _ _ _ (by first | exact Nat.ne_of_beq_eq_false rfl | decide)]
            have e77 : ∀ j : Int, X1 56 0 j = X 56 0 j := fun j => by rw [hX1, u3_k _ _ _ _ (by first | exact Nat.ne_of_beq_eq_false rfl | decide)]
            exact ⟨X72, rfl, hRX72, hFX72, hMIX72, by omega, (by (try delta Hid at *); exact Or.inr (Or.inr (Or.inr (⟨(by omega), (by omega), by omega, by omega, by omega⟩)))), fun q => (by exfalso; omega), fun _ => (by simp only [e75, e76, e77] at hbnX72 hboX72; exact ⟨eNoteM.from (M := [4001]) hbnX72 q900040 (by decide), hbvX72, hboX72⟩)⟩
        · refine lv_bipush (v := jI (-14)) hx hb dX9_refer_39 (by decide) ?_
          rw [hQ9]
          refine ret_i (mc := 0) (ms := 0) hx hb hr hlocks hw hS (by first | exact Nat.le_of_ble_eq_true rfl | omega) (by first | exact Nat.le_of_ble_eq_true rfl | omega) dX9_refer_41 ?_
          have hMq78 : MInv X1 := minv_frm hMI q900040 (by decide)
          exact ⟨X1, rfl, hRX1, hFX1, hMq78, by omega, (by (try delta Hid at *); exact Or.inr (Or.inl ⟨(by omega), (by omega), by omega, by omega⟩)), fun _ => q900040, fun q => (by exfalso; omega)⟩
      · subst ez43
        refine x_if_neF (tgt := 29) hx hb (by omega) (by decide) dX9_refer_24 (by decide) ?_
        refine lv_iconst (v := jI (-1)) hx hb dX9_refer_27 rfl ?_
        rw [hQ9]
        refine ret_i (mc := 0) (ms := 0) hx hb hr hlocks hw hS (by first | exact Nat.le_of_ble_eq_true rfl | omega) (by first | exact Nat.le_of_ble_eq_true rfl | omega) dX9_refer_28 ?_
        have hMq81 : MInv X1 := minv_frm hMI q900040 (by decide)
        exact ⟨X1, rfl, hRX1, hFX1, hMq81, by omega, (by (try delta Hid at *); exact Or.inl ⟨(fun q => by omega), by omega⟩), fun _ => q900040, fun q => (by exfalso; omega)⟩
  · subst ez2
    refine x_if_eqT (tgt := 27) hx hb (by omega) (by decide) dX9_refer_11 (by decide) ?_
    refine lv_iconst (v := jI (-1)) hx hb dX9_refer_27 rfl ?_
    rw [hQ9]
    refine ret_i (mc := 0) (ms := 0) hx hb hr hlocks hw hS (by first | exact Nat.le_of_ble_eq_true rfl | omega) (by first | exact Nat.le_of_ble_eq_true rfl | omega) dX9_refer_28 ?_
    have hMq84 : MInv X1 := minv_frm hMI q900040 (by decide)
    exact ⟨X1, rfl, hRX1, hFX1, hMq84, by omega, (by (try delta Hid at *); exact Or.inl ⟨(fun q => by omega), by omega⟩), fun _ => q900040, fun q => (by exfalso; omega)⟩

set_option maxHeartbeats 4000000 in
set_option maxRecDepth 100000 in
theorem c_X9_share (l : Launch) (D : va_G) (tc : Nat → ClassId) (base : Nat) (ad : Nat → Int → Nat) (cnt : Nat → Int) (X : Nat → Int → Int → Int) (Y : Nat → Int → Int → Option Int) (ln : Int → Int) (hR : Rng X) (hFx : Fx cnt) (hMI : MInv X) (x k y j : Int) (hx : -2147483648 ≤ x ∧ x ≤ 2147483647) (hk : -2147483648 ≤ k ∧ k ≤ 2147483647) (hy : -2147483648 ≤ y ∧ y ≤ 2147483647) (hj : -2147483648 ≤ j ∧ j ≤ 2147483647) : KI l D tc base yX9_share wsX9_share ({ frames := 2, cells := 0, slots := 0, locals := 46 } : Room) [.ref (ad 40 0), .int (jI x), .int (jI k), .int (jI y), .int (jI j)] (ad, cnt, X, Y, ln) 0 0 (fun z u => ∃ X1 : Nat → Int → Int → Int, u = (ad, cnt, X1, Y, ln) ∧ Rng X1 ∧ Frm [4001, 6400, 6500, 6700, 6800, 6600, 4023, 5600] X X1 ∧ MInv X1 ∧ (-2147483648 ≤ z ∧ z ≤ 2147483647) ∧ ((¬ ((0 ≤ x ∧ x < X 40 0 13 ∧ 0 ≤ k ∧ k < X 44 0 (X 55 0 x)) ∧ (0 ≤ y ∧ y < X 40 0 13 ∧ 0 ≤ j ∧ j < X 44 0 (X 55 0 y))) ∧ z = -1) ∨ (((0 ≤ x ∧ x < X 40 0 13 ∧ 0 ≤ k ∧ k < X 44 0 (X 55 0 x)) ∧ (0 ≤ y ∧ y < X 40 0 13 ∧ 0 ≤ j ∧ j < X 44 0 (X 55 0 y))) ∧ (X 46 0 (5 * X 55 0 x + k) < 3 ∨ X 46 0 (5 * X 55 0 x + k) ≠ X 46 0 (5 * X 55 0 y + j)) ∧ z = -14) ∨ (((0 ≤ x ∧ x < X 40 0 13 ∧ 0 ≤ k ∧ k < X 44 0 (X 55 0 x)) ∧ (0 ≤ y ∧ y < X 40 0 13 ∧ 0 ≤ j ∧ j < X 44 0 (X 55 0 y))) ∧ 3 ≤ X 46 0 (5 * X 55 0 x + k) ∧ X 46 0 (5 * X 55 0 x + k) = X 46 0 (5 * X 55 0 y + j) ∧ (0 < X 40 0 20 ∧ X 40 0 22 = 80) ∧ z = -4) ∨ (((0 ≤ x ∧ x < X 40 0 13 ∧ 0 ≤ k ∧ k < X 44 0 (X 55 0 x)) ∧ (0 ≤ y ∧ y < X 40 0 13 ∧ 0 ≤ j ∧ j < X 44 0 (X 55 0 y))) ∧ 3 ≤ X 46 0 (5 * X 55 0 x + k) ∧ X 46 0 (5 * X 55 0 x + k) = X 46 0 (5 * X 55 0 y + j) ∧ (X 40 0 20 = 0 ∨ X 40 0 22 ≤ 79) ∧ z = 1)) ∧ (z < 0 → Frm [4001] X X1) ∧ (z = 1 → eNoteM X X1 x k (if 3 ≤ X 46 0 (5 * X 55 0 x + k) then X 56 0 (5 * x + k) else -1) (-1) (X 56 0 (5 * x + k)) ∧ X1 56 0 (5 * x + k) = X 56 0 (5 * y + j) ∧ ∀ p, p ≠ 5 * x + k → X1 56 0 p = X 56 0 p)) := by
  refine K_of (cc := cX9_share) (maxL := 5) (ret := (some .int)) (by decide) rfl (Nat.le_of_ble_eq_true rfl) ?_
  intro p e s m below meth c ls hx hb hr hml hown hts hlocks hl hK hw hS
  have hown : s.vm.findClass RX9 = some m.cls := hown
  obtain ⟨av9, hav9⟩ : ∃ a9 : Array Value, a9 = ([.ref (ad 40 0), .int (jI x), .int (jI k), .int (jI y), .int (jI j)] : List Value).toArray := ⟨_, rfl⟩
  rw [← hav9] at hts ⊢
  obtain ⟨Q9, hQ9⟩ : ∃ q9Q : State → Prop, q9Q = MQ below (QI D tc base (fun z u => ∃ X1 : Nat → Int → Int → Int, u = (ad, cnt, X1, Y, ln) ∧ Rng X1 ∧ Frm [4001, 6400, 6500, 6700, 6800, 6600, 4023, 5600] X X1 ∧ MInv X1 ∧ (-2147483648 ≤ z ∧ z ≤ 2147483647) ∧ ((¬ ((0 ≤ x ∧ x < X 40 0 13 ∧ 0 ≤ k ∧ k < X 44 0 (X 55 0 x)) ∧ (0 ≤ y ∧ y < X 40 0 13 ∧ 0 ≤ j ∧ j < X 44 0 (X 55 0 y))) ∧ z = -1) ∨ (((0 ≤ x ∧ x < X 40 0 13 ∧ 0 ≤ k ∧ k < X 44 0 (X 55 0 x)) ∧ (0 ≤ y ∧ y < X 40 0 13 ∧ 0 ≤ j ∧ j < X 44 0 (X 55 0 y))) ∧ (X 46 0 (5 * X 55 0 x + k) < 3 ∨ X 46 0 (5 * X 55 0 x + k) ≠ X 46 0 (5 * X 55 0 y + j)) ∧ z = -14) ∨ (((0 ≤ x ∧ x < X 40 0 13 ∧ 0 ≤ k ∧ k < X 44 0 (X 55 0 x)) ∧ (0 ≤ y ∧ y < X 40 0 13 ∧ 0 ≤ j ∧ j < X 44 0 (X 55 0 y))) ∧ 3 ≤ X 46 0 (5 * X 55 0 x + k) ∧ X 46 0 (5 * X 55 0 x + k) = X 46 0 (5 * X 55 0 y + j) ∧ (0 < X 40 0 20 ∧ X 40 0 22 = 80) ∧ z = -4) ∨ (((0 ≤ x ∧ x < X 40 0 13 ∧ 0 ≤ k ∧ k < X 44 0 (X 55 0 x)) ∧ (0 ≤ y ∧ y < X 40 0 13 ∧ 0 ≤ j ∧ j < X 44 0 (X 55 0 y))) ∧ 3 ≤ X 46 0 (5 * X 55 0 x + k) ∧ X 46 0 (5 * X 55 0 x + k) = X 46 0 (5 * X 55 0 y + j) ∧ (X 40 0 20 = 0 ∨ X 40 0 22 ≤ 79) ∧ z = 1)) ∧ (z < 0 → Frm [4001] X X1) ∧ (z = 1 → eNoteM X X1 x k (if 3 ≤ X 46 0 (5 * X 55 0 x + k) then X 56 0 (5 * x + k) else -1) (-1) (X 56 0 (5 * x + k)) ∧ X1 56 0 (5 * x + k) = X 56 0 (5 * y + j) ∧ ∀ p, p ≠ 5 * x + k → X1 56 0 p = X 56 0 p))) av9 s 0 0 (frA base) := ⟨_, rfl⟩
  rw [← hQ9]
  have hi9 : ∀ w ∈ wsX90, w ∈ wsX9_share := fun w h => List.mem_cons_of_mem _ (List.mem_append_right _ h)
  have hf9 : fctx s m _ RX9 wsX9_share D tc RX9 TX9 51 9 := ⟨hts, hi9, hown, hK.1, rfl⟩
  have lk48 := hts (.fieldLink RX9 48 (TX9 15).1 (TX9 15).2.1 (TX9 15).2.2.1) (gj_X9_share_0 _ (gp_1 gp_h))
  have lk145 := hts (.fieldLink RX9 145 (TX9 0).1 (TX9 0).2.1 (TX9 0).2.2.1) (gj_X9_share_0 _ (gp_h))
  have hc40 : cnt 40 = 1 := hFx.at 40 1 (by decide)
  have hc56 : cnt 56 = 1 := hFx.at 56 1 (by decide)
  have hl : lv_has ls 5 [(0, .ref (ad 40 0)), (1, .int (jI x)), (2, .int (jI k)), (3, .int (jI y)), (4, .int (jI j))] := hl
  have fstypes : 0 ≤ X 40 0 2 ∧ X 40 0 2 ≤ 8 := hR 40 0 2
  have fsthings : 0 ≤ X 40 0 13 ∧ X 40 0 13 ≤ 30 := hR 40 0 13
  have fsmarks : 0 ≤ X 40 0 20 ∧ X 40 0 20 ≤ 4 := hR 40 0 20
  have fsnotes : 0 ≤ X 40 0 22 ∧ X 40 0 22 ≤ 80 := hR 40 0 22
  refine lv_aload_n hx hb dX9_share_0 rfl (lv_at hl 0 rfl) ?_
  refine lv_iconst (v := jI 0) hx hb dX9_share_1 rfl ?_
  refine x_puti (jz := 0) hx hb hf9 ⟨tyX9_ok, nmX9⟩ hw hS (by first | exact Int.le_refl 0 | omega) (by first | exact zlt hc40 | omega) sl_40_0 rfl lk145 rfl (tyX9_ok 0 (by decide)) rfl rfl dX9_share_2 (fun H locs hw hS => ?_)
  obtain ⟨X1, hX1⟩ : ∃ Xq, Xq = u3 X 40 0 0 0 := ⟨_, rfl⟩
  rw [← hX1] at hw
  have hRX1 : Rng X1 := by rw [hX1]; exact rng_set hR (show (-2147483648) ≤ 0 ∧ 0 ≤ 2147483647 by omega)
  have hVX1 : X1 40 0 0 = 0 := by rw [hX1]; exact u3_s _ _ _ _ _
  have hFX1 : Frm [4001, 6400, 6500, 6700, 6800, 6600, 4023, 5600] X X1 := by rw [hX1]; exact Frm.set Frm.rf (show 4001 ∈ [4001, 6400, 6500, 6700, 6800, 6600, 4023, 5600] by first | exact nlm_in rfl | decide)
  refine lv_aload_n hx hb dX9_share_5 rfl (lv_at hl 0 rfl) ?_
  refine lv_iload_n hx hb dX9_share_6 rfl (lv_at hl 1 rfl) ?_
  refine lv_iload_n hx hb dX9_share_7 rfl (lv_at hl 2 rfl) ?_
  refine gos_i (run_V (As := [.int (jI x), .int (jI k)]) (rest := []) hx hb hml hown hts (c_X9_isField l D tc base ad cnt X1 Y ln hRX1 hFx x k (by omega) (by omega)) (cwV 2 hts gX9_share_X9_isField rfl rfl rfl (by first | exact hd_X9_isField | decide +kernel) ⟨Nat.le_of_ble_eq_true rfl, Nat.le_of_ble_eq_true rfl⟩) hK hw (by first | exact Int.le_refl 0 | omega) (by first | exact zlt hc40 | omega) sl_40_0 rfl rfl hl.1 rfl (Nat.le_of_ble_eq_true rfl) dX9_share_8 ⟨Nat.le_of_ble_eq_true rfl, Nat.le_of_ble_eq_true rfl⟩) hS (fun z2 u3 H locs p4 hw hS => ?_)
  obtain ⟨eu3, p4⟩ := p4
  subst eu3
  have e5 : X1 40 0 13 = X 40 0 13 := by rw [hX1, u3_j _ _ _ _ (by decide)]
  have e6 : ∀ j : Int, X1 55 0 j = X 55 0 j := fun j => by rw [hX1, u3_k _ _ _ _ (by first | exact Nat.ne_of_beq_eq_false rfl | decide)]
  have e7 : ∀ j : Int, X1 44 0 j = X 44 0 j := fun j => by rw [hX1, u3_k _ _ _ _ (by first | exact Nat.ne_of_beq_eq_false rfl | decide)]
  simp only [e5, e6, e7] at p4
  have q900043 : Frm [4001] X X1 := by rw [hX1]; exact Frm.set Frm.rf (show 4001 ∈ [4001] by first | exact nlm_in rfl | decide)
  rcases p4 with ⟨ez2, p4⟩ | ⟨ez2, p4⟩
  · subst ez2
    refine x_if_eqF (tgt := 24) hx hb (by omega) (by decide) dX9_share_11 (by decide) ?_
    refine lv_aload_n hx hb dX9_share_14 rfl (lv_at hl 0 rfl) ?_
    refine lv_iload_n hx hb dX9_share_15 rfl (lv_at hl 3 rfl) ?_
    refine lv_iload hx hb dX9_share_16 (lv_at hl 4 rfl) ?_
    refine gos_i (run_V (As := [.int (jI y), .int (jI j)]) (rest := []) hx hb hml hown hts (c_X9_isField l D tc base ad cnt X1 Y ln hRX1 hFx y j (by omega) (by omega)) (cwV 2 hts gX9_share_X9_isField rfl rfl rfl (by first | exact hd_X9_isField | decide +kernel) ⟨Nat.le_of_ble_eq_true rfl, Nat.le_of_ble_eq_true rfl⟩) hK hw (by first | exact Int.le_refl 0 | omega) (by first | exact zlt hc40 | omega) sl_40_0 rfl rfl hl.1 rfl (Nat.le_of_ble_eq_true rfl) dX9_share_18 ⟨Nat.le_of_ble_eq_true rfl, Nat.le_of_ble_eq_true rfl⟩) hS (fun z8 u9 H locs p10 hw hS => ?_)
    obtain ⟨eu9, p10⟩ := p10
    subst eu9
    have e11 : X1 40 0 13 = X 40 0 13 := by rw [hX1, u3_j _ _ _ _ (by decide)]
    have e12 : ∀ j : Int, X1 55 0 j = X 55 0 j := fun j => by rw [hX1, u3_k _ _ _ _ (by first | exact Nat.ne_of_beq_eq_false rfl | decide)]
    have e13 : ∀ j : Int, X1 44 0 j = X 44 0 j := fun j => by rw [hX1, u3_k _ _ _ _ (by first | exact Nat.ne_of_beq_eq_false rfl | decide)]
    simp only [e11, e12, e13] at p10
    rcases p10 with ⟨ez8, p10⟩ | ⟨ez8, p10⟩
    · subst ez8
      refine x_if_neT (tgt := 26) hx hb (by omega) (by decide) dX9_share_21 (by decide) ?_
      refine lv_aload_n hx hb dX9_share_26 rfl (lv_at hl 0 rfl) ?_
      refine lv_iload_n hx hb dX9_share_27 rfl (lv_at hl 1 rfl) ?_
      refine lv_iload_n hx hb dX9_share_28 rfl (lv_at hl 2 rfl) ?_
      refine gos_i (run_V (As := [.int (jI x), .int (jI k)]) (rest := []) hx hb hml hown hts (c_X9_lane l D tc base ad cnt X1 Y ln hRX1 hFx x k (by omega) (by omega)) (cwV 2 hts gX9_share_X9_lane rfl rfl rfl (by first | exact hd_X9_lane | decide +kernel) ⟨Nat.le_of_ble_eq_true rfl, Nat.le_of_ble_eq_true rfl⟩) hK hw (by first | exact Int.le_refl 0 | omega) (by first | exact zlt hc40 | omega) sl_40_0 rfl rfl hl.1 rfl (Nat.le_of_ble_eq_true rfl) dX9_share_29 ⟨Nat.le_of_ble_eq_true rfl, Nat.le_of_ble_eq_true rfl⟩) hS (fun z14 u15 H locs p16 hw hS => ?_)
      obtain ⟨eu15, p16⟩ := p16
      subst eu15
      have e17 : ∀ j : Int, X1 55 0 j = X 55 0 j := fun j => by rw [hX1, u3_k _ _ _ _ (by first | exact Nat.ne_of_beq_eq_false rfl | decide)]
      have e18 : ∀ j : Int, X1 46 0 j = X 46 0 j := fun j => by rw [hX1, u3_k _ _ _ _ (by first | exact Nat.ne_of_beq_eq_false rfl | decide)]
      simp only [e17, e18] at p16
      refine lv_iconst (v := jI 3) hx hb dX9_share_32 rfl ?_
      refine x_icmp_lt (tgt := 52) hx hb (by omega) (by omega) dX9_share_33 (by decide) (fun c19 => ?_) (fun c19 => ?_)
      · refine lv_bipush (v := jI (-14)) hx hb dX9_share_52 (by decide) ?_
        rw [hQ9]
        refine ret_i (mc := 0) (ms := 0) hx hb hr hlocks hw hS (by first | exact Nat.le_of_ble_eq_true rfl | omega) (by first | exact Nat.le_of_ble_eq_true rfl | omega) dX9_share_54 ?_
        have hMq20 : MInv X1 := minv_frm hMI q900043 (by decide)
        exact ⟨X1, rfl, hRX1, hFX1, hMq20, by omega, (by (try delta Hid at *); exact Or.inr (Or.inl ⟨(by omega), (by omega), by omega⟩)), fun _ => q900043, fun q => (by exfalso; omega)⟩
      · refine lv_aload_n hx hb dX9_share_36 rfl (lv_at hl 0 rfl) ?_
        refine lv_iload_n hx hb dX9_share_37 rfl (lv_at hl 1 rfl) ?_
        refine lv_iload_n hx hb dX9_share_38 rfl (lv_at hl 2 rfl) ?_
        refine gos_i (run_V (As := [.int (jI x), .int (jI k)]) (rest := []) hx hb hml hown hts (c_X9_lane l D tc base ad cnt X1 Y ln hRX1 hFx x k (by omega) (by omega)) (cwV 2 hts gX9_share_X9_lane rfl rfl rfl (by first | exact hd_X9_lane | decide +kernel) ⟨Nat.le_of_ble_eq_true rfl, Nat.le_of_ble_eq_true rfl⟩) hK hw (by first | exact Int.le_refl 0 | omega) (by first | exact zlt hc40 | omega) sl_40_0 rfl rfl hl.1 rfl (Nat.le_of_ble_eq_true rfl) dX9_share_39 ⟨Nat.le_of_ble_eq_true rfl, Nat.le_of_ble_eq_true rfl⟩) hS (fun z23 u24 H locs p25 hw hS => ?_)
        obtain ⟨eu24, p25⟩ := p25
        subst eu24
        have e26 : ∀ j : Int, X1 55 0 j = X 55 0 j := fun j => by rw [hX1, u3_k _ _ _ _ (by first | exact Nat.ne_of_beq_eq_false rfl | decide)]
        have e27 : ∀ j : Int, X1 46 0 j = X 46 0 j := fun j => by rw [hX1, u3_k _ _ _ _ (by first | exact Nat.ne_of_beq_eq_false rfl | decide)]
        simp only [e26, e27] at p25
        refine lv_aload_n hx hb dX9_share_42 rfl (lv_at hl 0 rfl) ?_
        refine lv_iload_n hx hb dX9_share_43 rfl (lv_at hl 3 rfl) ?_
        refine lv_iload hx hb dX9_share_44 (lv_at hl 4 rfl) ?_
        refine gos_i (run_V (As := [.int (jI y), .int (jI j)]) (rest := [.int (jI z23)]) hx hb hml hown hts (c_X9_lane l D tc base ad cnt X1 Y ln hRX1 hFx y j (by omega) (by omega)) (cwV 2 hts gX9_share_X9_lane rfl rfl rfl (by first | exact hd_X9_lane | decide +kernel) ⟨Nat.le_of_ble_eq_true rfl, Nat.le_of_ble_eq_true rfl⟩) hK hw (by first | exact Int.le_refl 0 | omega) (by first | exact zlt hc40 | omega) sl_40_0 rfl rfl hl.1 rfl (Nat.le_of_ble_eq_true rfl) dX9_share_46 ⟨Nat.le_of_ble_eq_true rfl, Nat.le_of_ble_eq_true rfl⟩) hS (fun z28 u29 H locs p30 hw hS => ?_)
        obtain ⟨eu29, p30⟩ := p30
        subst eu29
        have e31 : ∀ j : Int, X1 55 0 j = X 55 0 j := fun j => by rw [hX1, u3_k _ _ _ _ (by first | exact Nat.ne_of_beq_eq_false rfl | decide)]
        have e32 : ∀ j : Int, X1 46 0 j = X 46 0 j := fun j => by rw [hX1, u3_k _ _ _ _ (by first | exact Nat.ne_of_beq_eq_false rfl | decide)]
        simp only [e31, e32] at p30
        refine x_icmp_eq (tgt := 55) hx hb (by omega) (by omega) dX9_share_49 (by decide) (fun c33 => ?_) (fun c33 => ?_)
        · refine lv_aload_n hx hb dX9_share_55 rfl (lv_at hl 0 rfl) ?_
          refine gos_i (run_V (As := []) (rest := []) hx hb hml hown hts (c_X9_isFull l D tc base ad cnt X1 Y ln hRX1 hFx) (cwV 0 hts gX9_share_X9_isFull rfl rfl rfl (by first | exact hd_X9_isFull | decide +kernel) ⟨Nat.le_of_ble_eq_true rfl, Nat.le_of_ble_eq_true rfl⟩) hK hw (by first | exact Int.le_refl 0 | omega) (by first | exact zlt hc40 | omega) sl_40_0 rfl rfl hl.1 rfl (Nat.le_of_ble_eq_true rfl) dX9_share_56 ⟨Nat.le_of_ble_eq_true rfl, Nat.le_of_ble_eq_true rfl⟩) hS (fun z34 u35 H locs p36 hw hS => ?_)
          obtain ⟨eu35, p36⟩ := p36
          subst eu35
          have e37 : X1 40 0 20 = X 40 0 20 := by rw [hX1, u3_j _ _ _ _ (by decide)]
          have e38 : X1 40 0 22 = X 40 0 22 := by rw [hX1, u3_j _ _ _ _ (by decide)]
          simp only [e37, e38] at p36
          rcases p36 with ⟨ez34, p36⟩ | ⟨ez34, p36⟩
          · subst ez34
            refine x_if_eqF (tgt := 65) hx hb (by omega) (by decide) dX9_share_59 (by decide) ?_
            refine lv_bipush (v := jI (-4)) hx hb dX9_share_62 (by decide) ?_
            rw [hQ9]
            refine ret_i (mc := 0) (ms := 0) hx hb hr hlocks hw hS (by first | exact Nat.le_of_ble_eq_true rfl | omega) (by first | exact Nat.le_of_ble_eq_true rfl | omega) dX9_share_64 ?_
            have hMq39 : MInv X1 := minv_frm hMI q900043 (by decide)
            exact ⟨X1, rfl, hRX1, hFX1, hMq39, by omega, (by (try delta Hid at *); exact Or.inr (Or.inr (Or.inl ⟨(by omega), by omega, by omega, (by omega), by omega⟩))), fun _ => q900043, fun q => (by exfalso; omega)⟩
          · subst ez34
            refine x_if_eqT (tgt := 65) hx hb (by omega) (by decide) dX9_share_59 (by decide) ?_
            refine lv_aload_n hx hb dX9_share_65 rfl (lv_at hl 0 rfl) ?_
            refine lv_iload_n hx hb dX9_share_66 rfl (lv_at hl 1 rfl) ?_
            refine lv_iload_n hx hb dX9_share_67 rfl (lv_at hl 2 rfl) ?_
            refine lv_aload_n hx hb dX9_share_68 rfl (lv_at hl 0 rfl) ?_
            refine x_geto hx hb hf9 hw (by first | exact Int.le_refl 0 | omega) (by first | exact zlt hc40 | omega) sl_40_15 lk48 dX9_share_69 ?_
            refine lv_iconst (v := jI 5) hx hb dX9_share_72 rfl ?_
            refine lv_iload_n hx hb dX9_share_73 rfl (lv_at hl 3 rfl) ?_
            refine x_imul hx hb dX9_share_74 ?_
            refine lv_iload hx hb dX9_share_75 (lv_at hl 4 rfl) ?_
            refine x_iadd hx hb dX9_share_77 ?_
            obtain ⟨hy1, hy2, hy3⟩ := hMI.1 y j (by omega) (by omega) (by omega) (by omega)
            refine x_lald hx hb hK.1 hw (by first | exact Int.le_refl 0 | omega) (by first | exact zlt hc56 | omega) ar_56 (len_E ar_56 (by first | exact Nat.ne_of_beq_eq_false rfl | decide)) (by omega) (by omega) (by omega) dX9_share_78 ?_
            have e42 : ∀ p9 q9 : Int, X1 56 p9 q9 = X 56 p9 q9 := fun p9 q9 => by rw [hX1, u3_k _ _ _ _ (by first | exact Nat.ne_of_beq_eq_false rfl | decide)]
            rw [e42 0 ((5 * y) + j)]
            have f43 : (-9223372036854775808) ≤ X 56 0 ((5 * y) + j) ∧ X 56 0 ((5 * y) + j) ≤ 9223372036854775807 := hR 56 0 ((5 * y) + j)
            have hMq44 : MInv X1 := minv_frm hMI q900043 (by decide)
            have e46 : ∀ j : Int, X1 55 0 j = X 55 0 j := fun j => by rw [hX1, u3_k _ _ _ _ (by first | exact Nat.ne_of_beq_eq_false rfl | decide)]
            have e47 : ∀ j : Int, X1 44 0 j = X 44 0 j := fun j => by rw [hX1, u3_k _ _ _ _ (by first | exact Nat.ne_of_beq_eq_false rfl | decide)]
            have e48 : ∀ j : Int, X1 46 0 j = X 46 0 j := fun j => by rw [hX1, u3_k _ _ _ _ (by first | exact Nat.ne_of_beq_eq_false rfl | decide)]
            have e49 : X1 40 0 13 = X 40 0 13 := by rw [hX1, u3_j _ _ _ _ (by decide)]
            refine gos_v (run_V (As := [.int (jI x), .int (jI k), .long (jL (X 56 0 ((5 * y) + j)))]) (rest := []) hx hb hml hown hts (c_X9_becomes l D tc base ad cnt X1 Y ln hRX1 hFx hMq44 x k (X 56 0 ((5 * y) + j)) (by omega) (by omega) (by omega) (by simp only [e46, e47, e48, e49, e37, e38]; omega) (by simp only [e46, e47, e48, e49, e37, e38]; omega) (by unfold tyv; simp only [e46, e47, e48, e49, e37, e38]; exact ⟨fun _ => by omega, fun _ => by omega, fun _ => by omega⟩) (by simp only [e46, e47, e48, e49, e37, e38]; (try simp only [Hid] at *); omega)) (cwV 3 hts gX9_share_X9_becomes rfl rfl rfl (by first | exact hd_X9_becomes | decide +kernel) ⟨Nat.le_of_ble_eq_true rfl, Nat.le_of_ble_eq_true rfl⟩) hK hw (by first | exact Int.le_refl 0 | omega) (by first | exact zlt hc40 | omega) sl_40_0 rfl rfl hl.1 rfl (Nat.le_of_ble_eq_true rfl) dX9_share_79 ⟨Nat.le_of_ble_eq_true rfl, Nat.le_of_ble_eq_true rfl⟩) hS (fun u53 H locs p54 hw hS => ?_)
            obtain ⟨X55, eu53, hRX55, hG56, hMIX55, p54, hbnX55, hbvX55, hboX55⟩ := p54
            subst eu53
            have hFX55 : Frm [4001, 6400, 6500, 6700, 6800, 6600, 4023, 5600] X X55 := Frm.tr hFX1 (Frm.mono hG56 (by first | exact nls_of rfl | decide))
            refine lv_iconst (v := jI 1) hx hb dX9_share_82 rfl ?_
            rw [hQ9]
            refine ret_i (mc := 0) (ms := 0) hx hb hr hlocks hw hS (by first | exact Nat.le_of_ble_eq_true rfl | omega) (by first | exact Nat.le_of_ble_eq_true rfl | omega) dX9_share_83 ?_
            have e58 : ∀ j : Int, X1 46 0 j = X 46 0 j := fun j => by rw [hX1, u3_k _ _ _ _ (by first | exact Nat.ne_of_beq_eq_false rfl | decide)]
            have e59 : ∀ j : Int, X1 55 0 j = X 55 0 j := fun j => by rw [hX1, u3_k _ _ _ _ (by first | exact Nat.ne_of_beq_eq_false rfl | decide)]
            have e60 : ∀ j : Int, X1 56 0 j = X 56 0 j := fun j => by rw [hX1, u3_k _ _ _ _ (by first | exact Nat.ne_of_beq_eq_false rfl | decide)]
            exact ⟨X55, rfl, hRX55, hFX55, hMIX55, by omega, (by (try delta Hid at *); exact Or.inr (Or.inr (Or.inr (⟨(by omega), by omega, by omega, (by omega), by omega⟩)))), fun q => (by exfalso; omega), fun _ => (by simp only [e58, e59, e60] at hbnX55 hboX55; exact ⟨eNoteM.from (M := [4001]) hbnX55 q900043 (by decide), hbvX55, hboX55⟩)⟩
        · refine lv_bipush (v := jI (-14)) hx hb dX9_share_52 (by decide) ?_
          rw [hQ9]
          refine ret_i (mc := 0) (ms := 0) hx hb hr hlocks hw hS (by first | exact Nat.le_of_ble_eq_true rfl | omega) (by first | exact Nat.le_of_ble_eq_true rfl | omega) dX9_share_54 ?_
          have hMq61 : MInv X1 := minv_frm hMI q900043 (by decide)
          exact ⟨X1, rfl, hRX1, hFX1, hMq61, by omega, (by (try delta Hid at *); exact Or.inr (Or.inl ⟨(by omega), (by omega), by omega⟩)), fun _ => q900043, fun q => (by exfalso; omega)⟩
    · subst ez8
      refine x_if_neF (tgt := 26) hx hb (by omega) (by decide) dX9_share_21 (by decide) ?_
      refine lv_iconst (v := jI (-1)) hx hb dX9_share_24 rfl ?_
      rw [hQ9]
      refine ret_i (mc := 0) (ms := 0) hx hb hr hlocks hw hS (by first | exact Nat.le_of_ble_eq_true rfl | omega) (by first | exact Nat.le_of_ble_eq_true rfl | omega) dX9_share_25 ?_
      have hMq64 : MInv X1 := minv_frm hMI q900043 (by decide)
      exact ⟨X1, rfl, hRX1, hFX1, hMq64, by omega, (by (try delta Hid at *); exact Or.inl ⟨(fun q => by omega), by omega⟩), fun _ => q900043, fun q => (by exfalso; omega)⟩
  · subst ez2
    refine x_if_eqT (tgt := 24) hx hb (by omega) (by decide) dX9_share_11 (by decide) ?_
    refine lv_iconst (v := jI (-1)) hx hb dX9_share_24 rfl ?_
    rw [hQ9]
    refine ret_i (mc := 0) (ms := 0) hx hb hr hlocks hw hS (by first | exact Nat.le_of_ble_eq_true rfl | omega) (by first | exact Nat.le_of_ble_eq_true rfl | omega) dX9_share_25 ?_
    have hMq67 : MInv X1 := minv_frm hMI q900043 (by decide)
    exact ⟨X1, rfl, hRX1, hFX1, hMq67, by omega, (by (try delta Hid at *); exact Or.inl ⟨(fun q => by omega), by omega⟩), fun _ => q900043, fun q => (by exfalso; omega)⟩

set_option maxHeartbeats 4000000 in
set_option maxRecDepth 100000 in
theorem c_X9_thing (l : Launch) (D : va_G) (tc : Nat → ClassId) (base : Nat) (ad : Nat → Int → Nat) (cnt : Nat → Int) (X : Nat → Int → Int → Int) (Y : Nat → Int → Int → Option Int) (ln : Int → Int) (hR : Rng X) (hFx : Fx cnt) (hMI : MInv X) (t : Int) (ht : -2147483648 ≤ t ∧ t ≤ 2147483647) : KI l D tc base yX9_thing wsX9_thing ({ frames := 1, cells := 0, slots := 0, locals := 21 } : Room) [.ref (ad 40 0), .int (jI t)] (ad, cnt, X, Y, ln) 0 0 (fun z u => ∃ X1 : Nat → Int → Int → Int, u = (ad, cnt, X1, Y, ln) ∧ Rng X1 ∧ Frm [4001, 5500, 5600, 4014] X X1 ∧ MInv X1 ∧ (-2147483648 ≤ z ∧ z ≤ 2147483647) ∧ ((¬ (0 ≤ t ∧ t < X 40 0 2) ∧ z = -1) ∨ ((0 ≤ t ∧ t < X 40 0 2) ∧ X 40 0 13 = 30 ∧ z = -4) ∨ ((0 ≤ t ∧ t < X 40 0 2) ∧ X 40 0 13 < 30 ∧ z = X 40 0 13)) ∧ (z < 0 → Frm [4001] X X1) ∧ (0 ≤ z → X1 40 0 13 = X 40 0 13 + 1 ∧ X1 55 0 z = t ∧ (∀ y, y ≠ z → X1 55 0 y = X 55 0 y) ∧ (∀ q, 0 ≤ q → q < X 44 0 t → X1 56 0 (5 * z + q) = X 47 0 (5 * t + q)) ∧ ∀ j, j < 5 * z → X1 56 0 j = X 56 0 j)) := by
  refine K_of (cc := cX9_thing) (maxL := 3) (ret := (some .int)) (by decide) rfl (Nat.le_of_ble_eq_true rfl) ?_
  intro p e s m below meth c ls hx hb hr hml hown hts hlocks hl hK hw hS
  have hown : s.vm.findClass RX9 = some m.cls := hown
  obtain ⟨av9, hav9⟩ : ∃ a9 : Array Value, a9 = ([.ref (ad 40 0), .int (jI t)] : List Value).toArray := ⟨_, rfl⟩
  rw [← hav9] at hts ⊢
  obtain ⟨Q9, hQ9⟩ : ∃ q9Q : State → Prop, q9Q = MQ below (QI D tc base (fun z u => ∃ X1 : Nat → Int → Int → Int, u = (ad, cnt, X1, Y, ln) ∧ Rng X1 ∧ Frm [4001, 5500, 5600, 4014] X X1 ∧ MInv X1 ∧ (-2147483648 ≤ z ∧ z ≤ 2147483647) ∧ ((¬ (0 ≤ t ∧ t < X 40 0 2) ∧ z = -1) ∨ ((0 ≤ t ∧ t < X 40 0 2) ∧ X 40 0 13 = 30 ∧ z = -4) ∨ ((0 ≤ t ∧ t < X 40 0 2) ∧ X 40 0 13 < 30 ∧ z = X 40 0 13)) ∧ (z < 0 → Frm [4001] X X1) ∧ (0 ≤ z → X1 40 0 13 = X 40 0 13 + 1 ∧ X1 55 0 z = t ∧ (∀ y, y ≠ z → X1 55 0 y = X 55 0 y) ∧ (∀ q, 0 ≤ q → q < X 44 0 t → X1 56 0 (5 * z + q) = X 47 0 (5 * t + q)) ∧ ∀ j, j < 5 * z → X1 56 0 j = X 56 0 j))) av9 s 0 0 (frA base) := ⟨_, rfl⟩
  rw [← hQ9]
  have hi9 : ∀ w ∈ wsX90, w ∈ wsX9_thing := fun w h => List.mem_cons_of_mem _ (List.mem_append_right _ h)
  have hf9 : fctx s m _ RX9 wsX9_thing D tc RX9 TX9 51 9 := ⟨hts, hi9, hown, hK.1, rfl⟩
  have lk13 := hts (.fieldLink RX9 13 (TX9 3).1 (TX9 3).2.1 (TX9 3).2.2.1) (gj_X9_thing_0 _ (gp_1 (gp_1 (gp_1 gp_h))))
  have lk23 := hts (.fieldLink RX9 23 (TX9 6).1 (TX9 6).2.1 (TX9 6).2.2.1) (gj_X9_thing_0 _ (gp_4 (gp_1 gp_h)))
  have lk45 := hts (.fieldLink RX9 45 (TX9 14).1 (TX9 14).2.1 (TX9 14).2.2.1) (gj_X9_thing_0 _ (gp_1 (gp_1 gp_h)))
  have lk48 := hts (.fieldLink RX9 48 (TX9 15).1 (TX9 15).2.1 (TX9 15).2.2.1) (gj_X9_thing_0 _ (gp_4 gp_h))
  have lk145 := hts (.fieldLink RX9 145 (TX9 0).1 (TX9 0).2.1 (TX9 0).2.2.1) (gj_X9_thing_0 _ (gp_h))
  have lk151 := hts (.fieldLink RX9 151 (TX9 13).1 (TX9 13).2.1 (TX9 13).2.2.1) (gj_X9_thing_0 _ (gp_1 gp_h))
  have hc40 : cnt 40 = 1 := hFx.at 40 1 (by decide)
  have hc44 : cnt 44 = 1 := hFx.at 44 1 (by decide)
  have hc47 : cnt 47 = 1 := hFx.at 47 1 (by decide)
  have hc55 : cnt 55 = 1 := hFx.at 55 1 (by decide)
  have hc56 : cnt 56 = 1 := hFx.at 56 1 (by decide)
  have hl : lv_has ls 3 [(0, .ref (ad 40 0)), (1, .int (jI t))] := hl
  have fstypes : 0 ≤ X 40 0 2 ∧ X 40 0 2 ≤ 8 := hR 40 0 2
  have fsthings : 0 ≤ X 40 0 13 ∧ X 40 0 13 ≤ 30 := hR 40 0 13
  have fsmarks : 0 ≤ X 40 0 20 ∧ X 40 0 20 ≤ 4 := hR 40 0 20
  have fsnotes : 0 ≤ X 40 0 22 ∧ X 40 0 22 ≤ 80 := hR 40 0 22
  refine lv_aload_n hx hb dX9_thing_0 rfl (lv_at hl 0 rfl) ?_
  refine lv_iconst (v := jI 0) hx hb dX9_thing_1 rfl ?_
  refine x_puti (jz := 0) hx hb hf9 ⟨tyX9_ok, nmX9⟩ hw hS (by first | exact Int.le_refl 0 | omega) (by first | exact zlt hc40 | omega) sl_40_0 rfl lk145 rfl (tyX9_ok 0 (by decide)) rfl rfl dX9_thing_2 (fun H locs hw hS => ?_)
  obtain ⟨X1, hX1⟩ : ∃ Xq, Xq = u3 X 40 0 0 0 := ⟨_, rfl⟩
  rw [← hX1] at hw
  have hRX1 : Rng X1 := by rw [hX1]; exact rng_set hR (show (-2147483648) ≤ 0 ∧ 0 ≤ 2147483647 by omega)
  have hVX1 : X1 40 0 0 = 0 := by rw [hX1]; exact u3_s _ _ _ _ _
  have hFX1 : Frm [4001, 5500, 5600, 4014] X X1 := by rw [hX1]; exact Frm.set Frm.rf (show 4001 ∈ [4001, 5500, 5600, 4014] by first | exact nlm_in rfl | decide)
  refine lv_aload_n hx hb dX9_thing_5 rfl (lv_at hl 0 rfl) ?_
  refine lv_iload_n hx hb dX9_thing_6 rfl (lv_at hl 1 rfl) ?_
  refine gos_i (run_V (As := [.int (jI t)]) (rest := []) hx hb hml hown hts (c_X9_isType l D tc base ad cnt X1 Y ln hRX1 hFx t (by omega)) (cwV 1 hts gX9_thing_X9_isType rfl rfl rfl (by first | exact hd_X9_isType | decide +kernel) ⟨Nat.le_of_ble_eq_true rfl, Nat.le_of_ble_eq_true rfl⟩) hK hw (by first | exact Int.le_refl 0 | omega) (by first | exact zlt hc40 | omega) sl_40_0 rfl rfl hl.1 rfl (Nat.le_of_ble_eq_true rfl) dX9_thing_7 ⟨Nat.le_of_ble_eq_true rfl, Nat.le_of_ble_eq_true rfl⟩) hS (fun z2 u3 H locs p4 hw hS => ?_)
  obtain ⟨eu3, p4⟩ := p4
  subst eu3
  have e5 : X1 40 0 2 = X 40 0 2 := by rw [hX1, u3_j _ _ _ _ (by decide)]
  simp only [e5] at p4
  have q900045 : Frm [4001] X X1 := by rw [hX1]; exact Frm.set Frm.rf (show 4001 ∈ [4001] by first | exact nlm_in rfl | decide)
  rcases p4 with ⟨ez2, p4⟩ | ⟨ez2, p4⟩
  · subst ez2
    refine x_if_neT (tgt := 15) hx hb (by omega) (by decide) dX9_thing_10 (by decide) ?_
    refine lv_aload_n hx hb dX9_thing_15 rfl (lv_at hl 0 rfl) ?_
    refine x_geti (jz := 13) hx hb hf9 hw (by first | exact Int.le_refl 0 | omega) (by first | exact zlt hc40 | omega) sl_40_13 rfl lk151 dX9_thing_16 ?_
    have e6 : X1 40 0 13 = X 40 0 13 := by rw [hX1, u3_j _ _ _ _ (by decide)]
    rw [e6]
    have f7 : 0 ≤ X 40 0 13 ∧ X 40 0 13 ≤ 30 := hR 40 0 13
    refine lv_bipush (v := jI 30) hx hb dX9_thing_19 (by decide) ?_
    refine x_icmp_ne (tgt := 27) hx hb (by omega) (by omega) dX9_thing_21 (by decide) (fun c8 => ?_) (fun c8 => ?_)
    · refine lv_aload_n hx hb dX9_thing_27 rfl (lv_at hl 0 rfl) ?_
      refine x_geto hx hb hf9 hw (by first | exact Int.le_refl 0 | omega) (by first | exact zlt hc40 | omega) sl_40_14 lk45 dX9_thing_28 ?_
      refine lv_aload_n hx hb dX9_thing_31 rfl (lv_at hl 0 rfl) ?_
      refine x_geti (jz := 13) hx hb hf9 hw (by first | exact Int.le_refl 0 | omega) (by first | exact zlt hc40 | omega) sl_40_13 rfl lk151 dX9_thing_32 ?_
      have e9 : X1 40 0 13 = X 40 0 13 := by rw [hX1, u3_j _ _ _ _ (by decide)]
      rw [e9]
      have f10 : 0 ≤ X 40 0 13 ∧ X 40 0 13 ≤ 30 := hR 40 0 13
      refine lv_iload_n hx hb dX9_thing_35 rfl (lv_at hl 1 rfl) ?_
      refine x_iast hx hb hK.1 hw hS (by first | exact Int.le_refl 0 | omega) (by first | exact zlt hc55 | omega) ar_55 (len_E ar_55 (by first | exact Nat.ne_of_beq_eq_false rfl | decide)) (by omega) (by omega) (by omega) dX9_thing_36 (fun H locs hw hS => ?_)
      obtain ⟨X11, hX11⟩ : ∃ Xq, Xq = u3 X1 55 0 (X 40 0 13) t := ⟨_, rfl⟩
      rw [← hX11] at hw
      have hRX11 : Rng X11 := by rw [hX11]; exact rng_set hRX1 (show 0 ≤ t ∧ t ≤ 7 by omega)
      have hVX11 : X11 55 0 (X 40 0 13) = t := by rw [hX11]; exact u3_s _ _ _ _ _
      have hFX11 : Frm [4001, 5500, 5600, 4014] X X11 := by rw [hX11]; exact Frm.set hFX1 (show 5500 ∈ [4001, 5500, 5600, 4014] by first | exact nlm_in rfl | decide)
      refine lv_iconst (v := jI 0) hx hb dX9_thing_37 rfl ?_
      refine lv_istore_n (lv' := [(2, .int (jI 0)), (0, .ref (ad 40 0)), (1, .int (jI t))]) hx hb dX9_thing_38 rfl hl (by decide) rfl (fun ls hl => ?_)
      have lp39 : ∀ (nn : Nat) (k : Int) (Xa : Nat → Int → Int → Int) (H : Heap) (locs : List Loc) (ls : Array Slot), (5 - k) < (nn : Int) → (Rng Xa) → (Frm [5600] X11 Xa) → (0 ≤ k ∧ k ≤ 5) → (∀ q, 0 ≤ q → q < k → Xa 56 0 (5 * X 40 0 13 + q) = X 47 0 (5 * t + q)) → (∀ j, j < 5 * X 40 0 13 → Xa 56 0 j = X 56 0 j) → wd D tc base (ad, cnt, Xa, Y, ln) H → va_S (frA base) s.heap H locs → lv_has ls 3 [(0, .ref (ad 40 0)), (1, .int (jI t)), (2, .int (jI k))] → W p l e ({ frames := 1, cells := 0, slots := 0, locals := 21 } : Room) s m av9 below meth c H locs 0 0 Q9 (F0 m 39 ls []) := by
        intro nn
        induction nn with
        | zero => intro k Xa H locs ls hm hRXa hGXa hk hvq hlo hw hS hl; exfalso; omega
        | succ nn ih39 =>
          intro k Xa H locs ls hm hRXa hGXa hk hvq hlo hw hS hl
          have hFXa : Frm [4001, 5500, 5600, 4014] X Xa := Frm.tr hFX11 (Frm.mono hGXa (by first | exact nls_of rfl | decide))
          refine lv_iload_n hx hb dX9_thing_39 rfl (lv_at hl 2 rfl) ?_
          refine lv_aload_n hx hb dX9_thing_40 rfl (lv_at hl 0 rfl) ?_
          refine x_geto hx hb hf9 hw (by first | exact Int.le_refl 0 | omega) (by first | exact zlt hc40 | omega) sl_40_3 lk13 dX9_thing_41 ?_
          refine lv_iload_n hx hb dX9_thing_44 rfl (lv_at hl 1 rfl) ?_
          refine x_iald hx hb hK.1 hw (by first | exact Int.le_refl 0 | omega) (by first | exact zlt hc44 | omega) ar_44 (len_E ar_44 (by first | exact Nat.ne_of_beq_eq_false rfl | decide)) (by omega) (by omega) (by omega) dX9_thing_45 ?_
          have e12 : ∀ p9 q9 : Int, Xa 44 p9 q9 = X 44 p9 q9 := fun p9 q9 => by rw [hGXa 44 p9 q9 (show 4400 ∉ [5600] by first | exact nlm_ni rfl | decide), hX11, u3_k _ _ _ _ (by first | exact Nat.ne_of_beq_eq_false rfl | decide), hX1, u3_k _ _ _ _ (by first | exact Nat.ne_of_beq_eq_false rfl | decide)]
          rw [e12 0 t]
          have f13 : 0 ≤ X 44 0 t ∧ X 44 0 t ≤ 5 := hR 44 0 t
          have q900044 : Xa 40 0 13 = X 40 0 13 := by rw [hGXa 40 0 13 (show 4014 ∉ [5600] by first | exact nlm_ni rfl | decide), hX11, u3_k _ _ _ _ (by first | exact Nat.ne_of_beq_eq_false rfl | decide), hX1, u3_j _ _ _ _ (by decide)]
          refine x_icmp_ge (tgt := 78) hx hb (by omega) (by omega) dX9_thing_46 (by decide) (fun c14 => ?_) (fun c14 => ?_)
          · refine lv_aload_n hx hb dX9_thing_78 rfl (lv_at hl 0 rfl) ?_
            refine lv_dup hx hb dX9_thing_79 rfl ?_
            refine x_geti (jz := 13) hx hb hf9 hw (by first | exact Int.le_refl 0 | omega) (by first | exact zlt hc40 | omega) sl_40_13 rfl lk151 dX9_thing_80 ?_
            have e15 : Xa 40 0 13 = X 40 0 13 := by rw [hGXa 40 0 13 (show 4014 ∉ [5600] by first | exact nlm_ni rfl | decide), hX11, u3_k _ _ _ _ (by first | exact Nat.ne_of_beq_eq_false rfl | decide), hX1, u3_j _ _ _ _ (by decide)]
            rw [e15]
            have f16 : 0 ≤ X 40 0 13 ∧ X 40 0 13 ≤ 30 := hR 40 0 13
            refine lv_iconst (v := jI 1) hx hb dX9_thing_83 rfl ?_
            refine x_iadd hx hb dX9_thing_84 ?_
            refine x_puti (jz := 13) hx hb hf9 ⟨tyX9_ok, nmX9⟩ hw hS (by first | exact Int.le_refl 0 | omega) (by first | exact zlt hc40 | omega) sl_40_13 rfl lk151 rfl (tyX9_ok 13 (by decide)) rfl rfl dX9_thing_85 (fun H locs hw hS => ?_)
            obtain ⟨X17, hX17⟩ : ∃ Xq, Xq = u3 Xa 40 0 13 ((X 40 0 13) + 1) := ⟨_, rfl⟩
            rw [← hX17] at hw
            have hRX17 : Rng X17 := by rw [hX17]; exact rng_set hRXa (show 0 ≤ ((X 40 0 13) + 1) ∧ ((X 40 0 13) + 1) ≤ 30 by omega)
            have hVX17 : X17 40 0 13 = ((X 40 0 13) + 1) := by rw [hX17]; exact u3_s _ _ _ _ _
            have hFX17 : Frm [4001, 5500, 5600, 4014] X X17 := by rw [hX17]; exact Frm.set hFXa (show 4014 ∈ [4001, 5500, 5600, 4014] by first | exact nlm_in rfl | decide)
            refine lv_aload_n hx hb dX9_thing_88 rfl (lv_at hl 0 rfl) ?_
            refine x_geti (jz := 13) hx hb hf9 hw (by first | exact Int.le_refl 0 | omega) (by first | exact zlt hc40 | omega) sl_40_13 rfl lk151 dX9_thing_89 ?_
            rw [hVX17]
            refine lv_iconst (v := jI 1) hx hb dX9_thing_92 rfl ?_
            refine x_isub hx hb dX9_thing_93 ?_
            rw [hQ9]
            refine ret_i (mc := 0) (ms := 0) hx hb hr hlocks hw hS (by first | exact Nat.le_of_ble_eq_true rfl | omega) (by first | exact Nat.le_of_ble_eq_true rfl | omega) dX9_thing_94 ?_
            exact ⟨X17, rfl, hRX17, hFX17, minv_thing (t := t) hMI hR (by omega) hFX17 (fun j hj => (by rw [hX17, u3_k _ _ _ _ (by first | exact Nat.ne_of_beq_eq_false rfl | decide), hGXa 55 0 j (show 5500 ∉ [5600] by first | exact nlm_ni rfl | decide), hX11, u3_j _ _ _ _ (by omega), hX1, u3_k _ _ _ _ (by first | exact Nat.ne_of_beq_eq_false rfl | decide)])) (by rw [hX17, u3_k _ _ _ _ (by first | exact Nat.ne_of_beq_eq_false rfl | decide), hGXa 55 0 (X 40 0 13) (show 5500 ∉ [5600] by first | exact nlm_ni rfl | decide)]; exact hVX11) (fun j hj => (by rw [hX17, u3_k _ _ _ _ (by first | exact Nat.ne_of_beq_eq_false rfl | decide)]; exact hlo j hj)) (fun q a b => (by rw [hX17, u3_k _ _ _ _ (by first | exact Nat.ne_of_beq_eq_false rfl | decide)]; exact hvq q a (by omega))) hVX17, by omega, (by (try delta Hid at *); first | exact Or.inr (Or.inr (⟨(by omega), by omega, by omega⟩)) | exact Or.inl ⟨(fun q => by omega), by omega⟩ | exact Or.inr (Or.inl ⟨(by omega), by omega, by omega⟩)), fun q => (by exfalso; omega), fun _ => ⟨hVX17, (by rw [show (((X 40 0 13) + 1) - 1) = X 40 0 13 by omega]; exact (by rw [hX17, u3_k _ _ _ _ (by first | exact Nat.ne_of_beq_eq_false rfl | decide), hGXa 55 0 (X 40 0 13) (show 5500 ∉ [5600] by first | exact nlm_ni rfl | decide)]; exact hVX11)), fun y hy => (by rw [hX17, u3_k _ _ _ _ (by first | exact Nat.ne_of_beq_eq_false rfl | decide), hGXa 55 0 y (show 5500 ∉ [5600] by first | exact nlm_ni rfl | decide), hX11, u3_j _ _ _ _ (by omega), hX1, u3_k _ _ _ _ (by first | exact Nat.ne_of_beq_eq_false rfl | decide)]), fun q a b => (by rw [show (((X 40 0 13) + 1) - 1) = X 40 0 13 by omega]; exact (by rw [hX17, u3_k _ _ _ _ (by first | exact Nat.ne_of_beq_eq_false rfl | decide)]; exact hvq q a (by omega))), fun j hj => (by rw [hX17, u3_k _ _ _ _ (by first | exact Nat.ne_of_beq_eq_false rfl | decide)]; exact hlo j (by omega))⟩⟩
          · refine lv_aload_n hx hb dX9_thing_49 rfl (lv_at hl 0 rfl) ?_
            refine x_geto hx hb hf9 hw (by first | exact Int.le_refl 0 | omega) (by first | exact zlt hc40 | omega) sl_40_15 lk48 dX9_thing_50 ?_
            refine lv_iconst (v := jI 5) hx hb dX9_thing_53 rfl ?_
            refine lv_aload_n hx hb dX9_thing_54 rfl (lv_at hl 0 rfl) ?_
            refine x_geti (jz := 13) hx hb hf9 hw (by first | exact Int.le_refl 0 | omega) (by first | exact zlt hc40 | omega) sl_40_13 rfl lk151 dX9_thing_55 ?_
            have e18 : Xa 40 0 13 = X 40 0 13 := by rw [hGXa 40 0 13 (show 4014 ∉ [5600] by first | exact nlm_ni rfl | decide), hX11, u3_k _ _ _ _ (by first | exact Nat.ne_of_beq_eq_false rfl | decide), hX1, u3_j _ _ _ _ (by decide)]
            rw [e18]
            have f19 : 0 ≤ X 40 0 13 ∧ X 40 0 13 ≤ 30 := hR 40 0 13
            refine x_imul hx hb dX9_thing_58 ?_
            refine lv_iload_n hx hb dX9_thing_59 rfl (lv_at hl 2 rfl) ?_
            refine x_iadd hx hb dX9_thing_60 ?_
            refine lv_aload_n hx hb dX9_thing_61 rfl (lv_at hl 0 rfl) ?_
            refine x_geto hx hb hf9 hw (by first | exact Int.le_refl 0 | omega) (by first | exact zlt hc40 | omega) sl_40_6 lk23 dX9_thing_62 ?_
            refine lv_iconst (v := jI 5) hx hb dX9_thing_65 rfl ?_
            refine lv_iload_n hx hb dX9_thing_66 rfl (lv_at hl 1 rfl) ?_
            refine x_imul hx hb dX9_thing_67 ?_
            refine lv_iload_n hx hb dX9_thing_68 rfl (lv_at hl 2 rfl) ?_
            refine x_iadd hx hb dX9_thing_69 ?_
            refine x_lald hx hb hK.1 hw (by first | exact Int.le_refl 0 | omega) (by first | exact zlt hc47 | omega) ar_47 (len_E ar_47 (by first | exact Nat.ne_of_beq_eq_false rfl | decide)) (by omega) (by omega) (by omega) dX9_thing_70 ?_
            have e20 : ∀ p9 q9 : Int, Xa 47 p9 q9 = X 47 p9 q9 := fun p9 q9 => by rw [hGXa 47 p9 q9 (show 4700 ∉ [5600] by first | exact nlm_ni rfl | decide), hX11, u3_k _ _ _ _ (by first | exact Nat.ne_of_beq_eq_false rfl | decide), hX1, u3_k _ _ _ _ (by first | exact Nat.ne_of_beq_eq_false rfl | decide)]
            rw [e20 0 ((5 * t) + k)]
            have f21 : (-9223372036854775808) ≤ X 47 0 ((5 * t) + k) ∧ X 47 0 ((5 * t) + k) ≤ 9223372036854775807 := hR 47 0 ((5 * t) + k)
            refine x_last hx hb hK.1 hw hS (by first | exact Int.le_refl 0 | omega) (by first | exact zlt hc56 | omega) ar_56 (len_E ar_56 (by first | exact Nat.ne_of_beq_eq_false rfl | decide)) (by omega) (by omega) (by omega) dX9_thing_71 (fun H locs hw hS => ?_)
            obtain ⟨X22, hX22⟩ : ∃ Xq, Xq = u3 Xa 56 0 ((5 * (X 40 0 13)) + k) (X 47 0 ((5 * t) + k)) := ⟨_, rfl⟩
            rw [← hX22] at hw
            have hRX22 : Rng X22 := by rw [hX22]; exact rng_set hRXa (show (-9223372036854775808) ≤ (X 47 0 ((5 * t) + k)) ∧ (X 47 0 ((5 * t) + k)) ≤ 9223372036854775807 by omega)
            have hVX22 : X22 56 0 ((5 * (X 40 0 13)) + k) = (X 47 0 ((5 * t) + k)) := by rw [hX22]; exact u3_s _ _ _ _ _
            have hFX22 : Frm [4001, 5500, 5600, 4014] X X22 := by rw [hX22]; exact Frm.set hFXa (show 5600 ∈ [4001, 5500, 5600, 4014] by first | exact nlm_in rfl | decide)
            refine lv_iinc (v := jI (k + 1)) (lv' := [(2, .int (jI (k + 1))), (0, .ref (ad 40 0)), (1, .int (jI t))]) hx hb dX9_thing_72 hl (k := 2) rfl (jI_add _ _) (by decide) rfl (fun ls hl => ?_)
            refine lv_goto (tgt := 39) hx hb dX9_thing_75 (by decide) ?_
            have q23 : Frm [5600] X11 Xa := Frm.tr Frm.rf (Frm.mono hGXa (by first | exact nls_of rfl | decide))
            have q24 : Frm [5600] X11 X22 := by rw [hX22]; exact Frm.set q23 (show 5600 ∈ [5600] by first | exact nlm_in rfl | decide)
            exact ih39 (k + 1) X22 _ _ _ (by omega) hRX22 q24 (by omega) (fun q a b => if hq : q = k then (by rw [hq]; exact hVX22) else (by rw [hX22, u3_j _ _ _ _ (by omega)]; exact hvq q a (by omega))) (fun j hj => (by rw [hX22, u3_j _ _ _ _ (by omega)]; exact hlo j hj)) hw hS (lv_sub hl [1, 2, 0] rfl)
      exact lp39 (5 - 0 : Int).toNat.succ 0 X11 _ _ _ (by omega) hRX11 Frm.rf (by omega) (fun q a b => by omega) (fun j hj => (by rw [hX11, u3_k _ _ _ _ (by first | exact Nat.ne_of_beq_eq_false rfl | decide), hX1, u3_k _ _ _ _ (by first | exact Nat.ne_of_beq_eq_false rfl | decide)])) hw hS (lv_sub hl [1, 2, 0] rfl)
    · refine lv_bipush (v := jI (-4)) hx hb dX9_thing_24 (by decide) ?_
      rw [hQ9]
      refine ret_i (mc := 0) (ms := 0) hx hb hr hlocks hw hS (by first | exact Nat.le_of_ble_eq_true rfl | omega) (by first | exact Nat.le_of_ble_eq_true rfl | omega) dX9_thing_26 ?_
      have hMq25 : MInv X1 := minv_frm hMI q900045 (by decide)
      exact ⟨X1, rfl, hRX1, hFX1, hMq25, by omega, (by (try delta Hid at *); first | exact Or.inr (Or.inl ⟨(by omega), by omega, by omega⟩) | exact Or.inr (Or.inr (⟨(by omega), by omega, by omega⟩))), fun _ => q900045, fun q => (by exfalso; omega)⟩
  · subst ez2
    refine x_if_neF (tgt := 15) hx hb (by omega) (by decide) dX9_thing_10 (by decide) ?_
    refine lv_iconst (v := jI (-1)) hx hb dX9_thing_13 rfl ?_
    rw [hQ9]
    refine ret_i (mc := 0) (ms := 0) hx hb hr hlocks hw hS (by first | exact Nat.le_of_ble_eq_true rfl | omega) (by first | exact Nat.le_of_ble_eq_true rfl | omega) dX9_thing_14 ?_
    have hMq28 : MInv X1 := minv_frm hMI q900045 (by decide)
    exact ⟨X1, rfl, hRX1, hFX1, hMq28, by omega, (by (try delta Hid at *); first | exact Or.inl ⟨(fun q => by omega), by omega⟩ | exact Or.inr (Or.inr (⟨(by omega), by omega, by omega⟩))), fun _ => q900045, fun q => (by exfalso; omega)⟩

set_option maxHeartbeats 4000000 in
set_option maxRecDepth 100000 in
theorem c_X9_field (l : Launch) (D : va_G) (tc : Nat → ClassId) (base : Nat) (ad : Nat → Int → Nat) (cnt : Nat → Int) (X : Nat → Int → Int → Int) (Y : Nat → Int → Int → Option Int) (ln : Int → Int) (hR : Rng X) (hFx : Fx cnt) (hMI : MInv X) (t name lane v : Int) (ht : -2147483648 ≤ t ∧ t ≤ 2147483647) (hname : -2147483648 ≤ name ∧ name ≤ 2147483647) (hlane : -2147483648 ≤ lane ∧ lane ≤ 2147483647) (hv : -9223372036854775808 ≤ v ∧ v ≤ 9223372036854775807) : KI l D tc base yX9_field wsX9_field ({ frames := 1, cells := 0, slots := 0, locals := 23 } : Room) [.ref (ad 40 0), .int (jI t), .int (jI name), .int (jI lane), .long (jL v)] (ad, cnt, X, Y, ln) 0 0 (fun z u => ∃ X1 : Nat → Int → Int → Int, u = (ad, cnt, X1, Y, ln) ∧ Rng X1 ∧ Frm [4001, 4500, 4600, 4700, 4800, 4400, 5600] X X1 ∧ MInv X1 ∧ (-2147483648 ≤ z ∧ z ≤ 2147483647) ∧ ((¬ (0 ≤ t ∧ t < X 40 0 2) ∧ z = -1 ∧ X1 44 0 t = X 44 0 t) ∨ (0 ≤ t ∧ t < X 40 0 2 ∧ ¬ (0 ≤ name ∧ name < 20 ∧ nmAt (fun j => X 45 0 (5 * t + j)) name (X 44 0 t).toNat = -1 ∧ 0 ≤ lane ∧ lane < 6) ∧ z = -2 ∧ X1 44 0 t = X 44 0 t) ∨ (0 ≤ t ∧ t < X 40 0 2 ∧ (0 ≤ name ∧ name < 20 ∧ nmAt (fun j => X 45 0 (5 * t + j)) name (X 44 0 t).toNat = -1 ∧ 0 ≤ lane ∧ lane < 6) ∧ 0 < X 40 0 20 ∧ z = -3 ∧ X1 44 0 t = X 44 0 t) ∨ (0 ≤ t ∧ t < X 40 0 2 ∧ (0 ≤ name ∧ name < 20 ∧ nmAt (fun j => X 45 0 (5 * t + j)) name (X 44 0 t).toNat = -1 ∧ 0 ≤ lane ∧ lane < 6) ∧ X 40 0 20 = 0 ∧ 5 ≤ X 44 0 t ∧ z = -4 ∧ X1 44 0 t = X 44 0 t) ∨ (0 ≤ t ∧ t < X 40 0 2 ∧ (0 ≤ name ∧ name < 20 ∧ nmAt (fun j => X 45 0 (5 * t + j)) name (X 44 0 t).toNat = -1 ∧ 0 ≤ lane ∧ lane < 6) ∧ X 40 0 20 = 0 ∧ X 44 0 t ≤ 4 ∧ z = X 44 0 t ∧ X1 44 0 t = X 44 0 t + 1)) ∧ (0 ≤ z → X1 45 0 (5 * t + z) = name ∧ X1 46 0 (5 * t + z) = lane ∧ X1 47 0 (5 * t + z) = (if lane = 0 then v else -1) ∧ X1 48 0 (5 * t + z) = 0) ∧ (∀ y, ¬ (0 ≤ z ∧ y = 5 * t + z) → X1 45 0 y = X 45 0 y ∧ X1 46 0 y = X 46 0 y ∧ X1 47 0 y = X 47 0 y ∧ X1 48 0 y = X 48 0 y) ∧ (∀ y, y ≠ t → X1 44 0 y = X 44 0 y) ∧ (0 ≤ z → (∀ y, 0 ≤ y → y < X 40 0 13 → X 55 0 y = t → X1 56 0 (5 * y + z) = (if lane = 0 then v else -1)) ∧ ∀ y j, 0 ≤ y → y < X 40 0 13 → 0 ≤ j → j ≤ 4 → ¬ (X 55 0 y = t ∧ j = z) → X1 56 0 (5 * y + j) = X 56 0 (5 * y + j)) ∧ (z < 0 → Frm [4001] X X1)) := by
  refine K_of (cc := cX9_field) (maxL := 8) (ret := (some .int)) (by decide) rfl (Nat.le_of_ble_eq_true rfl) ?_
  intro p e s m below meth c ls hx hb hr hml hown hts hlocks hl hK hw hS
  have hown : s.vm.findClass RX9 = some m.cls := hown
  obtain ⟨av9, hav9⟩ : ∃ a9 : Array Value, a9 = ([.ref (ad 40 0), .int (jI t), .int (jI name), .int (jI lane), .long (jL v)] : List Value).toArray := ⟨_, rfl⟩
  rw [← hav9] at hts ⊢
  obtain ⟨Q9, hQ9⟩ : ∃ q9Q : State → Prop, q9Q = MQ below (QI D tc base (fun z u => ∃ X1 : Nat → Int → Int → Int, u = (ad, cnt, X1, Y, ln) ∧ Rng X1 ∧ Frm [4001, 4500, 4600, 4700, 4800, 4400, 5600] X X1 ∧ MInv X1 ∧ (-2147483648 ≤ z ∧ z ≤ 2147483647) ∧ ((¬ (0 ≤ t ∧ t < X 40 0 2) ∧ z = -1 ∧ X1 44 0 t = X 44 0 t) ∨ (0 ≤ t ∧ t < X 40 0 2 ∧ ¬ (0 ≤ name ∧ name < 20 ∧ nmAt (fun j => X 45 0 (5 * t + j)) name (X 44 0 t).toNat = -1 ∧ 0 ≤ lane ∧ lane < 6) ∧ z = -2 ∧ X1 44 0 t = X 44 0 t) ∨ (0 ≤ t ∧ t < X 40 0 2 ∧ (0 ≤ name ∧ name < 20 ∧ nmAt (fun j => X 45 0 (5 * t + j)) name (X 44 0 t).toNat = -1 ∧ 0 ≤ lane ∧ lane < 6) ∧ 0 < X 40 0 20 ∧ z = -3 ∧ X1 44 0 t = X 44 0 t) ∨ (0 ≤ t ∧ t < X 40 0 2 ∧ (0 ≤ name ∧ name < 20 ∧ nmAt (fun j => X 45 0 (5 * t + j)) name (X 44 0 t).toNat = -1 ∧ 0 ≤ lane ∧ lane < 6) ∧ X 40 0 20 = 0 ∧ 5 ≤ X 44 0 t ∧ z = -4 ∧ X1 44 0 t = X 44 0 t) ∨ (0 ≤ t ∧ t < X 40 0 2 ∧ (0 ≤ name ∧ name < 20 ∧ nmAt (fun j => X 45 0 (5 * t + j)) name (X 44 0 t).toNat = -1 ∧ 0 ≤ lane ∧ lane < 6) ∧ X 40 0 20 = 0 ∧ X 44 0 t ≤ 4 ∧ z = X 44 0 t ∧ X1 44 0 t = X 44 0 t + 1)) ∧ (0 ≤ z → X1 45 0 (5 * t + z) = name ∧ X1 46 0 (5 * t + z) = lane ∧ X1 47 0 (5 * t + z) = (if lane = 0 then v else -1) ∧ X1 48 0 (5 * t + z) = 0) ∧ (∀ y, ¬ (0 ≤ z ∧ y = 5 * t + z) → X1 45 0 y = X 45 0 y ∧ X1 46 0 y = X 46 0 y ∧ X1 47 0 y = X 47 0 y ∧ X1 48 0 y = X 48 0 y) ∧ (∀ y, y ≠ t → X1 44 0 y = X 44 0 y) ∧ (0 ≤ z → (∀ y, 0 ≤ y → y < X 40 0 13 → X 55 0 y = t → X1 56 0 (5 * y + z) = (if lane = 0 then v else -1)) ∧ ∀ y j, 0 ≤ y → y < X 40 0 13 → 0 ≤ j → j ≤ 4 → ¬ (X 55 0 y = t ∧ j = z) → X1 56 0 (5 * y + j) = X 56 0 (5 * y + j)) ∧ (z < 0 → Frm [4001] X X1))) av9 s 0 0 (frA base) := ⟨_, rfl⟩
  rw [← hQ9]
  have hi9 : ∀ w ∈ wsX90, w ∈ wsX9_field := fun w h => List.mem_cons_of_mem _ (List.mem_append_right _ h)
  have hf9 : fctx s m _ RX9 wsX9_field D tc RX9 TX9 51 9 := ⟨hts, hi9, hown, hK.1, rfl⟩
  have lk13 := hts (.fieldLink RX9 13 (TX9 3).1 (TX9 3).2.1 (TX9 3).2.2.1) (gj_X9_field_0 _ (gp_1 (gp_1 gp_h)))
  have lk17 := hts (.fieldLink RX9 17 (TX9 4).1 (TX9 4).2.1 (TX9 4).2.2.1) (gj_X9_field_0 _ (gp_1 (gp_1 (gp_1 gp_h))))
  have lk20 := hts (.fieldLink RX9 20 (TX9 5).1 (TX9 5).2.1 (TX9 5).2.2.1) (gj_X9_field_0 _ (gp_4 gp_h))
  have lk23 := hts (.fieldLink RX9 23 (TX9 6).1 (TX9 6).2.1 (TX9 6).2.2.1) (gj_X9_field_0 _ (gp_4 (gp_1 gp_h)))
  have lk27 := hts (.fieldLink RX9 27 (TX9 7).1 (TX9 7).2.1 (TX9 7).2.2.1) (gj_X9_field_0 _ (gp_4 (gp_1 (gp_1 (gp_1 gp_h)))))
  have lk45 := hts (.fieldLink RX9 45 (TX9 14).1 (TX9 14).2.1 (TX9 14).2.2.1) (gj_X9_field_0 _ (gp_4 (gp_4 (gp_1 gp_h))))
  have lk48 := hts (.fieldLink RX9 48 (TX9 15).1 (TX9 15).2.1 (TX9 15).2.2.1) (gj_X9_field_0 _ (gp_4 (gp_4 (gp_1 (gp_1 gp_h)))))
  have lk145 := hts (.fieldLink RX9 145 (TX9 0).1 (TX9 0).2.1 (TX9 0).2.2.1) (gj_X9_field_0 _ (gp_h))
  have lk151 := hts (.fieldLink RX9 151 (TX9 13).1 (TX9 13).2.1 (TX9 13).2.2.1) (gj_X9_field_0 _ (gp_4 (gp_4 gp_h)))
  have lk165 := hts (.fieldLink RX9 165 (TX9 20).1 (TX9 20).2.1 (TX9 20).2.2.1) (gj_X9_field_0 _ (gp_1 gp_h))
  have hc40 : cnt 40 = 1 := hFx.at 40 1 (by decide)
  have hc44 : cnt 44 = 1 := hFx.at 44 1 (by decide)
  have hc45 : cnt 45 = 1 := hFx.at 45 1 (by decide)
  have hc46 : cnt 46 = 1 := hFx.at 46 1 (by decide)
  have hc47 : cnt 47 = 1 := hFx.at 47 1 (by decide)
  have hc48 : cnt 48 = 1 := hFx.at 48 1 (by decide)
  have hc55 : cnt 55 = 1 := hFx.at 55 1 (by decide)
  have hc56 : cnt 56 = 1 := hFx.at 56 1 (by decide)
  have hl : lv_has ls 8 [(0, .ref (ad 40 0)), (1, .int (jI t)), (2, .int (jI name)), (3, .int (jI lane)), (4, .long (jL v))] := hl
  have fstypes : 0 ≤ X 40 0 2 ∧ X 40 0 2 ≤ 8 := hR 40 0 2
  have fsthings : 0 ≤ X 40 0 13 ∧ X 40 0 13 ≤ 30 := hR 40 0 13
  have fsmarks : 0 ≤ X 40 0 20 ∧ X 40 0 20 ≤ 4 := hR 40 0 20
  have fsnotes : 0 ≤ X 40 0 22 ∧ X 40 0 22 ≤ 80 := hR 40 0 22
  refine lv_aload_n hx hb dX9_field_0 rfl (lv_at hl 0 rfl) ?_
  refine lv_iconst (v := jI 0) hx hb dX9_field_1 rfl ?_
  refine x_puti (jz := 0) hx hb hf9 ⟨tyX9_ok, nmX9⟩ hw hS (by first | exact Int.le_refl 0 | omega) (by first | exact zlt hc40 | omega) sl_40_0 rfl lk145 rfl (tyX9_ok 0 (by decide)) rfl rfl dX9_field_2 (fun H locs hw hS => ?_)
  obtain ⟨X1, hX1⟩ : ∃ Xq, Xq = u3 X 40 0 0 0 := ⟨_, rfl⟩
  rw [← hX1] at hw
  have hRX1 : Rng X1 := by rw [hX1]; exact rng_set hR (show (-2147483648) ≤ 0 ∧ 0 ≤ 2147483647 by omega)
  have hVX1 : X1 40 0 0 = 0 := by rw [hX1]; exact u3_s _ _ _ _ _
  have hFX1 : Frm [4001, 4500, 4600, 4700, 4800, 4400, 5600] X X1 := by rw [hX1]; exact Frm.set Frm.rf (show 4001 ∈ [4001, 4500, 4600, 4700, 4800, 4400, 5600] by first | exact nlm_in rfl | decide)
  refine lv_aload_n hx hb dX9_field_5 rfl (lv_at hl 0 rfl) ?_
  refine lv_iload_n hx hb dX9_field_6 rfl (lv_at hl 1 rfl) ?_
  refine gos_i (run_V (As := [.int (jI t)]) (rest := []) hx hb hml hown hts (c_X9_isType l D tc base ad cnt X1 Y ln hRX1 hFx t (by omega)) (cwV 1 hts gX9_field_X9_isType rfl rfl rfl (by first | exact hd_X9_isType | decide +kernel) ⟨Nat.le_of_ble_eq_true rfl, Nat.le_of_ble_eq_true rfl⟩) hK hw (by first | exact Int.le_refl 0 | omega) (by first | exact zlt hc40 | omega) sl_40_0 rfl rfl hl.1 rfl (Nat.le_of_ble_eq_true rfl) dX9_field_7 ⟨Nat.le_of_ble_eq_true rfl, Nat.le_of_ble_eq_true rfl⟩) hS (fun z2 u3 H locs p4 hw hS => ?_)
  obtain ⟨eu3, p4⟩ := p4
  subst eu3
  have e5 : X1 40 0 2 = X 40 0 2 := by rw [hX1, u3_j _ _ _ _ (by decide)]
  simp only [e5] at p4
  have q900047 : Frm [4001] X X1 := by rw [hX1]; exact Frm.set Frm.rf (show 4001 ∈ [4001] by first | exact nlm_in rfl | decide)
  rcases p4 with ⟨ez2, p4⟩ | ⟨ez2, p4⟩
  · subst ez2
    refine x_if_neT (tgt := 15) hx hb (by omega) (by decide) dX9_field_10 (by decide) ?_
    refine lv_iload_n hx hb dX9_field_15 rfl (lv_at hl 2 rfl) ?_
    refine x_if_lt (tgt := 43) hx hb (by omega) dX9_field_16 (by decide) (fun c6 => ?_) (fun c6 => ?_)
    · refine lv_bipush (v := jI (-2)) hx hb dX9_field_43 (by decide) ?_
      rw [hQ9]
      refine ret_i (mc := 0) (ms := 0) hx hb hr hlocks hw hS (by first | exact Nat.le_of_ble_eq_true rfl | omega) (by first | exact Nat.le_of_ble_eq_true rfl | omega) dX9_field_45 ?_
      have q8 : Frm [4001] X X1 := by rw [hX1]; exact Frm.set Frm.rf (show 4001 ∈ [4001] by first | exact nlm_in rfl | decide)
      have hMq7 : MInv X1 := minv_frm hMI q8 (by decide)
      have e9 : X1 44 0 t = X 44 0 t := (by rw [hX1, u3_k _ _ _ _ (by first | exact Nat.ne_of_beq_eq_false rfl | decide)])
      have q10 : Frm [4001] X X1 := by rw [hX1]; exact Frm.set Frm.rf (show 4001 ∈ [4001] by first | exact nlm_in rfl | decide)
      exact ⟨X1, rfl, hRX1, hFX1, hMq7, by omega, (by (try delta Hid at *); first | exact Or.inr (Or.inl ⟨by omega, by omega, (fun q => by omega), by omega, by omega⟩) | exact Or.inr (Or.inr (Or.inr (Or.inr ((⟨by omega, by omega, by omega, by omega, by omega, by omega, by omega⟩))))) | omega), fun h => (by exfalso; omega), fun y h => ⟨(by rw [hX1, u3_k _ _ _ _ (by first | exact Nat.ne_of_beq_eq_false rfl | decide)]), (by rw [hX1, u3_k _ _ _ _ (by first | exact Nat.ne_of_beq_eq_false rfl | decide)]), (by rw [hX1, u3_k _ _ _ _ (by first | exact Nat.ne_of_beq_eq_false rfl | decide)]), (by rw [hX1, u3_k _ _ _ _ (by first | exact Nat.ne_of_beq_eq_false rfl | decide)])⟩, fun y h => (by rw [hX1, u3_k _ _ _ _ (by first | exact Nat.ne_of_beq_eq_false rfl | decide)]), fun q => (by exfalso; omega), fun _ => q10⟩
    · refine lv_iload_n hx hb dX9_field_19 rfl (lv_at hl 2 rfl) ?_
      refine lv_bipush (v := jI 19) hx hb dX9_field_20 (by decide) ?_
      refine x_icmp_gt (tgt := 43) hx hb (by omega) (by omega) dX9_field_22 (by decide) (fun c11 => ?_) (fun c11 => ?_)
      · refine lv_bipush (v := jI (-2)) hx hb dX9_field_43 (by decide) ?_
        rw [hQ9]
        refine ret_i (mc := 0) (ms := 0) hx hb hr hlocks hw hS (by first | exact Nat.le_of_ble_eq_true rfl | omega) (by first | exact Nat.le_of_ble_eq_true rfl | omega) dX9_field_45 ?_
        have q13 : Frm [4001] X X1 := by rw [hX1]; exact Frm.set Frm.rf (show 4001 ∈ [4001] by first | exact nlm_in rfl | decide)
        have hMq12 : MInv X1 := minv_frm hMI q13 (by decide)
        have e14 : X1 44 0 t = X 44 0 t := (by rw [hX1, u3_k _ _ _ _ (by first | exact Nat.ne_of_beq_eq_false rfl | decide)])
        have q15 : Frm [4001] X X1 := by rw [hX1]; exact Frm.set Frm.rf (show 4001 ∈ [4001] by first | exact nlm_in rfl | decide)
        exact ⟨X1, rfl, hRX1, hFX1, hMq12, by omega, (by (try delta Hid at *); first | exact Or.inr (Or.inl ⟨by omega, by omega, (fun q => by omega), by omega, by omega⟩) | exact Or.inr (Or.inr (Or.inr (Or.inr ((⟨by omega, by omega, by omega, by omega, by omega, by omega, by omega⟩))))) | omega), fun h => (by exfalso; omega), fun y h => ⟨(by rw [hX1, u3_k _ _ _ _ (by first | exact Nat.ne_of_beq_eq_false rfl | decide)]), (by rw [hX1, u3_k _ _ _ _ (by first | exact Nat.ne_of_beq_eq_false rfl | decide)]), (by rw [hX1, u3_k _ _ _ _ (by first | exact Nat.ne_of_beq_eq_false rfl | decide)]), (by rw [hX1, u3_k _ _ _ _ (by first | exact Nat.ne_of_beq_eq_false rfl | decide)])⟩, fun y h => (by rw [hX1, u3_k _ _ _ _ (by first | exact Nat.ne_of_beq_eq_false rfl | decide)]), fun q => (by exfalso; omega), fun _ => q15⟩
      · refine lv_aload_n hx hb dX9_field_25 rfl (lv_at hl 0 rfl) ?_
        refine lv_iload_n hx hb dX9_field_26 rfl (lv_at hl 1 rfl) ?_
        refine lv_iload_n hx hb dX9_field_27 rfl (lv_at hl 2 rfl) ?_
        refine gos_i (run_V (As := [.int (jI t), .int (jI name)]) (rest := []) hx hb hml hown hts (c_X9_named l D tc base ad cnt X1 Y ln hRX1 hFx t name (by omega) (by omega)) (cwV 2 hts gX9_field_X9_named rfl rfl rfl (by first | exact hd_X9_named | decide +kernel) ⟨Nat.le_of_ble_eq_true rfl, Nat.le_of_ble_eq_true rfl⟩) hK hw (by first | exact Int.le_refl 0 | omega) (by first | exact zlt hc40 | omega) sl_40_0 rfl rfl hl.1 rfl (Nat.le_of_ble_eq_true rfl) dX9_field_28 ⟨Nat.le_of_ble_eq_true rfl, Nat.le_of_ble_eq_true rfl⟩) hS (fun z16 u17 H locs p18 hw hS => ?_)
        obtain ⟨eu17, p18⟩ := p18
        subst eu17
        have e19 : ∀ j : Int, X1 44 0 j = X 44 0 j := fun j => by rw [hX1, u3_k _ _ _ _ (by first | exact Nat.ne_of_beq_eq_false rfl | decide)]
        have e20 : ∀ j : Int, X1 45 0 j = X 45 0 j := fun j => by rw [hX1, u3_k _ _ _ _ (by first | exact Nat.ne_of_beq_eq_false rfl | decide)]
        simp only [e19, e20] at p18
        refine x_if_ge (tgt := 43) hx hb (by omega) dX9_field_31 (by decide) (fun c21 => ?_) (fun c21 => ?_)
        · refine lv_bipush (v := jI (-2)) hx hb dX9_field_43 (by decide) ?_
          rw [hQ9]
          refine ret_i (mc := 0) (ms := 0) hx hb hr hlocks hw hS (by first | exact Nat.le_of_ble_eq_true rfl | omega) (by first | exact Nat.le_of_ble_eq_true rfl | omega) dX9_field_45 ?_
          have hMq22 : MInv X1 := minv_frm hMI q900047 (by decide)
          have e24 : X1 44 0 t = X 44 0 t := (by rw [hX1, u3_k _ _ _ _ (by first | exact Nat.ne_of_beq_eq_false rfl | decide)])
          exact ⟨X1, rfl, hRX1, hFX1, hMq22, by omega, (by (try delta Hid at *); first | exact Or.inr (Or.inl ⟨by omega, by omega, (fun q => by omega), by omega, by omega⟩) | exact Or.inr (Or.inr (Or.inr (Or.inr ((⟨by omega, by omega, by omega, by omega, by omega, by omega, by omega⟩))))) | omega), fun h => (by exfalso; omega), fun y h => ⟨(by rw [hX1, u3_k _ _ _ _ (by first | exact Nat.ne_of_beq_eq_false rfl | decide)]), (by rw [hX1, u3_k _ _ _ _ (by first | exact Nat.ne_of_beq_eq_false rfl | decide)]), (by rw [hX1, u3_k _ _ _ _ (by first | exact Nat.ne_of_beq_eq_false rfl | decide)]), (by rw [hX1, u3_k _ _ _ _ (by first | exact Nat.ne_of_beq_eq_false rfl | decide)])⟩, fun y h => (by rw [hX1, u3_k _ _ _ _ (by first | exact Nat.ne_of_beq_eq_false rfl | decide)]), fun q => (by exfalso; omega), fun _ => q900047⟩
        · refine lv_iload_n hx hb dX9_field_34 rfl (lv_at hl 3 rfl) ?_
          refine x_if_lt (tgt := 43) hx hb (by omega) dX9_field_35 (by decide) (fun c26 => ?_) (fun c26 => ?_)
          · refine lv_bipush (v := jI (-2)) hx hb dX9_field_43 (by decide) ?_
            rw [hQ9]
            refine ret_i (mc := 0) (ms := 0) hx hb hr hlocks hw hS (by first | exact Nat.le_of_ble_eq_true rfl | omega) (by first | exact Nat.le_of_ble_eq_true rfl | omega) dX9_field_45 ?_
            have hMq27 : MInv X1 := minv_frm hMI q900047 (by decide)
            have e29 : X1 44 0 t = X 44 0 t := (by rw [hX1, u3_k _ _ _ _ (by first | exact Nat.ne_of_beq_eq_false rfl | decide)])
            exact ⟨X1, rfl, hRX1, hFX1, hMq27, by omega, (by (try delta Hid at *); first | exact Or.inr (Or.inl ⟨by omega, by omega, (fun q => by omega), by omega, by omega⟩) | exact Or.inr (Or.inr (Or.inr (Or.inr ((⟨by omega, by omega, by omega, by omega, by omega, by omega, by omega⟩))))) | omega), fun h => (by exfalso; omega), fun y h => ⟨(by rw [hX1, u3_k _ _ _ _ (by first | exact Nat.ne_of_beq_eq_false rfl | decide)]), (by rw [hX1, u3_k _ _ _ _ (by first | exact Nat.ne_of_beq_eq_false rfl | decide)]), (by rw [hX1, u3_k _ _ _ _ (by first | exact Nat.ne_of_beq_eq_false rfl | decide)]), (by rw [hX1, u3_k _ _ _ _ (by first | exact Nat.ne_of_beq_eq_false rfl | decide)])⟩, fun y h => (by rw [hX1, u3_k _ _ _ _ (by first | exact Nat.ne_of_beq_eq_false rfl | decide)]), fun q => (by exfalso; omega), fun _ => q900047⟩
          · refine lv_iload_n hx hb dX9_field_38 rfl (lv_at hl 3 rfl) ?_
            refine lv_iconst (v := jI 5) hx hb dX9_field_39 rfl ?_
            refine x_icmp_le (tgt := 46) hx hb (by omega) (by omega) dX9_field_40 (by decide) (fun c31 => ?_) (fun c31 => ?_)
            · refine lv_aload_n hx hb dX9_field_46 rfl (lv_at hl 0 rfl) ?_
              refine x_geti (jz := 20) hx hb hf9 hw (by first | exact Int.le_refl 0 | omega) (by first | exact zlt hc40 | omega) sl_40_20 rfl lk165 dX9_field_47 ?_
              have e32 : X1 40 0 20 = X 40 0 20 := by rw [hX1, u3_j _ _ _ _ (by decide)]
              rw [e32]
              have f33 : 0 ≤ X 40 0 20 ∧ X 40 0 20 ≤ 4 := hR 40 0 20
              refine x_if_le (tgt := 56) hx hb (by omega) dX9_field_50 (by decide) (fun c34 => ?_) (fun c34 => ?_)
              · refine lv_aload_n hx hb dX9_field_56 rfl (lv_at hl 0 rfl) ?_
                refine x_geto hx hb hf9 hw (by first | exact Int.le_refl 0 | omega) (by first | exact zlt hc40 | omega) sl_40_3 lk13 dX9_field_57 ?_
                refine lv_iload_n hx hb dX9_field_60 rfl (lv_at hl 1 rfl) ?_
                refine x_iald hx hb hK.1 hw (by first | exact Int.le_refl 0 | omega) (by first | exact zlt hc44 | omega) ar_44 (len_E ar_44 (by first | exact Nat.ne_of_beq_eq_false rfl | decide)) (by omega) (by omega) (by omega) dX9_field_61 ?_
                have e35 : ∀ p9 q9 : Int, X1 44 p9 q9 = X 44 p9 q9 := fun p9 q9 => by rw [hX1, u3_k _ _ _ _ (by first | exact Nat.ne_of_beq_eq_false rfl | decide)]
                rw [e35 0 t]
                have f36 : 0 ≤ X 44 0 t ∧ X 44 0 t ≤ 5 := hR 44 0 t
                refine lv_iconst (v := jI 5) hx hb dX9_field_62 rfl ?_
                refine x_icmp_ne (tgt := 69) hx hb (by omega) (by omega) dX9_field_63 (by decide) (fun c37 => ?_) (fun c37 => ?_)
                · refine lv_aload_n hx hb dX9_field_69 rfl (lv_at hl 0 rfl) ?_
                  refine x_geto hx hb hf9 hw (by first | exact Int.le_refl 0 | omega) (by first | exact zlt hc40 | omega) sl_40_3 lk13 dX9_field_70 ?_
                  refine lv_iload_n hx hb dX9_field_73 rfl (lv_at hl 1 rfl) ?_
                  refine x_iald hx hb hK.1 hw (by first | exact Int.le_refl 0 | omega) (by first | exact zlt hc44 | omega) ar_44 (len_E ar_44 (by first | exact Nat.ne_of_beq_eq_false rfl | decide)) (by omega) (by omega) (by omega) dX9_field_74 ?_
                  have e38 : ∀ p9 q9 : Int, X1 44 p9 q9 = X 44 p9 q9 := fun p9 q9 => by rw [hX1, u3_k _ _ _ _ (by first | exact Nat.ne_of_beq_eq_false rfl | decide)]
                  rw [e38 0 t]
                  have f39 : 0 ≤ X 44 0 t ∧ X 44 0 t ≤ 5 := hR 44 0 t
                  refine lv_istore (lv' := [(6, .int (jI (X 44 0 t))), (0, .ref (ad 40 0)), (1, .int (jI t)), (2, .int (jI name)), (3, .int (jI lane)), (4, .long (jL v))]) hx hb dX9_field_75 hl (by decide) rfl (fun ls hl => ?_)
                  refine lv_aload_n hx hb dX9_field_77 rfl (lv_at hl 1 rfl) ?_
                  refine x_geto hx hb hf9 hw (by first | exact Int.le_refl 0 | omega) (by first | exact zlt hc40 | omega) sl_40_4 lk17 dX9_field_78 ?_
                  refine lv_iconst (v := jI 5) hx hb dX9_field_81 rfl ?_
                  refine lv_iload_n hx hb dX9_field_82 rfl (lv_at hl 2 rfl) ?_
                  refine x_imul hx hb dX9_field_83 ?_
                  refine lv_iload hx hb dX9_field_84 (lv_at hl 0 rfl) ?_
                  refine x_iadd hx hb dX9_field_86 ?_
                  refine lv_iload_n hx hb dX9_field_87 rfl (lv_at hl 3 rfl) ?_
                  refine x_iast hx hb hK.1 hw hS (by first | exact Int.le_refl 0 | omega) (by first | exact zlt hc45 | omega) ar_45 (len_E ar_45 (by first | exact Nat.ne_of_beq_eq_false rfl | decide)) (by omega) (by omega) (by omega) dX9_field_88 (fun H locs hw hS => ?_)
                  obtain ⟨X40, hX40⟩ : ∃ Xq, Xq = u3 X1 45 0 ((5 * t) + (X 44 0 t)) name := ⟨_, rfl⟩
                  rw [← hX40] at hw
                  have hRX40 : Rng X40 := by rw [hX40]; exact rng_set hRX1 (show 0 ≤ name ∧ name ≤ 19 by omega)
                  have hVX40 : X40 45 0 ((5 * t) + (X 44 0 t)) = name := by rw [hX40]; exact u3_s _ _ _ _ _
                  have hFX40 : Frm [4001, 4500, 4600, 4700, 4800, 4400, 5600] X X40 := by rw [hX40]; exact Frm.set hFX1 (show 4500 ∈ [4001, 4500, 4600, 4700, 4800, 4400, 5600] by first | exact nlm_in rfl | decide)
                  refine lv_aload_n hx hb dX9_field_89 rfl (lv_at hl 1 rfl) ?_
                  refine x_geto hx hb hf9 hw (by first | exact Int.le_refl 0 | omega) (by first | exact zlt hc40 | omega) sl_40_5 lk20 dX9_field_90 ?_
                  refine lv_iconst (v := jI 5) hx hb dX9_field_93 rfl ?_
                  refine lv_iload_n hx hb dX9_field_94 rfl (lv_at hl 2 rfl) ?_
                  refine x_imul hx hb dX9_field_95 ?_
                  refine lv_iload hx hb dX9_field_96 (lv_at hl 0 rfl) ?_
                  refine x_iadd hx hb dX9_field_98 ?_
                  refine lv_iload_n hx hb dX9_field_99 rfl (lv_at hl 4 rfl) ?_
                  refine x_iast hx hb hK.1 hw hS (by first | exact Int.le_refl 0 | omega) (by first | exact zlt hc46 | omega) ar_46 (len_E ar_46 (by first | exact Nat.ne_of_beq_eq_false rfl | decide)) (by omega) (by omega) (by omega) dX9_field_100 (fun H locs hw hS => ?_)
                  obtain ⟨X41, hX41⟩ : ∃ Xq, Xq = u3 X40 46 0 ((5 * t) + (X 44 0 t)) lane := ⟨_, rfl⟩
                  rw [← hX41] at hw
                  have hRX41 : Rng X41 := by rw [hX41]; exact rng_set hRX40 (show 0 ≤ lane ∧ lane ≤ 5 by omega)
                  have hVX41 : X41 46 0 ((5 * t) + (X 44 0 t)) = lane := by rw [hX41]; exact u3_s _ _ _ _ _
                  have hFX41 : Frm [4001, 4500, 4600, 4700, 4800, 4400, 5600] X X41 := by rw [hX41]; exact Frm.set hFX40 (show 4600 ∈ [4001, 4500, 4600, 4700, 4800, 4400, 5600] by first | exact nlm_in rfl | decide)
                  refine lv_aload_n hx hb dX9_field_101 rfl (lv_at hl 1 rfl) ?_
                  refine x_geto hx hb hf9 hw (by first | exact Int.le_refl 0 | omega) (by first | exact zlt hc40 | omega) sl_40_6 lk23 dX9_field_102 ?_
                  refine lv_iconst (v := jI 5) hx hb dX9_field_105 rfl ?_
                  refine lv_iload_n hx hb dX9_field_106 rfl (lv_at hl 2 rfl) ?_
                  refine x_imul hx hb dX9_field_107 ?_
                  refine lv_iload hx hb dX9_field_108 (lv_at hl 0 rfl) ?_
                  refine x_iadd hx hb dX9_field_110 ?_
                  refine lv_iload_n hx hb dX9_field_111 rfl (lv_at hl 4 rfl) ?_
                  have q900049 : Frm [4001, 4500, 4600, 4700, 4800, 4400] X X1 := by rw [hX1]; exact Frm.set Frm.rf (show 4001 ∈ [4001, 4500, 4600, 4700, 4800, 4400] by first | exact nlm_in rfl | decide)
                  have q900050 : Frm [4001, 4500, 4600, 4700, 4800, 4400] X X40 := by rw [hX40]; exact Frm.set q900049 (show 4500 ∈ [4001, 4500, 4600, 4700, 4800, 4400] by first | exact nlm_in rfl | decide)
                  have q900051 : Frm [4001, 4500, 4600, 4700, 4800, 4400] X X41 := by rw [hX41]; exact Frm.set q900050 (show 4600 ∈ [4001, 4500, 4600, 4700, 4800, 4400] by first | exact nlm_in rfl | decide)
                  refine x_if_ne (tgt := 120) hx hb (by omega) dX9_field_112 (by decide) (fun c42 => ?_) (fun c42 => ?_)
                  · refine lv_ldc2 (v := jL (-1)) hx hb hown (hts (.constantLong RX9 168 (-1)) (by first | exact gj_X9_field_0 _ (gp_4 (gp_1 (gp_1 gp_h))) | decide +kernel)) dX9_field_120 ?_
                    refine x_last hx hb hK.1 hw hS (by first | exact Int.le_refl 0 | omega) (by first | exact zlt hc47 | omega) ar_47 (len_E ar_47 (by first | exact Nat.ne_of_beq_eq_false rfl | decide)) (by omega) (by omega) (by omega) dX9_field_123 (fun H locs hw hS => ?_)
                    obtain ⟨X43, hX43⟩ : ∃ Xq, Xq = u3 X41 47 0 ((5 * t) + (X 44 0 t)) (-1) := ⟨_, rfl⟩
                    rw [← hX43] at hw
                    have hRX43 : Rng X43 := by rw [hX43]; exact rng_set hRX41 (show (-9223372036854775808) ≤ (-1) ∧ (-1) ≤ 9223372036854775807 by omega)
                    have hVX43 : X43 47 0 ((5 * t) + (X 44 0 t)) = (-1) := by rw [hX43]; exact u3_s _ _ _ _ _
                    have hFX43 : Frm [4001, 4500, 4600, 4700, 4800, 4400, 5600] X X43 := by rw [hX43]; exact Frm.set hFX41 (show 4700 ∈ [4001, 4500, 4600, 4700, 4800, 4400, 5600] by first | exact nlm_in rfl | decide)
                    refine lv_aload_n hx hb dX9_field_124 rfl (lv_at hl 1 rfl) ?_
                    refine x_geto hx hb hf9 hw (by first | exact Int.le_refl 0 | omega) (by first | exact zlt hc40 | omega) sl_40_7 lk27 dX9_field_125 ?_
                    refine lv_iconst (v := jI 5) hx hb dX9_field_128 rfl ?_
                    refine lv_iload_n hx hb dX9_field_129 rfl (lv_at hl 2 rfl) ?_
                    refine x_imul hx hb dX9_field_130 ?_
                    refine lv_iload hx hb dX9_field_131 (lv_at hl 0 rfl) ?_
                    refine x_iadd hx hb dX9_field_133 ?_
                    refine lv_iconst (v := jI 0) hx hb dX9_field_134 rfl ?_
                    refine x_zast hx hb hK.1 hw hS (by first | exact Int.le_refl 0 | omega) (by first | exact zlt hc48 | omega) ar_48 (len_E ar_48 (by first | exact Nat.ne_of_beq_eq_false rfl | decide)) (by omega) (by omega) (by omega) (by omega) (by omega) dX9_field_135 (fun H locs hw hS => ?_)
                    obtain ⟨X44, hX44⟩ : ∃ Xq, Xq = u3 X43 48 0 ((5 * t) + (X 44 0 t)) 0 := ⟨_, rfl⟩
                    rw [← hX44] at hw
                    have hRX44 : Rng X44 := by rw [hX44]; exact rng_set hRX43 (show 0 ≤ 0 ∧ 0 ≤ 1 by omega)
                    have hVX44 : X44 48 0 ((5 * t) + (X 44 0 t)) = 0 := by rw [hX44]; exact u3_s _ _ _ _ _
                    have hFX44 : Frm [4001, 4500, 4600, 4700, 4800, 4400, 5600] X X44 := by rw [hX44]; exact Frm.set hFX43 (show 4800 ∈ [4001, 4500, 4600, 4700, 4800, 4400, 5600] by first | exact nlm_in rfl | decide)
                    refine lv_aload_n hx hb dX9_field_136 rfl (lv_at hl 1 rfl) ?_
                    refine x_geto hx hb hf9 hw (by first | exact Int.le_refl 0 | omega) (by first | exact zlt hc40 | omega) sl_40_3 lk13 dX9_field_137 ?_
                    refine lv_iload_n hx hb dX9_field_140 rfl (lv_at hl 2 rfl) ?_
                    refine lv_dup2_11 hx hb dX9_field_141 rfl rfl ?_
                    refine x_iald hx hb hK.1 hw (by first | exact Int.le_refl 0 | omega) (by first | exact zlt hc44 | omega) ar_44 (len_E ar_44 (by first | exact Nat.ne_of_beq_eq_false rfl | decide)) (by omega) (by omega) (by omega) dX9_field_142 ?_
                    have e45 : ∀ p9 q9 : Int, X44 44 p9 q9 = X 44 p9 q9 := fun p9 q9 => by rw [hX44, u3_k _ _ _ _ (by first | exact Nat.ne_of_beq_eq_false rfl | decide), hX43, u3_k _ _ _ _ (by first | exact Nat.ne_of_beq_eq_false rfl | decide), hX41, u3_k _ _ _ _ (by first | exact Nat.ne_of_beq_eq_false rfl | decide), hX40, u3_k _ _ _ _ (by first | exact Nat.ne_of_beq_eq_false rfl | decide), hX1, u3_k _ _ _ _ (by first | exact Nat.ne_of_beq_eq_false rfl | decide)]
                    rw [e45 0 t]
                    have f46 : 0 ≤ X 44 0 t ∧ X 44 0 t ≤ 5 := hR 44 0 t
                    refine lv_iconst (v := jI 1) hx hb dX9_field_143 rfl ?_
                    refine x_iadd hx hb dX9_field_144 ?_
                    refine x_iast hx hb hK.1 hw hS (by first | exact Int.le_refl 0 | omega) (by first | exact zlt hc44 | omega) ar_44 (len_E ar_44 (by first | exact Nat.ne_of_beq_eq_false rfl | decide)) (by omega) (by omega) (by omega) dX9_field_145 (fun H locs hw hS => ?_)
                    obtain ⟨X47, hX47⟩ : ∃ Xq, Xq = u3 X44 44 0 t ((X 44 0 t) + 1) := ⟨_, rfl⟩
                    rw [← hX47] at hw
                    have hRX47 : Rng X47 := by rw [hX47]; exact rng_set hRX44 (show 0 ≤ ((X 44 0 t) + 1) ∧ ((X 44 0 t) + 1) ≤ 5 by omega)
                    have hVX47 : X47 44 0 t = ((X 44 0 t) + 1) := by rw [hX47]; exact u3_s _ _ _ _ _
                    have hFX47 : Frm [4001, 4500, 4600, 4700, 4800, 4400, 5600] X X47 := by rw [hX47]; exact Frm.set hFX44 (show 4400 ∈ [4001, 4500, 4600, 4700, 4800, 4400, 5600] by first | exact nlm_in rfl | decide)
                    refine lv_iconst (v := jI 0) hx hb dX9_field_146 rfl ?_
                    refine lv_istore (lv' := [(7, .int (jI 0)), (6, .int (jI (X 44 0 t))), (0, .ref (ad 40 0)), (1, .int (jI t)), (2, .int (jI name)), (3, .int (jI lane)), (4, .long (jL v))]) hx hb dX9_field_147 hl (by decide) rfl (fun ls hl => ?_)
                    have lp149 : ∀ (nn : Nat) (x : Int) (Xa : Nat → Int → Int → Int) (H : Heap) (locs : List Loc) (ls : Array Slot), (30 - x) < (nn : Int) → (Rng Xa) → (Frm [5600] X47 Xa) → (0 ≤ x ∧ x ≤ 30) → (Fld Xa t (X 44 0 t) x) → (∀ y, 0 ≤ y → y < x → X 55 0 y = t → Xa 56 0 (5 * y + X 44 0 t) = (if lane = 0 then v else -1)) → (∀ y j, 0 ≤ j → j ≤ 4 → ¬ (0 ≤ y ∧ y < x ∧ X 55 0 y = t ∧ j = X 44 0 t) → Xa 56 0 (5 * y + j) = X 56 0 (5 * y + j)) → wd D tc base (ad, cnt, Xa, Y, ln) H → va_S (frA base) s.heap H locs → lv_has ls 8 [(0, .ref (ad 40 0)), (1, .int (jI t)), (2, .int (jI name)), (3, .int (jI lane)), (6, .int (jI (X 44 0 t))), (7, .int (jI x))] → W p l e ({ frames := 1, cells := 0, slots := 0, locals := 23 } : Room) s m av9 below meth c H locs 0 0 Q9 (F0 m 149 ls []) := by
                      intro nn
                      induction nn with
                      | zero => intro x Xa H locs ls hm hRXa hGXa hx7 hFl hva hvo hw hS hl; exfalso; omega
                      | succ nn ih149 =>
                        intro x Xa H locs ls hm hRXa hGXa hx7 hFl hva hvo hw hS hl
                        have hFXa : Frm [4001, 4500, 4600, 4700, 4800, 4400, 5600] X Xa := Frm.tr hFX47 (Frm.mono hGXa (by first | exact nls_of rfl | decide))
                        refine lv_iload hx hb dX9_field_149 (lv_at hl 5 rfl) ?_
                        refine lv_aload_n hx hb dX9_field_151 rfl (lv_at hl 0 rfl) ?_
                        refine x_geti (jz := 13) hx hb hf9 hw (by first | exact Int.le_refl 0 | omega) (by first | exact zlt hc40 | omega) sl_40_13 rfl lk151 dX9_field_152 ?_
                        have e48 : Xa 40 0 13 = X 40 0 13 := by rw [hGXa 40 0 13 (show 4014 ∉ [5600] by first | exact nlm_ni rfl | decide), hX47, u3_k _ _ _ _ (by first | exact Nat.ne_of_beq_eq_false rfl | decide), hX44, u3_k _ _ _ _ (by first | exact Nat.ne_of_beq_eq_false rfl | decide), hX43, u3_k _ _ _ _ (by first | exact Nat.ne_of_beq_eq_false rfl | decide), hX41, u3_k _ _ _ _ (by first | exact Nat.ne_of_beq_eq_false rfl | decide), hX40, u3_k _ _ _ _ (by first | exact Nat.ne_of_beq_eq_false rfl | decide), hX1, u3_j _ _ _ _ (by decide)]
                        rw [e48]
                        have f49 : 0 ≤ X 40 0 13 ∧ X 40 0 13 ≤ 30 := hR 40 0 13
                        refine x_icmp_ge (tgt := 198) hx hb (by omega) (by omega) dX9_field_155 (by decide) (fun c50 => ?_) (fun c50 => ?_)
                        · refine lv_iload hx hb dX9_field_198 (lv_at hl 4 rfl) ?_
                          rw [hQ9]
                          refine ret_i (mc := 0) (ms := 0) hx hb hr hlocks hw hS (by first | exact Nat.le_of_ble_eq_true rfl | omega) (by first | exact Nat.le_of_ble_eq_true rfl | omega) dX9_field_200 ?_
                          have e51 : Xa 44 0 t = X 44 0 t + 1 := (by rw [hGXa 44 0 t (show 4400 ∉ [5600] by first | exact nlm_ni rfl | decide)]; exact hVX47)
                          exact ⟨Xa, rfl, hRXa, hFXa, hFl.out (by rw [hGXa 40 0 13 (show 4014 ∉ [5600] by first | exact nlm_ni rfl | decide), hX47, u3_k _ _ _ _ (by first | exact Nat.ne_of_beq_eq_false rfl | decide), hX44, u3_k _ _ _ _ (by first | exact Nat.ne_of_beq_eq_false rfl | decide), hX43, u3_k _ _ _ _ (by first | exact Nat.ne_of_beq_eq_false rfl | decide), hX41, u3_k _ _ _ _ (by first | exact Nat.ne_of_beq_eq_false rfl | decide), hX40, u3_k _ _ _ _ (by first | exact Nat.ne_of_beq_eq_false rfl | decide), hX1, u3_j _ _ _ _ (by decide)]; omega), by omega, (by (try delta Hid at *); first | exact Or.inr (Or.inr (Or.inr (Or.inr ((⟨by omega, by omega, by omega, by omega, by omega, by omega, by omega⟩))))) | omega), fun h => ⟨(by rw [hGXa 45 0 (5 * t + X 44 0 t) (show 4500 ∉ [5600] by first | exact nlm_ni rfl | decide), hX47, u3_k _ _ _ _ (by first | exact Nat.ne_of_beq_eq_false rfl | decide), hX44, u3_k _ _ _ _ (by first | exact Nat.ne_of_beq_eq_false rfl | decide), hX43, u3_k _ _ _ _ (by first | exact Nat.ne_of_beq_eq_false rfl | decide), hX41, u3_k _ _ _ _ (by first | exact Nat.ne_of_beq_eq_false rfl | decide)]; exact hVX40), (by rw [hGXa 46 0 (5 * t + X 44 0 t) (show 4600 ∉ [5600] by first | exact nlm_ni rfl | decide), hX47, u3_k _ _ _ _ (by first | exact Nat.ne_of_beq_eq_false rfl | decide), hX44, u3_k _ _ _ _ (by first | exact Nat.ne_of_beq_eq_false rfl | decide), hX43, u3_k _ _ _ _ (by first | exact Nat.ne_of_beq_eq_false rfl | decide)]; exact hVX41), (by rw [hGXa 47 0 (5 * t + X 44 0 t) (show 4700 ∉ [5600] by first | exact nlm_ni rfl | decide), hX47, u3_k _ _ _ _ (by first | exact Nat.ne_of_beq_eq_false rfl | decide), hX44, u3_k _ _ _ _ (by first | exact Nat.ne_of_beq_eq_false rfl | decide)]; rw [hVX43]; split <;> omega), (by rw [hGXa 48 0 (5 * t + X 44 0 t) (show 4800 ∉ [5600] by first | exact nlm_ni rfl | decide), hX47, u3_k _ _ _ _ (by first | exact Nat.ne_of_beq_eq_false rfl | decide)]; exact hVX44)⟩, fun y h => ⟨(by rw [hGXa 45 0 y (show 4500 ∉ [5600] by first | exact nlm_ni rfl | decide), hX47, u3_k _ _ _ _ (by first | exact Nat.ne_of_beq_eq_false rfl | decide), hX44, u3_k _ _ _ _ (by first | exact Nat.ne_of_beq_eq_false rfl | decide), hX43, u3_k _ _ _ _ (by first | exact Nat.ne_of_beq_eq_false rfl | decide), hX41, u3_k _ _ _ _ (by first | exact Nat.ne_of_beq_eq_false rfl | decide), hX40, u3_j _ _ _ _ (by omega), hX1, u3_k _ _ _ _ (by first | exact Nat.ne_of_beq_eq_false rfl | decide)]), (by rw [hGXa 46 0 y (show 4600 ∉ [5600] by first | exact nlm_ni rfl | decide), hX47, u3_k _ _ _ _ (by first | exact Nat.ne_of_beq_eq_false rfl | decide), hX44, u3_k _ _ _ _ (by first | exact Nat.ne_of_beq_eq_false rfl | decide), hX43, u3_k _ _ _ _ (by first | exact Nat.ne_of_beq_eq_false rfl | decide), hX41, u3_j _ _ _ _ (by omega), hX40, u3_k _ _ _ _ (by first | exact Nat.ne_of_beq_eq_false rfl | decide), hX1, u3_k _ _ _ _ (by first | exact Nat.ne_of_beq_eq_false rfl | decide)]), (by rw [hGXa 47 0 y (show 4700 ∉ [5600] by first | exact nlm_ni rfl | decide), hX47, u3_k _ _ _ _ (by first | exact Nat.ne_of_beq_eq_false rfl | decide), hX44, u3_k _ _ _ _ (by first | exact Nat.ne_of_beq_eq_false rfl | decide), hX43, u3_j _ _ _ _ (by omega), hX41, u3_k _ _ _ _ (by first | exact Nat.ne_of_beq_eq_false rfl | decide), hX40, u3_k _ _ _ _ (by first | exact Nat.ne_of_beq_eq_false rfl | decide), hX1, u3_k _ _ _ _ (by first | exact Nat.ne_of_beq_eq_false rfl | decide)]), (by rw [hGXa 48 0 y (show 4800 ∉ [5600] by first | exact nlm_ni rfl | decide), hX47, u3_k _ _ _ _ (by first | exact Nat.ne_of_beq_eq_false rfl | decide), hX44, u3_j _ _ _ _ (by omega), hX43, u3_k _ _ _ _ (by first | exact Nat.ne_of_beq_eq_false rfl | decide), hX41, u3_k _ _ _ _ (by first | exact Nat.ne_of_beq_eq_false rfl | decide), hX40, u3_k _ _ _ _ (by first | exact Nat.ne_of_beq_eq_false rfl | decide), hX1, u3_k _ _ _ _ (by first | exact Nat.ne_of_beq_eq_false rfl | decide)])⟩, fun y h => (by rw [hGXa 44 0 y (show 4400 ∉ [5600] by first | exact nlm_ni rfl | decide), hX47, u3_j _ _ _ _ h, hX44, u3_k _ _ _ _ (by first | exact Nat.ne_of_beq_eq_false rfl | decide), hX43, u3_k _ _ _ _ (by first | exact Nat.ne_of_beq_eq_false rfl | decide), hX41, u3_k _ _ _ _ (by first | exact Nat.ne_of_beq_eq_false rfl | decide), hX40, u3_k _ _ _ _ (by first | exact Nat.ne_of_beq_eq_false rfl | decide), hX1, u3_k _ _ _ _ (by first | exact Nat.ne_of_beq_eq_false rfl | decide)]), fun _ => ⟨fun y a b e => hva y a (by omega) e, fun y j a b c d e => hvo y j c d (fun q => e ⟨q.2.2.1, q.2.2.2⟩)⟩, fun q => (by exfalso; omega)⟩
                        · refine lv_aload_n hx hb dX9_field_158 rfl (lv_at hl 0 rfl) ?_
                          refine x_geto hx hb hf9 hw (by first | exact Int.le_refl 0 | omega) (by first | exact zlt hc40 | omega) sl_40_14 lk45 dX9_field_159 ?_
                          refine lv_iload hx hb dX9_field_162 (lv_at hl 5 rfl) ?_
                          refine x_iald hx hb hK.1 hw (by first | exact Int.le_refl 0 | omega) (by first | exact zlt hc55 | omega) ar_55 (len_E ar_55 (by first | exact Nat.ne_of_beq_eq_false rfl | decide)) (by omega) (by omega) (by omega) dX9_field_164 ?_
                          have e52 : ∀ p9 q9 : Int, Xa 55 p9 q9 = X 55 p9 q9 := fun p9 q9 => by rw [hGXa 55 p9 q9 (show 5500 ∉ [5600] by first | exact nlm_ni rfl | decide), hX47, u3_k _ _ _ _ (by first | exact Nat.ne_of_beq_eq_false rfl | decide), hX44, u3_k _ _ _ _ (by first | exact Nat.ne_of_beq_eq_false rfl | decide), hX43, u3_k _ _ _ _ (by first | exact Nat.ne_of_beq_eq_false rfl | decide), hX41, u3_k _ _ _ _ (by first | exact Nat.ne_of_beq_eq_false rfl | decide), hX40, u3_k _ _ _ _ (by first | exact Nat.ne_of_beq_eq_false rfl | decide), hX1, u3_k _ _ _ _ (by first | exact Nat.ne_of_beq_eq_false rfl | decide)]
                          rw [e52 0 x]
                          have f53 : 0 ≤ X 55 0 x ∧ X 55 0 x ≤ 7 := hR 55 0 x
                          refine lv_iload_n hx hb dX9_field_165 rfl (lv_at hl 1 rfl) ?_
                          have q900048 : Frm [5600] X47 Xa := Frm.tr Frm.rf (Frm.mono hGXa (by first | exact nls_of rfl | decide))
                          refine x_icmp_ne (tgt := 192) hx hb (by omega) (by omega) dX9_field_166 (by decide) (fun c54 => ?_) (fun c54 => ?_)
                          · refine lv_iinc (v := jI (x + 1)) (lv' := [(7, .int (jI (x + 1))), (0, .ref (ad 40 0)), (1, .int (jI t)), (2, .int (jI name)), (3, .int (jI lane)), (6, .int (jI (X 44 0 t)))]) hx hb dX9_field_192 hl (k := 5) rfl (jI_add _ _) (by decide) rfl (fun ls hl => ?_)
                            refine lv_goto (tgt := 149) hx hb dX9_field_195 (by decide) ?_
                            exact ih149 (x + 1) Xa _ _ _ (by omega) hRXa q900048 (by omega) (hFl.skip (by rw [hGXa 55 0 x (show 5500 ∉ [5600] by first | exact nlm_ni rfl | decide), hX47, u3_k _ _ _ _ (by first | exact Nat.ne_of_beq_eq_false rfl | decide), hX44, u3_k _ _ _ _ (by first | exact Nat.ne_of_beq_eq_false rfl | decide), hX43, u3_k _ _ _ _ (by first | exact Nat.ne_of_beq_eq_false rfl | decide), hX41, u3_k _ _ _ _ (by first | exact Nat.ne_of_beq_eq_false rfl | decide), hX40, u3_k _ _ _ _ (by first | exact Nat.ne_of_beq_eq_false rfl | decide), hX1, u3_k _ _ _ _ (by first | exact Nat.ne_of_beq_eq_false rfl | decide)]; omega)) (fun y a b c => hva y a (by have : y ≠ x := fun q => (by rw [q] at c; omega); omega) c) (fun y j a b n => hvo y j a b (fun q9 => n ⟨q9.1, by omega, q9.2.2.1, q9.2.2.2⟩)) hw hS (lv_sub hl [1, 2, 3, 4, 5, 0] rfl)
                          · refine lv_aload_n hx hb dX9_field_169 rfl (lv_at hl 0 rfl) ?_
                            refine x_geto hx hb hf9 hw (by first | exact Int.le_refl 0 | omega) (by first | exact zlt hc40 | omega) sl_40_15 lk48 dX9_field_170 ?_
                            refine lv_iconst (v := jI 5) hx hb dX9_field_173 rfl ?_
                            refine lv_iload hx hb dX9_field_174 (lv_at hl 5 rfl) ?_
                            refine x_imul hx hb dX9_field_176 ?_
                            refine lv_iload hx hb dX9_field_177 (lv_at hl 4 rfl) ?_
                            refine x_iadd hx hb dX9_field_179 ?_
                            refine lv_aload_n hx hb dX9_field_180 rfl (lv_at hl 0 rfl) ?_
                            refine x_geto hx hb hf9 hw (by first | exact Int.le_refl 0 | omega) (by first | exact zlt hc40 | omega) sl_40_6 lk23 dX9_field_181 ?_
                            refine lv_iconst (v := jI 5) hx hb dX9_field_184 rfl ?_
                            refine lv_iload_n hx hb dX9_field_185 rfl (lv_at hl 1 rfl) ?_
                            refine x_imul hx hb dX9_field_186 ?_
                            refine lv_iload hx hb dX9_field_187 (lv_at hl 4 rfl) ?_
                            refine x_iadd hx hb dX9_field_189 ?_
                            refine x_lald hx hb hK.1 hw (by first | exact Int.le_refl 0 | omega) (by first | exact zlt hc47 | omega) ar_47 (len_E ar_47 (by first | exact Nat.ne_of_beq_eq_false rfl | decide)) (by omega) (by omega) (by omega) dX9_field_190 ?_
                            have e56 : Xa 47 0 ((5 * t) + (X 44 0 t)) = X43 47 0 ((5 * t) + (X 44 0 t)) := by rw [hGXa 47 0 ((5 * t) + (X 44 0 t)) (show 4700 ∉ [5600] by first | exact nlm_ni rfl | decide), hX47, u3_k _ _ _ _ (by first | exact Nat.ne_of_beq_eq_false rfl | decide), hX44, u3_k _ _ _ _ (by first | exact Nat.ne_of_beq_eq_false rfl | decide)]
                            rw [e56]
                            rw [hVX43]
                            refine x_last hx hb hK.1 hw hS (by first | exact Int.le_refl 0 | omega) (by first | exact zlt hc56 | omega) ar_56 (len_E ar_56 (by first | exact Nat.ne_of_beq_eq_false rfl | decide)) (by omega) (by omega) (by omega) dX9_field_191 (fun H locs hw hS => ?_)
                            obtain ⟨X57, hX57⟩ : ∃ Xq, Xq = u3 Xa 56 0 ((5 * x) + (X 44 0 t)) (-1) := ⟨_, rfl⟩
                            rw [← hX57] at hw
                            have hRX57 : Rng X57 := by rw [hX57]; exact rng_set hRXa (show (-9223372036854775808) ≤ (-1) ∧ (-1) ≤ 9223372036854775807 by omega)
                            have hVX57 : X57 56 0 ((5 * x) + (X 44 0 t)) = (-1) := by rw [hX57]; exact u3_s _ _ _ _ _
                            have hFX57 : Frm [4001, 4500, 4600, 4700, 4800, 4400, 5600] X X57 := by rw [hX57]; exact Frm.set hFXa (show 5600 ∈ [4001, 4500, 4600, 4700, 4800, 4400, 5600] by first | exact nlm_in rfl | decide)
                            refine lv_iinc (v := jI (x + 1)) (lv' := [(7, .int (jI (x + 1))), (0, .ref (ad 40 0)), (1, .int (jI t)), (2, .int (jI name)), (3, .int (jI lane)), (6, .int (jI (X 44 0 t)))]) hx hb dX9_field_192 hl (k := 5) rfl (jI_add _ _) (by decide) rfl (fun ls hl => ?_)
                            refine lv_goto (tgt := 149) hx hb dX9_field_195 (by decide) ?_
                            have q59 : Frm [5600] X47 X57 := by rw [hX57]; exact Frm.set q900048 (show 5600 ∈ [5600] by first | exact nlm_in rfl | decide)
                            exact ih149 (x + 1) X57 _ _ _ (by omega) hRX57 q59 (by omega) ((by rw [hX57]; exact hFl.step hRXa (by omega) (by rw [hGXa 55 0 x (show 5500 ∉ [5600] by first | exact nlm_ni rfl | decide), hX47, u3_k _ _ _ _ (by first | exact Nat.ne_of_beq_eq_false rfl | decide), hX44, u3_k _ _ _ _ (by first | exact Nat.ne_of_beq_eq_false rfl | decide), hX43, u3_k _ _ _ _ (by first | exact Nat.ne_of_beq_eq_false rfl | decide), hX41, u3_k _ _ _ _ (by first | exact Nat.ne_of_beq_eq_false rfl | decide), hX40, u3_k _ _ _ _ (by first | exact Nat.ne_of_beq_eq_false rfl | decide), hX1, u3_k _ _ _ _ (by first | exact Nat.ne_of_beq_eq_false rfl | decide)]; omega) (by first | exact tyv_none (show 0 ≤ Xa 40 0 13 from (hRXa 40 0 13).1) | (rw [hGXa 46 0 (5 * t + X 44 0 t) (show 4600 ∉ [5600] by first | exact nlm_ni rfl | decide), hX47, u3_k _ _ _ _ (by first | exact Nat.ne_of_beq_eq_false rfl | decide), hX44, u3_k _ _ _ _ (by first | exact Nat.ne_of_beq_eq_false rfl | decide), hX43, u3_k _ _ _ _ (by first | exact Nat.ne_of_beq_eq_false rfl | decide), hVX41, show lane = 0 by omega]; exact tyv_0)))) (fun y a b c => if hy : y = x then (by rw [hy, hVX57]; split <;> omega) else (by rw [hX57, u3_j _ _ _ _ (by omega)]; exact hva y a (by omega) c)) (fun y j a b n => (if q : y = x ∧ j = X 44 0 t then absurd ⟨by omega, by omega, by rw [q.1]; omega, q.2⟩ n else (by rw [hX57, u3_j _ _ _ _ (by omega)]; exact hvo y j a b (fun q9 => n ⟨q9.1, by omega, q9.2.2.1, q9.2.2.2⟩)))) hw hS (lv_sub hl [1, 2, 3, 4, 5, 0] rfl)
                    have q63 : Frm [4001, 4500, 4600, 4700, 4800, 4400] X X43 := by rw [hX43]; exact Frm.set q900051 (show 4700 ∈ [4001, 4500, 4600, 4700, 4800, 4400] by first | exact nlm_in rfl | decide)
                    have q64 : Frm [4001, 4500, 4600, 4700, 4800, 4400] X X44 := by rw [hX44]; exact Frm.set q63 (show 4800 ∈ [4001, 4500, 4600, 4700, 4800, 4400] by first | exact nlm_in rfl | decide)
                    have q65 : Frm [4001, 4500, 4600, 4700, 4800, 4400] X X47 := by rw [hX47]; exact Frm.set q64 (show 4400 ∈ [4001, 4500, 4600, 4700, 4800, 4400] by first | exact nlm_in rfl | decide)
                    exact lp149 (30 - 0 : Int).toNat.succ 0 X47 _ _ _ (by omega) hRX47 Frm.rf (by omega) (Fld.in_field (lane := lane) (v := (-1)) hMI hR (by omega) (by omega) (by omega) (fun q => by omega) q65 (fun j hj => (by rw [hX47, u3_j _ _ _ _ hj, hX44, u3_k _ _ _ _ (by first | exact Nat.ne_of_beq_eq_false rfl | decide), hX43, u3_k _ _ _ _ (by first | exact Nat.ne_of_beq_eq_false rfl | decide), hX41, u3_k _ _ _ _ (by first | exact Nat.ne_of_beq_eq_false rfl | decide), hX40, u3_k _ _ _ _ (by first | exact Nat.ne_of_beq_eq_false rfl | decide), hX1, u3_k _ _ _ _ (by first | exact Nat.ne_of_beq_eq_false rfl | decide)])) hVX47 (fun j hj => ⟨(by rw [hX47, u3_k _ _ _ _ (by first | exact Nat.ne_of_beq_eq_false rfl | decide), hX44, u3_k _ _ _ _ (by first | exact Nat.ne_of_beq_eq_false rfl | decide), hX43, u3_k _ _ _ _ (by first | exact Nat.ne_of_beq_eq_false rfl | decide), hX41, u3_j _ _ _ _ hj, hX40, u3_k _ _ _ _ (by first | exact Nat.ne_of_beq_eq_false rfl | decide), hX1, u3_k _ _ _ _ (by first | exact Nat.ne_of_beq_eq_false rfl | decide)]), (by rw [hX47, u3_k _ _ _ _ (by first | exact Nat.ne_of_beq_eq_false rfl | decide), hX44, u3_k _ _ _ _ (by first | exact Nat.ne_of_beq_eq_false rfl | decide), hX43, u3_j _ _ _ _ hj, hX41, u3_k _ _ _ _ (by first | exact Nat.ne_of_beq_eq_false rfl | decide), hX40, u3_k _ _ _ _ (by first | exact Nat.ne_of_beq_eq_false rfl | decide), hX1, u3_k _ _ _ _ (by first | exact Nat.ne_of_beq_eq_false rfl | decide)])⟩) ⟨(by rw [hX47, u3_k _ _ _ _ (by first | exact Nat.ne_of_beq_eq_false rfl | decide), hX44, u3_k _ _ _ _ (by first | exact Nat.ne_of_beq_eq_false rfl | decide), hX43, u3_k _ _ _ _ (by first | exact Nat.ne_of_beq_eq_false rfl | decide)]; exact hVX41), (by rw [hX47, u3_k _ _ _ _ (by first | exact Nat.ne_of_beq_eq_false rfl | decide), hX44, u3_k _ _ _ _ (by first | exact Nat.ne_of_beq_eq_false rfl | decide)]; exact hVX43)⟩) (fun y a b => by omega) (fun y j _ _ _ => (by rw [hX47, u3_k _ _ _ _ (by first | exact Nat.ne_of_beq_eq_false rfl | decide), hX44, u3_k _ _ _ _ (by first | exact Nat.ne_of_beq_eq_false rfl | decide), hX43, u3_k _ _ _ _ (by first | exact Nat.ne_of_beq_eq_false rfl | decide), hX41, u3_k _ _ _ _ (by first | exact Nat.ne_of_beq_eq_false rfl | decide), hX40, u3_k _ _ _ _ (by first | exact Nat.ne_of_beq_eq_false rfl | decide), hX1, u3_k _ _ _ _ (by first | exact Nat.ne_of_beq_eq_false rfl | decide)])) hw hS (lv_sub hl [2, 3, 4, 5, 1, 0] rfl)
                  · refine lv_lload hx hb dX9_field_115 (lv_at hl 5 rfl) ?_
                    refine lv_goto (tgt := 123) hx hb dX9_field_117 (by decide) ?_
                    refine x_last hx hb hK.1 hw hS (by first | exact Int.le_refl 0 | omega) (by first | exact zlt hc47 | omega) ar_47 (len_E ar_47 (by first | exact Nat.ne_of_beq_eq_false rfl | decide)) (by omega) (by omega) (by omega) dX9_field_123 (fun H locs hw hS => ?_)
                    obtain ⟨X66, hX66⟩ : ∃ Xq, Xq = u3 X41 47 0 ((5 * t) + (X 44 0 t)) v := ⟨_, rfl⟩
                    rw [← hX66] at hw
                    have hRX66 : Rng X66 := by rw [hX66]; exact rng_set hRX41 (show (-9223372036854775808) ≤ v ∧ v ≤ 9223372036854775807 by omega)
                    have hVX66 : X66 47 0 ((5 * t) + (X 44 0 t)) = v := by rw [hX66]; exact u3_s _ _ _ _ _
                    have hFX66 : Frm [4001, 4500, 4600, 4700, 4800, 4400, 5600] X X66 := by rw [hX66]; exact Frm.set hFX41 (show 4700 ∈ [4001, 4500, 4600, 4700, 4800, 4400, 5600] by first | exact nlm_in rfl | decide)
                    refine lv_aload_n hx hb dX9_field_124 rfl (lv_at hl 1 rfl) ?_
                    refine x_geto hx hb hf9 hw (by first | exact Int.le_refl 0 | omega) (by first | exact zlt hc40 | omega) sl_40_7 lk27 dX9_field_125 ?_
                    refine lv_iconst (v := jI 5) hx hb dX9_field_128 rfl ?_
                    refine lv_iload_n hx hb dX9_field_129 rfl (lv_at hl 2 rfl) ?_
                    refine x_imul hx hb dX9_field_130 ?_
                    refine lv_iload hx hb dX9_field_131 (lv_at hl 0 rfl) ?_
                    refine x_iadd hx hb dX9_field_133 ?_
                    refine lv_iconst (v := jI 0) hx hb dX9_field_134 rfl ?_
                    refine x_zast hx hb hK.1 hw hS (by first | exact Int.le_refl 0 | omega) (by first | exact zlt hc48 | omega) ar_48 (len_E ar_48 (by first | exact Nat.ne_of_beq_eq_false rfl | decide)) (by omega) (by omega) (by omega) (by omega) (by omega) dX9_field_135 (fun H locs hw hS => ?_)
                    obtain ⟨X67, hX67⟩ : ∃ Xq, Xq = u3 X66 48 0 ((5 * t) + (X 44 0 t)) 0 := ⟨_, rfl⟩
                    rw [← hX67] at hw
                    have hRX67 : Rng X67 := by rw [hX67]; exact rng_set hRX66 (show 0 ≤ 0 ∧ 0 ≤ 1 by omega)
                    have hVX67 : X67 48 0 ((5 * t) + (X 44 0 t)) = 0 := by rw [hX67]; exact u3_s _ _ _ _ _
                    have hFX67 : Frm [4001, 4500, 4600, 4700, 4800, 4400, 5600] X X67 := by rw [hX67]; exact Frm.set hFX66 (show 4800 ∈ [4001, 4500, 4600, 4700, 4800, 4400, 5600] by first | exact nlm_in rfl | decide)
                    refine lv_aload_n hx hb dX9_field_136 rfl (lv_at hl 1 rfl) ?_
                    refine x_geto hx hb hf9 hw (by first | exact Int.le_refl 0 | omega) (by first | exact zlt hc40 | omega) sl_40_3 lk13 dX9_field_137 ?_
                    refine lv_iload_n hx hb dX9_field_140 rfl (lv_at hl 2 rfl) ?_
                    refine lv_dup2_11 hx hb dX9_field_141 rfl rfl ?_
                    refine x_iald hx hb hK.1 hw (by first | exact Int.le_refl 0 | omega) (by first | exact zlt hc44 | omega) ar_44 (len_E ar_44 (by first | exact Nat.ne_of_beq_eq_false rfl | decide)) (by omega) (by omega) (by omega) dX9_field_142 ?_
                    have e68 : ∀ p9 q9 : Int, X67 44 p9 q9 = X 44 p9 q9 := fun p9 q9 => by rw [hX67, u3_k _ _ _ _ (by first | exact Nat.ne_of_beq_eq_false rfl | decide), hX66, u3_k _ _ _ _ (by first | exact Nat.ne_of_beq_eq_false rfl | decide), hX41, u3_k _ _ _ _ (by first | exact Nat.ne_of_beq_eq_false rfl | decide), hX40, u3_k _ _ _ _ (by first | exact Nat.ne_of_beq_eq_false rfl | decide), hX1, u3_k _ _ _ _ (by first | exact Nat.ne_of_beq_eq_false rfl | decide)]
                    rw [e68 0 t]
                    have f69 : 0 ≤ X 44 0 t ∧ X 44 0 t ≤ 5 := hR 44 0 t
                    refine lv_iconst (v := jI 1) hx hb dX9_field_143 rfl ?_
                    refine x_iadd hx hb dX9_field_144 ?_
                    refine x_iast hx hb hK.1 hw hS (by first | exact Int.le_refl 0 | omega) (by first | exact zlt hc44 | omega) ar_44 (len_E ar_44 (by first | exact Nat.ne_of_beq_eq_false rfl | decide)) (by omega) (by omega) (by omega) dX9_field_145 (fun H locs hw hS => ?_)
                    obtain ⟨X70, hX70⟩ : ∃ Xq, Xq = u3 X67 44 0 t ((X 44 0 t) + 1) := ⟨_, rfl⟩
                    rw [← hX70] at hw
                    have hRX70 : Rng X70 := by rw [hX70]; exact rng_set hRX67 (show 0 ≤ ((X 44 0 t) + 1) ∧ ((X 44 0 t) + 1) ≤ 5 by omega)
                    have hVX70 : X70 44 0 t = ((X 44 0 t) + 1) := by rw [hX70]; exact u3_s _ _ _ _ _
                    have hFX70 : Frm [4001, 4500, 4600, 4700, 4800, 4400, 5600] X X70 := by rw [hX70]; exact Frm.set hFX67 (show 4400 ∈ [4001, 4500, 4600, 4700, 4800, 4400, 5600] by first | exact nlm_in rfl | decide)
                    refine lv_iconst (v := jI 0) hx hb dX9_field_146 rfl ?_
                    refine lv_istore (lv' := [(7, .int (jI 0)), (6, .int (jI (X 44 0 t))), (0, .ref (ad 40 0)), (1, .int (jI t)), (2, .int (jI name)), (3, .int (jI lane)), (4, .long (jL v))]) hx hb dX9_field_147 hl (by decide) rfl (fun ls hl => ?_)
                    have lp149 : ∀ (nn : Nat) (x : Int) (Xa : Nat → Int → Int → Int) (H : Heap) (locs : List Loc) (ls : Array Slot), (30 - x) < (nn : Int) → (Rng Xa) → (Frm [5600] X70 Xa) → (0 ≤ x ∧ x ≤ 30) → (Fld Xa t (X 44 0 t) x) → (∀ y, 0 ≤ y → y < x → X 55 0 y = t → Xa 56 0 (5 * y + X 44 0 t) = (if lane = 0 then v else -1)) → (∀ y j, 0 ≤ j → j ≤ 4 → ¬ (0 ≤ y ∧ y < x ∧ X 55 0 y = t ∧ j = X 44 0 t) → Xa 56 0 (5 * y + j) = X 56 0 (5 * y + j)) → wd D tc base (ad, cnt, Xa, Y, ln) H → va_S (frA base) s.heap H locs → lv_has ls 8 [(0, .ref (ad 40 0)), (1, .int (jI t)), (2, .int (jI name)), (3, .int (jI lane)), (6, .int (jI (X 44 0 t))), (7, .int (jI x))] → W p l e ({ frames := 1, cells := 0, slots := 0, locals := 23 } : Room) s m av9 below meth c H locs 0 0 Q9 (F0 m 149 ls []) := by
                      intro nn
                      induction nn with
                      | zero => intro x Xa H locs ls hm hRXa hGXa hx7 hFl hva hvo hw hS hl; exfalso; omega
                      | succ nn ih149 =>
                        intro x Xa H locs ls hm hRXa hGXa hx7 hFl hva hvo hw hS hl
                        have hFXa : Frm [4001, 4500, 4600, 4700, 4800, 4400, 5600] X Xa := Frm.tr hFX70 (Frm.mono hGXa (by first | exact nls_of rfl | decide))
                        refine lv_iload hx hb dX9_field_149 (lv_at hl 5 rfl) ?_
                        refine lv_aload_n hx hb dX9_field_151 rfl (lv_at hl 0 rfl) ?_
                        refine x_geti (jz := 13) hx hb hf9 hw (by first | exact Int.le_refl 0 | omega) (by first | exact zlt hc40 | omega) sl_40_13 rfl lk151 dX9_field_152 ?_
                        have e71 : Xa 40 0 13 = X 40 0 13 := by rw [hGXa 40 0 13 (show 4014 ∉ [5600] by first | exact nlm_ni rfl | decide), hX70, u3_k _ _ _ _ (by first | exact Nat.ne_of_beq_eq_false rfl | decide), hX67, u3_k _ _ _ _ (by first | exact Nat.ne_of_beq_eq_false rfl | decide), hX66, u3_k _ _ _ _ (by first | exact Nat.ne_of_beq_eq_false rfl | decide), hX41, u3_k _ _ _ _ (by first | exact Nat.ne_of_beq_eq_false rfl | decide), hX40, u3_k _ _ _ _ (by first | exact Nat.ne_of_beq_eq_false rfl | decide), hX1, u3_j _ _ _ _ (by decide)]
                        rw [e71]
                        have f72 : 0 ≤ X 40 0 13 ∧ X 40 0 13 ≤ 30 := hR 40 0 13
                        refine x_icmp_ge (tgt := 198) hx hb (by omega) (by omega) dX9_field_155 (by decide) (fun c73 => ?_) (fun c73 => ?_)
                        · refine lv_iload hx hb dX9_field_198 (lv_at hl 4 rfl) ?_
                          rw [hQ9]
                          refine ret_i (mc := 0) (ms := 0) hx hb hr hlocks hw hS (by first | exact Nat.le_of_ble_eq_true rfl | omega) (by first | exact Nat.le_of_ble_eq_true rfl | omega) dX9_field_200 ?_
                          have e74 : Xa 44 0 t = X 44 0 t + 1 := (by rw [hGXa 44 0 t (show 4400 ∉ [5600] by first | exact nlm_ni rfl | decide)]; exact hVX70)
                          exact ⟨Xa, rfl, hRXa, hFXa, hFl.out (by rw [hGXa 40 0 13 (show 4014 ∉ [5600] by first | exact nlm_ni rfl | decide), hX70, u3_k _ _ _ _ (by first | exact Nat.ne_of_beq_eq_false rfl | decide), hX67, u3_k _ _ _ _ (by first | exact Nat.ne_of_beq_eq_false rfl | decide), hX66, u3_k _ _ _ _ (by first | exact Nat.ne_of_beq_eq_false rfl | decide), hX41, u3_k _ _ _ _ (by first | exact Nat.ne_of_beq_eq_false rfl | decide), hX40, u3_k _ _ _ _ (by first | exact Nat.ne_of_beq_eq_false rfl | decide), hX1, u3_j _ _ _ _ (by decide)]; omega), by omega, (by (try delta Hid at *); first | exact Or.inr (Or.inr (Or.inr (Or.inr ((⟨by omega, by omega, by omega, by omega, by omega, by omega, by omega⟩))))) | omega), fun h => ⟨(by rw [hGXa 45 0 (5 * t + X 44 0 t) (show 4500 ∉ [5600] by first | exact nlm_ni rfl | decide), hX70, u3_k _ _ _ _ (by first | exact Nat.ne_of_beq_eq_false rfl | decide), hX67, u3_k _ _ _ _ (by first | exact Nat.ne_of_beq_eq_false rfl | decide), hX66, u3_k _ _ _ _ (by first | exact Nat.ne_of_beq_eq_false rfl | decide), hX41, u3_k _ _ _ _ (by first | exact Nat.ne_of_beq_eq_false rfl | decide)]; exact hVX40), (by rw [hGXa 46 0 (5 * t + X 44 0 t) (show 4600 ∉ [5600] by first | exact nlm_ni rfl | decide), hX70, u3_k _ _ _ _ (by first | exact Nat.ne_of_beq_eq_false rfl | decide), hX67, u3_k _ _ _ _ (by first | exact Nat.ne_of_beq_eq_false rfl | decide), hX66, u3_k _ _ _ _ (by first | exact Nat.ne_of_beq_eq_false rfl | decide)]; exact hVX41), (by rw [hGXa 47 0 (5 * t + X 44 0 t) (show 4700 ∉ [5600] by first | exact nlm_ni rfl | decide), hX70, u3_k _ _ _ _ (by first | exact Nat.ne_of_beq_eq_false rfl | decide), hX67, u3_k _ _ _ _ (by first | exact Nat.ne_of_beq_eq_false rfl | decide)]; rw [hVX66]; split <;> omega), (by rw [hGXa 48 0 (5 * t + X 44 0 t) (show 4800 ∉ [5600] by first | exact nlm_ni rfl | decide), hX70, u3_k _ _ _ _ (by first | exact Nat.ne_of_beq_eq_false rfl | decide)]; exact hVX67)⟩, fun y h => ⟨(by rw [hGXa 45 0 y (show 4500 ∉ [5600] by first | exact nlm_ni rfl | decide), hX70, u3_k _ _ _ _ (by first | exact Nat.ne_of_beq_eq_false rfl | decide), hX67, u3_k _ _ _ _ (by first | exact Nat.ne_of_beq_eq_false rfl | decide), hX66, u3_k _ _ _ _ (by first | exact Nat.ne_of_beq_eq_false rfl | decide), hX41, u3_k _ _ _ _ (by first | exact Nat.ne_of_beq_eq_false rfl | decide), hX40, u3_j _ _ _ _ (by omega), hX1, u3_k _ _ _ _ (by first | exact Nat.ne_of_beq_eq_false rfl | decide)]), (by rw [hGXa 46 0 y (show 4600 ∉ [5600] by first | exact nlm_ni rfl | decide), hX70, u3_k _ _ _ _ (by first | exact Nat.ne_of_beq_eq_false rfl | decide), hX67, u3_k _ _ _ _ (by first | exact Nat.ne_of_beq_eq_false rfl | decide), hX66, u3_k _ _ _ _ (by first | exact Nat.ne_of_beq_eq_false rfl | decide), hX41, u3_j _ _ _ _ (by omega), hX40, u3_k _ _ _ _ (by first | exact Nat.ne_of_beq_eq_false rfl | decide), hX1, u3_k _ _ _ _ (by first | exact Nat.ne_of_beq_eq_false rfl | decide)]), (by rw [hGXa 47 0 y (show 4700 ∉ [5600] by first | exact nlm_ni rfl | decide), hX70, u3_k _ _ _ _ (by first | exact Nat.ne_of_beq_eq_false rfl | decide), hX67, u3_k _ _ _ _ (by first | exact Nat.ne_of_beq_eq_false rfl | decide), hX66, u3_j _ _ _ _ (by omega), hX41, u3_k _ _ _ _ (by first | exact Nat.ne_of_beq_eq_false rfl | decide), hX40, u3_k _ _ _ _ (by first | exact Nat.ne_of_beq_eq_false rfl | decide), hX1, u3_k _ _ _ _ (by first | exact Nat.ne_of_beq_eq_false rfl | decide)]), (by rw [hGXa 48 0 y (show 4800 ∉ [5600] by first | exact nlm_ni rfl | decide), hX70, u3_k _ _ _ _ (by first | exact Nat.ne_of_beq_eq_false rfl | decide), hX67, u3_j _ _ _ _ (by omega), hX66, u3_k _ _ _ _ (by first | exact Nat.ne_of_beq_eq_false rfl | decide), hX41, u3_k _ _ _ _ (by first | exact Nat.ne_of_beq_eq_false rfl | decide), hX40, u3_k _ _ _ _ (by first | exact Nat.ne_of_beq_eq_false rfl | decide), hX1, u3_k _ _ _ _ (by first | exact Nat.ne_of_beq_eq_false rfl | decide)])⟩, fun y h => (by rw [hGXa 44 0 y (show 4400 ∉ [5600] by first | exact nlm_ni rfl | decide), hX70, u3_j _ _ _ _ h, hX67, u3_k _ _ _ _ (by first | exact Nat.ne_of_beq_eq_false rfl | decide), hX66, u3_k _ _ _ _ (by first | exact Nat.ne_of_beq_eq_false rfl | decide), hX41, u3_k _ _ _ _ (by first | exact Nat.ne_of_beq_eq_false rfl | decide), hX40, u3_k _ _ _ _ (by first | exact Nat.ne_of_beq_eq_false rfl | decide), hX1, u3_k _ _ _ _ (by first | exact Nat.ne_of_beq_eq_false rfl | decide)]), fun _ => ⟨fun y a b e => hva y a (by omega) e, fun y j a b c d e => hvo y j c d (fun q => e ⟨q.2.2.1, q.2.2.2⟩)⟩, fun q => (by exfalso; omega)⟩
                        · refine lv_aload_n hx hb dX9_field_158 rfl (lv_at hl 0 rfl) ?_
                          refine x_geto hx hb hf9 hw (by first | exact Int.le_refl 0 | omega) (by first | exact zlt hc40 | omega) sl_40_14 lk45 dX9_field_159 ?_
                          refine lv_iload hx hb dX9_field_162 (lv_at hl 5 rfl) ?_
                          refine x_iald hx hb hK.1 hw (by first | exact Int.le_refl 0 | omega) (by first | exact zlt hc55 | omega) ar_55 (len_E ar_55 (by first | exact Nat.ne_of_beq_eq_false rfl | decide)) (by omega) (by omega) (by omega) dX9_field_164 ?_
                          have e75 : ∀ p9 q9 : Int, Xa 55 p9 q9 = X 55 p9 q9 := fun p9 q9 => by rw [hGXa 55 p9 q9 (show 5500 ∉ [5600] by first | exact nlm_ni rfl | decide), hX70, u3_k _ _ _ _ (by first | exact Nat.ne_of_beq_eq_false rfl | decide), hX67, u3_k _ _ _ _ (by first | exact Nat.ne_of_beq_eq_false rfl | decide), hX66, u3_k _ _ _ _ (by first | exact Nat.ne_of_beq_eq_false rfl | decide), hX41, u3_k _ _ _ _ (by first | exact Nat.ne_of_beq_eq_false rfl | decide), hX40, u3_k _ _ _ _ (by first | exact Nat.ne_of_beq_eq_false rfl | decide), hX1, u3_k _ _ _ _ (by first | exact Nat.ne_of_beq_eq_false rfl | decide)]
                          rw [e75 0 x]
                          have f76 : 0 ≤ X 55 0 x ∧ X 55 0 x ≤ 7 := hR 55 0 x
                          refine lv_iload_n hx hb dX9_field_165 rfl (lv_at hl 1 rfl) ?_
                          refine x_icmp_ne (tgt := 192) hx hb (by omega) (by omega) dX9_field_166 (by decide) (fun c77 => ?_) (fun c77 => ?_)
                          · refine lv_iinc (v := jI (x + 1)) (lv' := [(7, .int (jI (x + 1))), (0, .ref (ad 40 0)), (1, .int (jI t)), (2, .int (jI name)), (3, .int (jI lane)), (6, .int (jI (X 44 0 t)))]) hx hb dX9_field_192 hl (k := 5) rfl (jI_add _ _) (by decide) rfl (fun ls hl => ?_)
                            refine lv_goto (tgt := 149) hx hb dX9_field_195 (by decide) ?_
                            have q78 : Frm [5600] X70 Xa := Frm.tr Frm.rf (Frm.mono hGXa (by first | exact nls_of rfl | decide))
                            exact ih149 (x + 1) Xa _ _ _ (by omega) hRXa q78 (by omega) (hFl.skip (by rw [hGXa 55 0 x (show 5500 ∉ [5600] by first | exact nlm_ni rfl | decide), hX70, u3_k _ _ _ _ (by first | exact Nat.ne_of_beq_eq_false rfl | decide), hX67, u3_k _ _ _ _ (by first | exact Nat.ne_of_beq_eq_false rfl | decide), hX66, u3_k _ _ _ _ (by first | exact Nat.ne_of_beq_eq_false rfl | decide), hX41, u3_k _ _ _ _ (by first | exact Nat.ne_of_beq_eq_false rfl | decide), hX40, u3_k _ _ _ _ (by first | exact Nat.ne_of_beq_eq_false rfl | decide), hX1, u3_k _ _ _ _ (by first | exact Nat.ne_of_beq_eq_false rfl | decide)]; omega)) (fun y a b c => hva y a (by have : y ≠ x := fun q => (by rw [q] at c; omega); omega) c) (fun y j a b n => hvo y j a b (fun q9 => n ⟨q9.1, by omega, q9.2.2.1, q9.2.2.2⟩)) hw hS (lv_sub hl [1, 2, 3, 4, 5, 0] rfl)
                          · refine lv_aload_n hx hb dX9_field_169 rfl (lv_at hl 0 rfl) ?_
                            refine x_geto hx hb hf9 hw (by first | exact Int.le_refl 0 | omega) (by first | exact zlt hc40 | omega) sl_40_15 lk48 dX9_field_170 ?_
                            refine lv_iconst (v := jI 5) hx hb dX9_field_173 rfl ?_
                            refine lv_iload hx hb dX9_field_174 (lv_at hl 5 rfl) ?_
                            refine x_imul hx hb dX9_field_176 ?_
                            refine lv_iload hx hb dX9_field_177 (lv_at hl 4 rfl) ?_
                            refine x_iadd hx hb dX9_field_179 ?_
                            refine lv_aload_n hx hb dX9_field_180 rfl (lv_at hl 0 rfl) ?_
                            refine x_geto hx hb hf9 hw (by first | exact Int.le_refl 0 | omega) (by first | exact zlt hc40 | omega) sl_40_6 lk23 dX9_field_181 ?_
                            refine lv_iconst (v := jI 5) hx hb dX9_field_184 rfl ?_
                            refine lv_iload_n hx hb dX9_field_185 rfl (lv_at hl 1 rfl) ?_
                            refine x_imul hx hb dX9_field_186 ?_
                            refine lv_iload hx hb dX9_field_187 (lv_at hl 4 rfl) ?_
                            refine x_iadd hx hb dX9_field_189 ?_
                            refine x_lald hx hb hK.1 hw (by first | exact Int.le_refl 0 | omega) (by first | exact zlt hc47 | omega) ar_47 (len_E ar_47 (by first | exact Nat.ne_of_beq_eq_false rfl | decide)) (by omega) (by omega) (by omega) dX9_field_190 ?_
                            have e79 : Xa 47 0 ((5 * t) + (X 44 0 t)) = X66 47 0 ((5 * t) + (X 44 0 t)) := by rw [hGXa 47 0 ((5 * t) + (X 44 0 t)) (show 4700 ∉ [5600] by first | exact nlm_ni rfl | decide), hX70, u3_k _ _ _ _ (by first | exact Nat.ne_of_beq_eq_false rfl | decide), hX67, u3_k _ _ _ _ (by first | exact Nat.ne_of_beq_eq_false rfl | decide)]
                            rw [e79]
                            rw [hVX66]
                            refine x_last hx hb hK.1 hw hS (by first | exact Int.le_refl 0 | omega) (by first | exact zlt hc56 | omega) ar_56 (len_E ar_56 (by first | exact Nat.ne_of_beq_eq_false rfl | decide)) (by omega) (by omega) (by omega) dX9_field_191 (fun H locs hw hS => ?_)
                            obtain ⟨X80, hX80⟩ : ∃ Xq, Xq = u3 Xa 56 0 ((5 * x) + (X 44 0 t)) v := ⟨_, rfl⟩
                            rw [← hX80] at hw
                            have hRX80 : Rng X80 := by rw [hX80]; exact rng_set hRXa (show (-9223372036854775808) ≤ v ∧ v ≤ 9223372036854775807 by omega)
                            have hVX80 : X80 56 0 ((5 * x) + (X 44 0 t)) = v := by rw [hX80]; exact u3_s _ _ _ _ _
                            have hFX80 : Frm [4001, 4500, 4600, 4700, 4800, 4400, 5600] X X80 := by rw [hX80]; exact Frm.set hFXa (show 5600 ∈ [4001, 4500, 4600, 4700, 4800, 4400, 5600] by first | exact nlm_in rfl | decide)
                            refine lv_iinc (v := jI (x + 1)) (lv' := [(7, .int (jI (x + 1))), (0, .ref (ad 40 0)), (1, .int (jI t)), (2, .int (jI name)), (3, .int (jI lane)), (6, .int (jI (X 44 0 t)))]) hx hb dX9_field_192 hl (k := 5) rfl (jI_add _ _) (by decide) rfl (fun ls hl => ?_)
                            refine lv_goto (tgt := 149) hx hb dX9_field_195 (by decide) ?_
                            have q81 : Frm [5600] X70 Xa := Frm.tr Frm.rf (Frm.mono hGXa (by first | exact nls_of rfl | decide))
                            have q82 : Frm [5600] X70 X80 := by rw [hX80]; exact Frm.set q81 (show 5600 ∈ [5600] by first | exact nlm_in rfl | decide)
                            exact ih149 (x + 1) X80 _ _ _ (by omega) hRX80 q82 (by omega) ((by rw [hX80]; exact hFl.step hRXa (by omega) (by rw [hGXa 55 0 x (show 5500 ∉ [5600] by first | exact nlm_ni rfl | decide), hX70, u3_k _ _ _ _ (by first | exact Nat.ne_of_beq_eq_false rfl | decide), hX67, u3_k _ _ _ _ (by first | exact Nat.ne_of_beq_eq_false rfl | decide), hX66, u3_k _ _ _ _ (by first | exact Nat.ne_of_beq_eq_false rfl | decide), hX41, u3_k _ _ _ _ (by first | exact Nat.ne_of_beq_eq_false rfl | decide), hX40, u3_k _ _ _ _ (by first | exact Nat.ne_of_beq_eq_false rfl | decide), hX1, u3_k _ _ _ _ (by first | exact Nat.ne_of_beq_eq_false rfl | decide)]; omega) (by first | exact tyv_none (show 0 ≤ Xa 40 0 13 from (hRXa 40 0 13).1) | (rw [hGXa 46 0 (5 * t + X 44 0 t) (show 4600 ∉ [5600] by first | exact nlm_ni rfl | decide), hX70, u3_k _ _ _ _ (by first | exact Nat.ne_of_beq_eq_false rfl | decide), hX67, u3_k _ _ _ _ (by first | exact Nat.ne_of_beq_eq_false rfl | decide), hX66, u3_k _ _ _ _ (by first | exact Nat.ne_of_beq_eq_false rfl | decide), hVX41, show lane = 0 by omega]; exact tyv_0)))) (fun y a b c => if hy : y = x then (by rw [hy, hVX80]; split <;> omega) else (by rw [hX80, u3_j _ _ _ _ (by omega)]; exact hva y a (by omega) c)) (fun y j a b n => (if q : y = x ∧ j = X 44 0 t then absurd ⟨by omega, by omega, by rw [q.1]; omega, q.2⟩ n else (by rw [hX80, u3_j _ _ _ _ (by omega)]; exact hvo y j a b (fun q9 => n ⟨q9.1, by omega, q9.2.2.1, q9.2.2.2⟩)))) hw hS (lv_sub hl [1, 2, 3, 4, 5, 0] rfl)
                    have q86 : Frm [4001, 4500, 4600, 4700, 4800, 4400] X X66 := by rw [hX66]; exact Frm.set q900051 (show 4700 ∈ [4001, 4500, 4600, 4700, 4800, 4400] by first | exact nlm_in rfl | decide)
                    have q87 : Frm [4001, 4500, 4600, 4700, 4800, 4400] X X67 := by rw [hX67]; exact Frm.set q86 (show 4800 ∈ [4001, 4500, 4600, 4700, 4800, 4400] by first | exact nlm_in rfl | decide)
                    have q88 : Frm [4001, 4500, 4600, 4700, 4800, 4400] X X70 := by rw [hX70]; exact Frm.set q87 (show 4400 ∈ [4001, 4500, 4600, 4700, 4800, 4400] by first | exact nlm_in rfl | decide)
                    exact lp149 (30 - 0 : Int).toNat.succ 0 X70 _ _ _ (by omega) hRX70 Frm.rf (by omega) (Fld.in_field (lane := lane) (v := v) hMI hR (by omega) (by omega) (by omega) (fun q => by omega) q88 (fun j hj => (by rw [hX70, u3_j _ _ _ _ hj, hX67, u3_k _ _ _ _ (by first | exact Nat.ne_of_beq_eq_false rfl | decide), hX66, u3_k _ _ _ _ (by first | exact Nat.ne_of_beq_eq_false rfl | decide), hX41, u3_k _ _ _ _ (by first | exact Nat.ne_of_beq_eq_false rfl | decide), hX40, u3_k _ _ _ _ (by first | exact Nat.ne_of_beq_eq_false rfl | decide), hX1, u3_k _ _ _ _ (by first | exact Nat.ne_of_beq_eq_false rfl | decide)])) hVX70 (fun j hj => ⟨(by rw [hX70, u3_k _ _ _ _ (by first | exact Nat.ne_of_beq_eq_false rfl | decide), hX67, u3_k _ _ _ _ (by first | exact Nat.ne_of_beq_eq_false rfl | decide), hX66, u3_k _ _ _ _ (by first | exact Nat.ne_of_beq_eq_false rfl | decide), hX41, u3_j _ _ _ _ hj, hX40, u3_k _ _ _ _ (by first | exact Nat.ne_of_beq_eq_false rfl | decide), hX1, u3_k _ _ _ _ (by first | exact Nat.ne_of_beq_eq_false rfl | decide)]), (by rw [hX70, u3_k _ _ _ _ (by first | exact Nat.ne_of_beq_eq_false rfl | decide), hX67, u3_k _ _ _ _ (by first | exact Nat.ne_of_beq_eq_false rfl | decide), hX66, u3_j _ _ _ _ hj, hX41, u3_k _ _ _ _ (by first | exact Nat.ne_of_beq_eq_false rfl | decide), hX40, u3_k _ _ _ _ (by first | exact Nat.ne_of_beq_eq_false rfl | decide), hX1, u3_k _ _ _ _ (by first | exact Nat.ne_of_beq_eq_false rfl | decide)])⟩) ⟨(by rw [hX70, u3_k _ _ _ _ (by first | exact Nat.ne_of_beq_eq_false rfl | decide), hX67, u3_k _ _ _ _ (by first | exact Nat.ne_of_beq_eq_false rfl | decide), hX66, u3_k _ _ _ _ (by first | exact Nat.ne_of_beq_eq_false rfl | decide)]; exact hVX41), (by rw [hX70, u3_k _ _ _ _ (by first | exact Nat.ne_of_beq_eq_false rfl | decide), hX67, u3_k _ _ _ _ (by first | exact Nat.ne_of_beq_eq_false rfl | decide)]; exact hVX66)⟩) (fun y a b => by omega) (fun y j _ _ _ => (by rw [hX70, u3_k _ _ _ _ (by first | exact Nat.ne_of_beq_eq_false rfl | decide), hX67, u3_k _ _ _ _ (by first | exact Nat.ne_of_beq_eq_false rfl | decide), hX66, u3_k _ _ _ _ (by first | exact Nat.ne_of_beq_eq_false rfl | decide), hX41, u3_k _ _ _ _ (by first | exact Nat.ne_of_beq_eq_false rfl | decide), hX40, u3_k _ _ _ _ (by first | exact Nat.ne_of_beq_eq_false rfl | decide), hX1, u3_k _ _ _ _ (by first | exact Nat.ne_of_beq_eq_false rfl | decide)])) hw hS (lv_sub hl [2, 3, 4, 5, 1, 0] rfl)
                · refine lv_bipush (v := jI (-4)) hx hb dX9_field_66 (by decide) ?_
                  rw [hQ9]
                  refine ret_i (mc := 0) (ms := 0) hx hb hr hlocks hw hS (by first | exact Nat.le_of_ble_eq_true rfl | omega) (by first | exact Nat.le_of_ble_eq_true rfl | omega) dX9_field_68 ?_
                  have hMq89 : MInv X1 := minv_frm hMI q900047 (by decide)
                  have e91 : X1 44 0 t = X 44 0 t := (by rw [hX1, u3_k _ _ _ _ (by first | exact Nat.ne_of_beq_eq_false rfl | decide)])
                  exact ⟨X1, rfl, hRX1, hFX1, hMq89, by omega, (by (try delta Hid at *); first | exact Or.inr (Or.inr (Or.inr (Or.inl ⟨by omega, by omega, by omega, by omega, by omega, by omega, by omega⟩))) | exact Or.inr (Or.inr (Or.inr (Or.inr ((⟨by omega, by omega, by omega, by omega, by omega, by omega, by omega⟩))))) | omega), fun h => (by exfalso; omega), fun y h => ⟨(by rw [hX1, u3_k _ _ _ _ (by first | exact Nat.ne_of_beq_eq_false rfl | decide)]), (by rw [hX1, u3_k _ _ _ _ (by first | exact Nat.ne_of_beq_eq_false rfl | decide)]), (by rw [hX1, u3_k _ _ _ _ (by first | exact Nat.ne_of_beq_eq_false rfl | decide)]), (by rw [hX1, u3_k _ _ _ _ (by first | exact Nat.ne_of_beq_eq_false rfl | decide)])⟩, fun y h => (by rw [hX1, u3_k _ _ _ _ (by first | exact Nat.ne_of_beq_eq_false rfl | decide)]), fun q => (by exfalso; omega), fun _ => q900047⟩
              · refine lv_bipush (v := jI (-3)) hx hb dX9_field_53 (by decide) ?_
                rw [hQ9]
                refine ret_i (mc := 0) (ms := 0) hx hb hr hlocks hw hS (by first | exact Nat.le_of_ble_eq_true rfl | omega) (by first | exact Nat.le_of_ble_eq_true rfl | omega) dX9_field_55 ?_
                have hMq93 : MInv X1 := minv_frm hMI q900047 (by decide)
                have e95 : X1 44 0 t = X 44 0 t := (by rw [hX1, u3_k _ _ _ _ (by first | exact Nat.ne_of_beq_eq_false rfl | decide)])
                exact ⟨X1, rfl, hRX1, hFX1, hMq93, by omega, (by (try delta Hid at *); first | exact Or.inr (Or.inr (Or.inl ⟨by omega, by omega, by omega, by omega, by omega, by omega⟩)) | exact Or.inr (Or.inr (Or.inr (Or.inr ((⟨by omega, by omega, by omega, by omega, by omega, by omega, by omega⟩))))) | omega), fun h => (by exfalso; omega), fun y h => ⟨(by rw [hX1, u3_k _ _ _ _ (by first | exact Nat.ne_of_beq_eq_false rfl | decide)]), (by rw [hX1, u3_k _ _ _ _ (by first | exact Nat.ne_of_beq_eq_false rfl | decide)]), (by rw [hX1, u3_k _ _ _ _ (by first | exact Nat.ne_of_beq_eq_false rfl | decide)]), (by rw [hX1, u3_k _ _ _ _ (by first | exact Nat.ne_of_beq_eq_false rfl | decide)])⟩, fun y h => (by rw [hX1, u3_k _ _ _ _ (by first | exact Nat.ne_of_beq_eq_false rfl | decide)]), fun q => (by exfalso; omega), fun _ => q900047⟩
            · refine lv_bipush (v := jI (-2)) hx hb dX9_field_43 (by decide) ?_
              rw [hQ9]
              refine ret_i (mc := 0) (ms := 0) hx hb hr hlocks hw hS (by first | exact Nat.le_of_ble_eq_true rfl | omega) (by first | exact Nat.le_of_ble_eq_true rfl | omega) dX9_field_45 ?_
              have hMq97 : MInv X1 := minv_frm hMI q900047 (by decide)
              have e99 : X1 44 0 t = X 44 0 t := (by rw [hX1, u3_k _ _ _ _ (by first | exact Nat.ne_of_beq_eq_false rfl | decide)])
              exact ⟨X1, rfl, hRX1, hFX1, hMq97, by omega, (by (try delta Hid at *); first | exact Or.inr (Or.inl ⟨by omega, by omega, (fun q => by omega), by omega, by omega⟩) | exact Or.inr (Or.inr (Or.inr (Or.inr ((⟨by omega, by omega, by omega, by omega, by omega, by omega, by omega⟩))))) | omega), fun h => (by exfalso; omega), fun y h => ⟨(by rw [hX1, u3_k _ _ _ _ (by first | exact Nat.ne_of_beq_eq_false rfl | decide)]), (by rw [hX1, u3_k _ _ _ _ (by first | exact Nat.ne_of_beq_eq_false rfl | decide)]), (by rw [hX1, u3_k _ _ _ _ (by first | exact Nat.ne_of_beq_eq_false rfl | decide)]), (by rw [hX1, u3_k _ _ _ _ (by first | exact Nat.ne_of_beq_eq_false rfl | decide)])⟩, fun y h => (by rw [hX1, u3_k _ _ _ _ (by first | exact Nat.ne_of_beq_eq_false rfl | decide)]), fun q => (by exfalso; omega), fun _ => q900047⟩
  · subst ez2
    refine x_if_neF (tgt := 15) hx hb (by omega) (by decide) dX9_field_10 (by decide) ?_
    refine lv_iconst (v := jI (-1)) hx hb dX9_field_13 rfl ?_
    rw [hQ9]
    refine ret_i (mc := 0) (ms := 0) hx hb hr hlocks hw hS (by first | exact Nat.le_of_ble_eq_true rfl | omega) (by first | exact Nat.le_of_ble_eq_true rfl | omega) dX9_field_14 ?_
    have hMq101 : MInv X1 := minv_frm hMI q900047 (by decide)
    have e103 : X1 44 0 t = X 44 0 t := (by rw [hX1, u3_k _ _ _ _ (by first | exact Nat.ne_of_beq_eq_false rfl | decide)])
    exact ⟨X1, rfl, hRX1, hFX1, hMq101, by omega, (by (try delta Hid at *); first | exact Or.inl ⟨(fun q => by omega), by omega, by omega⟩ | exact Or.inr (Or.inr (Or.inr (Or.inr ((⟨by omega, by omega, by omega, by omega, by omega, by omega, by omega⟩))))) | omega), fun h => (by exfalso; omega), fun y h => ⟨(by rw [hX1, u3_k _ _ _ _ (by first | exact Nat.ne_of_beq_eq_false rfl | decide)]), (by rw [hX1, u3_k _ _ _ _ (by first | exact Nat.ne_of_beq_eq_false rfl | decide)]), (by rw [hX1, u3_k _ _ _ _ (by first | exact Nat.ne_of_beq_eq_false rfl | decide)]), (by rw [hX1, u3_k _ _ _ _ (by first | exact Nat.ne_of_beq_eq_false rfl | decide)])⟩, fun y h => (by rw [hX1, u3_k _ _ _ _ (by first | exact Nat.ne_of_beq_eq_false rfl | decide)]), fun q => (by exfalso; omega), fun _ => q900047⟩

set_option maxHeartbeats 4000000 in
set_option maxRecDepth 100000 in
theorem c_X9_item (l : Launch) (D : va_G) (tc : Nat → ClassId) (base : Nat) (ad : Nat → Int → Nat) (cnt : Nat → Int) (X : Nat → Int → Int → Int) (Y : Nat → Int → Int → Option Int) (ln : Int → Int) (hR : Rng X) (hFx : Fx cnt) (hMI : MInv X) (x k i v : Int) (hx : -2147483648 ≤ x ∧ x ≤ 2147483647) (hk : -2147483648 ≤ k ∧ k ≤ 2147483647) (hi : -2147483648 ≤ i ∧ i ≤ 2147483647) (hv : -9223372036854775808 ≤ v ∧ v ≤ 9223372036854775807) : KI l D tc base yX9_item wsX9_item ({ frames := 2, cells := 0, slots := 0, locals := 43 } : Room) [.ref (ad 40 0), .int (jI x), .int (jI k), .int (jI i), .long (jL v)] (ad, cnt, X, Y, ln) 0 0 (fun z u => ∃ X1 : Nat → Int → Int → Int, u = (ad, cnt, X1, Y, ln) ∧ Rng X1 ∧ Frm [4001, 6600, 6700, 6800, 4023, 5900] X X1 ∧ MInv X1 ∧ (-2147483648 ≤ z ∧ z ≤ 2147483647) ∧ ((¬ (0 ≤ x ∧ x < X 40 0 13 ∧ 0 ≤ k ∧ k < X 44 0 (X 55 0 x)) ∧ z = -1) ∨ ((0 ≤ x ∧ x < X 40 0 13 ∧ 0 ≤ k ∧ k < X 44 0 (X 55 0 x)) ∧ X 46 0 (5 * X 55 0 x + k) < 3 ∧ z = -14) ∨ ((0 ≤ x ∧ x < X 40 0 13 ∧ 0 ≤ k ∧ k < X 44 0 (X 55 0 x)) ∧ 3 ≤ X 46 0 (5 * X 55 0 x + k) ∧ (X 56 0 (5 * x + k) < 0) ∧ z = -11) ∨ ((0 ≤ x ∧ x < X 40 0 13 ∧ 0 ≤ k ∧ k < X 44 0 (X 55 0 x)) ∧ 3 ≤ X 46 0 (5 * X 55 0 x + k) ∧ ¬ (X 56 0 (5 * x + k) < 0) ∧ ¬ (0 ≤ i ∧ i < X 58 0 (X 56 0 (5 * x + k))) ∧ z = -12) ∨ ((0 ≤ x ∧ x < X 40 0 13 ∧ 0 ≤ k ∧ k < X 44 0 (X 55 0 x)) ∧ 3 ≤ X 46 0 (5 * X 55 0 x + k) ∧ ¬ (X 56 0 (5 * x + k) < 0) ∧ (0 ≤ i ∧ i < X 58 0 (X 56 0 (5 * x + k))) ∧ (0 < X 40 0 20 ∧ X 40 0 22 = 80) ∧ z = -4) ∨ ((0 ≤ x ∧ x < X 40 0 13 ∧ 0 ≤ k ∧ k < X 44 0 (X 55 0 x)) ∧ 3 ≤ X 46 0 (5 * X 55 0 x + k) ∧ ¬ (X 56 0 (5 * x + k) < 0) ∧ (0 ≤ i ∧ i < X 58 0 (X 56 0 (5 * x + k))) ∧ (X 40 0 20 = 0 ∨ X 40 0 22 ≤ 79) ∧ z = 1)) ∧ (z < 0 → Frm [4001] X X1) ∧ (z = 1 → eNoteM X X1 (X 64 0 (X 40 0 22)) (X 65 0 (X 40 0 22)) (X 56 0 (5 * x + k)) i (X 59 0 (12 * X 56 0 (5 * x + k) + i)) ∧ X1 59 0 (12 * X 56 0 (5 * x + k) + i) = cutZ (X 57 0 (X 56 0 (5 * x + k))) v ∧ ∀ p, p ≠ 12 * X 56 0 (5 * x + k) + i → X1 59 0 p = X 59 0 p)) := by
  refine K_of (cc := cX9_item) (maxL := 7) (ret := (some .int)) (by decide) rfl (Nat.le_of_ble_eq_true rfl) ?_
  intro p e s m below meth c ls hx hb hr hml hown hts hlocks hl hK hw hS
  have hown : s.vm.findClass RX9 = some m.cls := hown
  obtain ⟨av9, hav9⟩ : ∃ a9 : Array Value, a9 = ([.ref (ad 40 0), .int (jI x), .int (jI k), .int (jI i), .long (jL v)] : List Value).toArray := ⟨_, rfl⟩
  rw [← hav9] at hts ⊢
  obtain ⟨Q9, hQ9⟩ : ∃ q9Q : State → Prop, q9Q = MQ below (QI D tc base (fun z u => ∃ X1 : Nat → Int → Int → Int, u = (ad, cnt, X1, Y, ln) ∧ Rng X1 ∧ Frm [4001, 6600, 6700, 6800, 4023, 5900] X X1 ∧ MInv X1 ∧ (-2147483648 ≤ z ∧ z ≤ 2147483647) ∧ ((¬ (0 ≤ x ∧ x < X 40 0 13 ∧ 0 ≤ k ∧ k < X 44 0 (X 55 0 x)) ∧ z = -1) ∨ ((0 ≤ x ∧ x < X 40 0 13 ∧ 0 ≤ k ∧ k < X 44 0 (X 55 0 x)) ∧ X 46 0 (5 * X 55 0 x + k) < 3 ∧ z = -14) ∨ ((0 ≤ x ∧ x < X 40 0 13 ∧ 0 ≤ k ∧ k < X 44 0 (X 55 0 x)) ∧ 3 ≤ X 46 0 (5 * X 55 0 x + k) ∧ (X 56 0 (5 * x + k) < 0) ∧ z = -11) ∨ ((0 ≤ x ∧ x < X 40 0 13 ∧ 0 ≤ k ∧ k < X 44 0 (X 55 0 x)) ∧ 3 ≤ X 46 0 (5 * X 55 0 x + k) ∧ ¬ (X 56 0 (5 * x + k) < 0) ∧ ¬ (0 ≤ i ∧ i < X 58 0 (X 56 0 (5 * x + k))) ∧ z = -12) ∨ ((0 ≤ x ∧ x < X 40 0 13 ∧ 0 ≤ k ∧ k < X 44 0 (X 55 0 x)) ∧ 3 ≤ X 46 0 (5 * X 55 0 x + k) ∧ ¬ (X 56 0 (5 * x + k) < 0) ∧ (0 ≤ i ∧ i < X 58 0 (X 56 0 (5 * x + k))) ∧ (0 < X 40 0 20 ∧ X 40 0 22 = 80) ∧ z = -4) ∨ ((0 ≤ x ∧ x < X 40 0 13 ∧ 0 ≤ k ∧ k < X 44 0 (X 55 0 x)) ∧ 3 ≤ X 46 0 (5 * X 55 0 x + k) ∧ ¬ (X 56 0 (5 * x + k) < 0) ∧ (0 ≤ i ∧ i < X 58 0 (X 56 0 (5 * x + k))) ∧ (X 40 0 20 = 0 ∨ X 40 0 22 ≤ 79) ∧ z = 1)) ∧ (z < 0 → Frm [4001] X X1) ∧ (z = 1 → eNoteM X X1 (X 64 0 (X 40 0 22)) (X 65 0 (X 40 0 22)) (X 56 0 (5 * x + k)) i (X 59 0 (12 * X 56 0 (5 * x + k) + i)) ∧ X1 59 0 (12 * X 56 0 (5 * x + k) + i) = cutZ (X 57 0 (X 56 0 (5 * x + k))) v ∧ ∀ p, p ≠ 12 * X 56 0 (5 * x + k) + i → X1 59 0 p = X 59 0 p))) av9 s 0 0 (frA base) := ⟨_, rfl⟩
  rw [← hQ9]
  have hi9 : ∀ w ∈ wsX90, w ∈ wsX9_item := fun w h => List.mem_cons_of_mem _ (List.mem_append_right _ h)
  have hf9 : fctx s m _ RX9 wsX9_item D tc RX9 TX9 51 9 := ⟨hts, hi9, hown, hK.1, rfl⟩
  have lk48 := hts (.fieldLink RX9 48 (TX9 15).1 (TX9 15).2.1 (TX9 15).2.2.1) (gj_X9_item_0 _ (gp_1 gp_h))
  have lk51 := hts (.fieldLink RX9 51 (TX9 16).1 (TX9 16).2.1 (TX9 16).2.2.1) (gj_X9_item_0 _ (gp_4 (gp_4 (gp_1 gp_h))))
  have lk54 := hts (.fieldLink RX9 54 (TX9 17).1 (TX9 17).2.1 (TX9 17).2.2.1) (gj_X9_item_0 _ (gp_1 (gp_1 gp_h)))
  have lk57 := hts (.fieldLink RX9 57 (TX9 18).1 (TX9 18).2.1 (TX9 18).2.2.1) (gj_X9_item_0 _ (gp_4 (gp_4 gp_h)))
  have lk72 := hts (.fieldLink RX9 72 (TX9 25).1 (TX9 25).2.1 (TX9 25).2.2.1) (gj_X9_item_0 _ (gp_4 gp_h))
  have lk75 := hts (.fieldLink RX9 75 (TX9 26).1 (TX9 26).2.1 (TX9 26).2.2.1) (gj_X9_item_0 _ (gp_4 (gp_1 (gp_1 gp_h))))
  have lk78 := hts (.fieldLink RX9 78 (TX9 27).1 (TX9 27).2.1 (TX9 27).2.2.1) (gj_X9_item_0 _ (gp_4 (gp_1 (gp_1 (gp_1 gp_h)))))
  have lk145 := hts (.fieldLink RX9 145 (TX9 0).1 (TX9 0).2.1 (TX9 0).2.2.1) (gj_X9_item_0 _ (gp_h))
  have lk165 := hts (.fieldLink RX9 165 (TX9 20).1 (TX9 20).2.1 (TX9 20).2.2.1) (gj_X9_item_0 _ (gp_1 (gp_1 (gp_1 gp_h))))
  have lk173 := hts (.fieldLink RX9 173 (TX9 22).1 (TX9 22).2.1 (TX9 22).2.2.1) (gj_X9_item_0 _ (gp_4 (gp_1 gp_h)))
  have hc40 : cnt 40 = 1 := hFx.at 40 1 (by decide)
  have hc56 : cnt 56 = 1 := hFx.at 56 1 (by decide)
  have hc57 : cnt 57 = 1 := hFx.at 57 1 (by decide)
  have hc58 : cnt 58 = 1 := hFx.at 58 1 (by decide)
  have hc59 : cnt 59 = 1 := hFx.at 59 1 (by decide)
  have hc66 : cnt 66 = 1 := hFx.at 66 1 (by decide)
  have hc67 : cnt 67 = 1 := hFx.at 67 1 (by decide)
  have hc68 : cnt 68 = 1 := hFx.at 68 1 (by decide)
  have hl : lv_has ls 7 [(0, .ref (ad 40 0)), (1, .int (jI x)), (2, .int (jI k)), (3, .int (jI i)), (4, .long (jL v))] := hl
  have fstypes : 0 ≤ X 40 0 2 ∧ X 40 0 2 ≤ 8 := hR 40 0 2
  have fsthings : 0 ≤ X 40 0 13 ∧ X 40 0 13 ≤ 30 := hR 40 0 13
  have fsmarks : 0 ≤ X 40 0 20 ∧ X 40 0 20 ≤ 4 := hR 40 0 20
  have fsnotes : 0 ≤ X 40 0 22 ∧ X 40 0 22 ≤ 80 := hR 40 0 22
  refine lv_aload_n hx hb dX9_item_0 rfl (lv_at hl 0 rfl) ?_
  refine lv_iconst (v := jI 0) hx hb dX9_item_1 rfl ?_
  refine x_puti (jz := 0) hx hb hf9 ⟨tyX9_ok, nmX9⟩ hw hS (by first | exact Int.le_refl 0 | omega) (by first | exact zlt hc40 | omega) sl_40_0 rfl lk145 rfl (tyX9_ok 0 (by decide)) rfl rfl dX9_item_2 (fun H locs hw hS => ?_)
  obtain ⟨X1, hX1⟩ : ∃ Xq, Xq = u3 X 40 0 0 0 := ⟨_, rfl⟩
  rw [← hX1] at hw
  have hRX1 : Rng X1 := by rw [hX1]; exact rng_set hR (show (-2147483648) ≤ 0 ∧ 0 ≤ 2147483647 by omega)
  have hVX1 : X1 40 0 0 = 0 := by rw [hX1]; exact u3_s _ _ _ _ _
  have hFX1 : Frm [4001, 6600, 6700, 6800, 4023, 5900] X X1 := by rw [hX1]; exact Frm.set Frm.rf (show 4001 ∈ [4001, 6600, 6700, 6800, 4023, 5900] by first | exact nlm_in rfl | decide)
  refine lv_aload_n hx hb dX9_item_5 rfl (lv_at hl 0 rfl) ?_
  refine lv_iload_n hx hb dX9_item_6 rfl (lv_at hl 1 rfl) ?_
  refine lv_iload_n hx hb dX9_item_7 rfl (lv_at hl 2 rfl) ?_
  refine gos_i (run_V (As := [.int (jI x), .int (jI k)]) (rest := []) hx hb hml hown hts (c_X9_isField l D tc base ad cnt X1 Y ln hRX1 hFx x k (by omega) (by omega)) (cwV 2 hts gX9_item_X9_isField rfl rfl rfl (by first | exact hd_X9_isField | decide +kernel) ⟨Nat.le_of_ble_eq_true rfl, Nat.le_of_ble_eq_true rfl⟩) hK hw (by first | exact Int.le_refl 0 | omega) (by first | exact zlt hc40 | omega) sl_40_0 rfl rfl hl.1 rfl (Nat.le_of_ble_eq_true rfl) dX9_item_8 ⟨Nat.le_of_ble_eq_true rfl, Nat.le_of_ble_eq_true rfl⟩) hS (fun z2 u3 H locs p4 hw hS => ?_)
  obtain ⟨eu3, p4⟩ := p4
  subst eu3
  have e5 : X1 40 0 13 = X 40 0 13 := by rw [hX1, u3_j _ _ _ _ (by decide)]
  have e6 : ∀ j : Int, X1 55 0 j = X 55 0 j := fun j => by rw [hX1, u3_k _ _ _ _ (by first | exact Nat.ne_of_beq_eq_false rfl | decide)]
  have e7 : ∀ j : Int, X1 44 0 j = X 44 0 j := fun j => by rw [hX1, u3_k _ _ _ _ (by first | exact Nat.ne_of_beq_eq_false rfl | decide)]
  simp only [e5, e6, e7] at p4
  have q900055 : Frm [4001] X X1 := by rw [hX1]; exact Frm.set Frm.rf (show 4001 ∈ [4001] by first | exact nlm_in rfl | decide)
  rcases p4 with ⟨ez2, p4⟩ | ⟨ez2, p4⟩
  · subst ez2
    refine x_if_neT (tgt := 16) hx hb (by omega) (by decide) dX9_item_11 (by decide) ?_
    refine lv_aload_n hx hb dX9_item_16 rfl (lv_at hl 0 rfl) ?_
    refine lv_iload_n hx hb dX9_item_17 rfl (lv_at hl 1 rfl) ?_
    refine lv_iload_n hx hb dX9_item_18 rfl (lv_at hl 2 rfl) ?_
    refine gos_i (run_V (As := [.int (jI x), .int (jI k)]) (rest := []) hx hb hml hown hts (c_X9_lane l D tc base ad cnt X1 Y ln hRX1 hFx x k (by omega) (by omega)) (cwV 2 hts gX9_item_X9_lane rfl rfl rfl (by first | exact hd_X9_lane | decide +kernel) ⟨Nat.le_of_ble_eq_true rfl, Nat.le_of_ble_eq_true rfl⟩) hK hw (by first | exact Int.le_refl 0 | omega) (by first | exact zlt hc40 | omega) sl_40_0 rfl rfl hl.1 rfl (Nat.le_of_ble_eq_true rfl) dX9_item_19 ⟨Nat.le_of_ble_eq_true rfl, Nat.le_of_ble_eq_true rfl⟩) hS (fun z8 u9 H locs p10 hw hS => ?_)
    obtain ⟨eu9, p10⟩ := p10
    subst eu9
    have e11 : ∀ j : Int, X1 55 0 j = X 55 0 j := fun j => by rw [hX1, u3_k _ _ _ _ (by first | exact Nat.ne_of_beq_eq_false rfl | decide)]
    have e12 : ∀ j : Int, X1 46 0 j = X 46 0 j := fun j => by rw [hX1, u3_k _ _ _ _ (by first | exact Nat.ne_of_beq_eq_false rfl | decide)]
    simp only [e11, e12] at p10
    refine lv_iconst (v := jI 3) hx hb dX9_item_22 rfl ?_
    refine x_icmp_ge (tgt := 29) hx hb (by omega) (by omega) dX9_item_23 (by decide) (fun c13 => ?_) (fun c13 => ?_)
    · refine lv_aload_n hx hb dX9_item_29 rfl (lv_at hl 0 rfl) ?_
      refine x_geto hx hb hf9 hw (by first | exact Int.le_refl 0 | omega) (by first | exact zlt hc40 | omega) sl_40_15 lk48 dX9_item_30 ?_
      refine lv_iconst (v := jI 5) hx hb dX9_item_33 rfl ?_
      refine lv_iload_n hx hb dX9_item_34 rfl (lv_at hl 1 rfl) ?_
      refine x_imul hx hb dX9_item_35 ?_
      refine lv_iload_n hx hb dX9_item_36 rfl (lv_at hl 2 rfl) ?_
      refine x_iadd hx hb dX9_item_37 ?_
      obtain ⟨hy1, hy2, hy3⟩ := hMI.1 x k (by omega) (by omega) (by omega) (by omega)
      refine x_lald hx hb hK.1 hw (by first | exact Int.le_refl 0 | omega) (by first | exact zlt hc56 | omega) ar_56 (len_E ar_56 (by first | exact Nat.ne_of_beq_eq_false rfl | decide)) (by omega) (by omega) (by omega) dX9_item_38 ?_
      have e14 : ∀ p9 q9 : Int, X1 56 p9 q9 = X 56 p9 q9 := fun p9 q9 => by rw [hX1, u3_k _ _ _ _ (by first | exact Nat.ne_of_beq_eq_false rfl | decide)]
      rw [e14 0 ((5 * x) + k)]
      have f15 : (-9223372036854775808) ≤ X 56 0 ((5 * x) + k) ∧ X 56 0 ((5 * x) + k) ≤ 9223372036854775807 := hR 56 0 ((5 * x) + k)
      refine x_l2i hx hb dX9_item_39 ?_
      refine lv_istore (lv' := [(6, .int (jI (X 56 0 ((5 * x) + k)))), (0, .ref (ad 40 0)), (1, .int (jI x)), (2, .int (jI k)), (3, .int (jI i)), (4, .long (jL v))]) hx hb dX9_item_40 hl (by decide) rfl (fun ls hl => ?_)
      refine lv_iload hx hb dX9_item_42 (lv_at hl 0 rfl) ?_
      refine x_if_ge (tgt := 50) hx hb (by omega) dX9_item_44 (by decide) (fun c16 => ?_) (fun c16 => ?_)
      · refine lv_iload_n hx hb dX9_item_50 rfl (lv_at hl 4 rfl) ?_
        refine x_if_lt (tgt := 65) hx hb (by omega) dX9_item_51 (by decide) (fun c17 => ?_) (fun c17 => ?_)
        · refine lv_bipush (v := jI (-12)) hx hb dX9_item_65 (by decide) ?_
          rw [hQ9]
          refine ret_i (mc := 0) (ms := 0) hx hb hr hlocks hw hS (by first | exact Nat.le_of_ble_eq_true rfl | omega) (by first | exact Nat.le_of_ble_eq_true rfl | omega) dX9_item_67 ?_
          have q19 : Frm [4001] X X1 := by rw [hX1]; exact Frm.set Frm.rf (show 4001 ∈ [4001] by first | exact nlm_in rfl | decide)
          have hMq18 : MInv X1 := minv_frm hMI q19 (by decide)
          exact ⟨X1, rfl, hRX1, hFX1, hMq18, by omega, (by (try delta Hid at *); exact Or.inr (Or.inr (Or.inr (Or.inl ⟨(by omega), by omega, (fun q => by omega), (fun q => by omega), by omega⟩)))), fun _ => q900055, fun q => (by exfalso; omega)⟩
        · refine lv_iload_n hx hb dX9_item_54 rfl (lv_at hl 4 rfl) ?_
          refine lv_aload_n hx hb dX9_item_55 rfl (lv_at hl 1 rfl) ?_
          refine x_geto hx hb hf9 hw (by first | exact Int.le_refl 0 | omega) (by first | exact zlt hc40 | omega) sl_40_17 lk54 dX9_item_56 ?_
          refine lv_iload hx hb dX9_item_59 (lv_at hl 0 rfl) ?_
          refine x_iald hx hb hK.1 hw (by first | exact Int.le_refl 0 | omega) (by first | exact zlt hc58 | omega) ar_58 (len_E ar_58 (by first | exact Nat.ne_of_beq_eq_false rfl | decide)) (by omega) (by omega) (by omega) dX9_item_61 ?_
          have e21 : ∀ p9 q9 : Int, X1 58 p9 q9 = X 58 p9 q9 := fun p9 q9 => by rw [hX1, u3_k _ _ _ _ (by first | exact Nat.ne_of_beq_eq_false rfl | decide)]
          rw [e21 0 (X 56 0 ((5 * x) + k))]
          have f22 : 0 ≤ X 58 0 (X 56 0 ((5 * x) + k)) ∧ X 58 0 (X 56 0 ((5 * x) + k)) ≤ 12 := hR 58 0 (X 56 0 ((5 * x) + k))
          refine x_icmp_lt (tgt := 68) hx hb (by omega) (by omega) dX9_item_62 (by decide) (fun c23 => ?_) (fun c23 => ?_)
          · refine lv_aload_n hx hb dX9_item_68 rfl (lv_at hl 1 rfl) ?_
            refine gos_i (run_V (As := []) (rest := []) hx hb hml hown hts (c_X9_isFull l D tc base ad cnt X1 Y ln hRX1 hFx) (cwV 0 hts gX9_item_X9_isFull rfl rfl rfl (by first | exact hd_X9_isFull | decide +kernel) ⟨Nat.le_of_ble_eq_true rfl, Nat.le_of_ble_eq_true rfl⟩) hK hw (by first | exact Int.le_refl 0 | omega) (by first | exact zlt hc40 | omega) sl_40_0 rfl rfl hl.1 rfl (Nat.le_of_ble_eq_true rfl) dX9_item_69 ⟨Nat.le_of_ble_eq_true rfl, Nat.le_of_ble_eq_true rfl⟩) hS (fun z24 u25 H locs p26 hw hS => ?_)
            obtain ⟨eu25, p26⟩ := p26
            subst eu25
            have e27 : X1 40 0 20 = X 40 0 20 := by rw [hX1, u3_j _ _ _ _ (by decide)]
            have e28 : X1 40 0 22 = X 40 0 22 := by rw [hX1, u3_j _ _ _ _ (by decide)]
            simp only [e27, e28] at p26
            rcases p26 with ⟨ez24, p26⟩ | ⟨ez24, p26⟩
            · subst ez24
              refine x_if_eqF (tgt := 78) hx hb (by omega) (by decide) dX9_item_72 (by decide) ?_
              refine lv_bipush (v := jI (-4)) hx hb dX9_item_75 (by decide) ?_
              rw [hQ9]
              refine ret_i (mc := 0) (ms := 0) hx hb hr hlocks hw hS (by first | exact Nat.le_of_ble_eq_true rfl | omega) (by first | exact Nat.le_of_ble_eq_true rfl | omega) dX9_item_77 ?_
              have hMq29 : MInv X1 := minv_frm hMI q900055 (by decide)
              exact ⟨X1, rfl, hRX1, hFX1, hMq29, by omega, (by (try delta Hid at *); exact Or.inr (Or.inr (Or.inr (Or.inr (Or.inl ⟨(by omega), by omega, (fun q => by omega), (by omega), (by omega), by omega⟩))))), fun _ => q900055, fun q => (by exfalso; omega)⟩
            · subst ez24
              refine x_if_eqT (tgt := 78) hx hb (by omega) (by decide) dX9_item_72 (by decide) ?_
              refine lv_aload_n hx hb dX9_item_78 rfl (lv_at hl 1 rfl) ?_
              refine x_geti (jz := 20) hx hb hf9 hw (by first | exact Int.le_refl 0 | omega) (by first | exact zlt hc40 | omega) sl_40_20 rfl lk165 dX9_item_79 ?_
              rw [e27]
              have f33 : 0 ≤ X 40 0 20 ∧ X 40 0 20 ≤ 4 := hR 40 0 20
              refine x_if_le (tgt := 137) hx hb (by omega) dX9_item_82 (by decide) (fun c34 => ?_) (fun c34 => ?_)
              · refine lv_aload_n hx hb dX9_item_137 rfl (lv_at hl 1 rfl) ?_
                refine x_geto hx hb hf9 hw (by first | exact Int.le_refl 0 | omega) (by first | exact zlt hc40 | omega) sl_40_18 lk57 dX9_item_138 ?_
                refine lv_bipush (v := jI 12) hx hb dX9_item_141 (by decide) ?_
                refine lv_iload hx hb dX9_item_143 (lv_at hl 0 rfl) ?_
                refine x_imul hx hb dX9_item_145 ?_
                refine lv_iload_n hx hb dX9_item_146 rfl (lv_at hl 4 rfl) ?_
                refine x_iadd hx hb dX9_item_147 ?_
                refine lv_aload_n hx hb dX9_item_148 rfl (lv_at hl 1 rfl) ?_
                refine x_geto hx hb hf9 hw (by first | exact Int.le_refl 0 | omega) (by first | exact zlt hc40 | omega) sl_40_16 lk51 dX9_item_149 ?_
                refine lv_iload hx hb dX9_item_152 (lv_at hl 0 rfl) ?_
                refine x_iald hx hb hK.1 hw (by first | exact Int.le_refl 0 | omega) (by first | exact zlt hc57 | omega) ar_57 (len_E ar_57 (by first | exact Nat.ne_of_beq_eq_false rfl | decide)) (by omega) (by omega) (by omega) dX9_item_154 ?_
                have e35 : ∀ p9 q9 : Int, X1 57 p9 q9 = X 57 p9 q9 := fun p9 q9 => by rw [hX1, u3_k _ _ _ _ (by first | exact Nat.ne_of_beq_eq_false rfl | decide)]
                rw [e35 0 (X 56 0 ((5 * x) + k))]
                have f36 : 0 ≤ X 57 0 (X 56 0 ((5 * x) + k)) ∧ X 57 0 (X 56 0 ((5 * x) + k)) ≤ 5 := hR 57 0 (X 56 0 ((5 * x) + k))
                refine lv_lload hx hb dX9_item_155 (lv_at hl 5 rfl) ?_
                refine gos_l (run_S (As := [.int (jI (X 57 0 (X 56 0 ((5 * x) + k)))), .long (jL v)]) (rest := [.int (jI ((12 * (X 56 0 ((5 * x) + k))) + i)), .ref (ad 59 0)]) hx hb hml hown hts (c_X9_cut l D tc base ad cnt X1 Y ln (X 57 0 (X 56 0 ((5 * x) + k))) v (by omega) (by omega)) (cwS 2 hts gX9_item_X9_cut rfl rfl rfl (by first | exact hd_X9_cut | decide +kernel) ⟨Nat.le_of_ble_eq_true rfl, Nat.le_of_ble_eq_true rfl⟩) hK hw rfl hl.1 rfl (Nat.le_of_ble_eq_true rfl) dX9_item_157 ⟨Nat.le_of_ble_eq_true rfl, Nat.le_of_ble_eq_true rfl⟩) hS (fun z37 u38 H locs p39 hw hS => ?_)
                obtain ⟨eu38, p39⟩ := p39
                subst eu38
                refine x_last hx hb hK.1 hw hS (by first | exact Int.le_refl 0 | omega) (by first | exact zlt hc59 | omega) ar_59 (len_E ar_59 (by first | exact Nat.ne_of_beq_eq_false rfl | decide)) (by omega) (by omega) (by omega) dX9_item_160 (fun H locs hw hS => ?_)
                obtain ⟨X40, hX40⟩ : ∃ Xq, Xq = u3 X1 59 0 ((12 * (X 56 0 ((5 * x) + k))) + i) z37 := ⟨_, rfl⟩
                rw [← hX40] at hw
                have hRX40 : Rng X40 := by rw [hX40]; exact rng_set hRX1 (show (-9223372036854775808) ≤ z37 ∧ z37 ≤ 9223372036854775807 by omega)
                have hVX40 : X40 59 0 ((12 * (X 56 0 ((5 * x) + k))) + i) = z37 := by rw [hX40]; exact u3_s _ _ _ _ _
                have hFX40 : Frm [4001, 6600, 6700, 6800, 4023, 5900] X X40 := by rw [hX40]; exact Frm.set hFX1 (show 5900 ∈ [4001, 6600, 6700, 6800, 4023, 5900] by first | exact nlm_in rfl | decide)
                refine lv_iconst (v := jI 1) hx hb dX9_item_161 rfl ?_
                rw [hQ9]
                refine ret_i (mc := 0) (ms := 0) hx hb hr hlocks hw hS (by first | exact Nat.le_of_ble_eq_true rfl | omega) (by first | exact Nat.le_of_ble_eq_true rfl | omega) dX9_item_162 ?_
                have q42 : Frm [4001, 5900] X X1 := by rw [hX1]; exact Frm.set Frm.rf (show 4001 ∈ [4001, 5900] by first | exact nlm_in rfl | decide)
                have q43 : Frm [4001, 5900] X X40 := by rw [hX40]; exact Frm.set q42 (show 5900 ∈ [4001, 5900] by first | exact nlm_in rfl | decide)
                have hMq41 : MInv X40 := minv_frm hMI q43 (by decide)
                exact ⟨X40, rfl, hRX40, hFX40, hMq41, by omega, (by (try delta Hid at *); exact Or.inr (Or.inr (Or.inr (Or.inr (Or.inr (⟨(by omega), by omega, (fun q => by omega), (by omega), (by omega), by omega⟩)))))), fun q => (by exfalso; omega), fun _ => ⟨Or.inl ⟨by omega, (by rw [hX40, u3_k _ _ _ _ (by first | exact Nat.ne_of_beq_eq_false rfl | decide), hX1, u3_j _ _ _ _ (by decide)]), fun y => ⟨(by rw [hX40, u3_k _ _ _ _ (by first | exact Nat.ne_of_beq_eq_false rfl | decide), hX1, u3_k _ _ _ _ (by first | exact Nat.ne_of_beq_eq_false rfl | decide)]), (by rw [hX40, u3_k _ _ _ _ (by first | exact Nat.ne_of_beq_eq_false rfl | decide), hX1, u3_k _ _ _ _ (by first | exact Nat.ne_of_beq_eq_false rfl | decide)]), (by rw [hX40, u3_k _ _ _ _ (by first | exact Nat.ne_of_beq_eq_false rfl | decide), hX1, u3_k _ _ _ _ (by first | exact Nat.ne_of_beq_eq_false rfl | decide)]), (by rw [hX40, u3_k _ _ _ _ (by first | exact Nat.ne_of_beq_eq_false rfl | decide), hX1, u3_k _ _ _ _ (by first | exact Nat.ne_of_beq_eq_false rfl | decide)]), (by rw [hX40, u3_k _ _ _ _ (by first | exact Nat.ne_of_beq_eq_false rfl | decide), hX1, u3_k _ _ _ _ (by first | exact Nat.ne_of_beq_eq_false rfl | decide)])⟩⟩, (by rw [hVX40]; omega), fun p hp9 => (by rw [hX40, u3_j _ _ _ _ hp9, hX1, u3_k _ _ _ _ (by first | exact Nat.ne_of_beq_eq_false rfl | decide)])⟩⟩
              · refine lv_aload_n hx hb dX9_item_85 rfl (lv_at hl 1 rfl) ?_
                refine x_geto hx hb hf9 hw (by first | exact Int.le_refl 0 | omega) (by first | exact zlt hc40 | omega) sl_40_25 lk72 dX9_item_86 ?_
                refine lv_aload_n hx hb dX9_item_89 rfl (lv_at hl 1 rfl) ?_
                refine x_geti (jz := 22) hx hb hf9 hw (by first | exact Int.le_refl 0 | omega) (by first | exact zlt hc40 | omega) sl_40_22 rfl lk173 dX9_item_90 ?_
                rw [e28]
                have f45 : 0 ≤ X 40 0 22 ∧ X 40 0 22 ≤ 80 := hR 40 0 22
                refine lv_iload hx hb dX9_item_93 (lv_at hl 0 rfl) ?_
                refine x_iast hx hb hK.1 hw hS (by first | exact Int.le_refl 0 | omega) (by first | exact zlt hc66 | omega) ar_66 (len_E ar_66 (by first | exact Nat.ne_of_beq_eq_false rfl | decide)) (by omega) (by omega) (by omega) dX9_item_95 (fun H locs hw hS => ?_)
                obtain ⟨X46, hX46⟩ : ∃ Xq, Xq = u3 X1 66 0 (X 40 0 22) (X 56 0 ((5 * x) + k)) := ⟨_, rfl⟩
                rw [← hX46] at hw
                have hRX46 : Rng X46 := by rw [hX46]; exact rng_set hRX1 (show (-1) ≤ (X 56 0 ((5 * x) + k)) ∧ (X 56 0 ((5 * x) + k)) ≤ 399 by omega)
                have hVX46 : X46 66 0 (X 40 0 22) = (X 56 0 ((5 * x) + k)) := by rw [hX46]; exact u3_s _ _ _ _ _
                have hFX46 : Frm [4001, 6600, 6700, 6800, 4023, 5900] X X46 := by rw [hX46]; exact Frm.set hFX1 (show 6600 ∈ [4001, 6600, 6700, 6800, 4023, 5900] by first | exact nlm_in rfl | decide)
                refine lv_aload_n hx hb dX9_item_96 rfl (lv_at hl 1 rfl) ?_
                refine x_geto hx hb hf9 hw (by first | exact Int.le_refl 0 | omega) (by first | exact zlt hc40 | omega) sl_40_26 lk75 dX9_item_97 ?_
                refine lv_aload_n hx hb dX9_item_100 rfl (lv_at hl 1 rfl) ?_
                refine x_geti (jz := 22) hx hb hf9 hw (by first | exact Int.le_refl 0 | omega) (by first | exact zlt hc40 | omega) sl_40_22 rfl lk173 dX9_item_101 ?_
                have e47 : X46 40 0 22 = X 40 0 22 := by rw [hX46, u3_k _ _ _ _ (by first | exact Nat.ne_of_beq_eq_false rfl | decide), hX1, u3_j _ _ _ _ (by decide)]
                rw [e47]
                have f48 : 0 ≤ X 40 0 22 ∧ X 40 0 22 ≤ 80 := hR 40 0 22
                refine lv_iload_n hx hb dX9_item_104 rfl (lv_at hl 4 rfl) ?_
                refine x_iast hx hb hK.1 hw hS (by first | exact Int.le_refl 0 | omega) (by first | exact zlt hc67 | omega) ar_67 (len_E ar_67 (by first | exact Nat.ne_of_beq_eq_false rfl | decide)) (by omega) (by omega) (by omega) dX9_item_105 (fun H locs hw hS => ?_)
                obtain ⟨X49, hX49⟩ : ∃ Xq, Xq = u3 X46 67 0 (X 40 0 22) i := ⟨_, rfl⟩
                rw [← hX49] at hw
                have hRX49 : Rng X49 := by rw [hX49]; exact rng_set hRX46 (show (-1) ≤ i ∧ i ≤ 11 by omega)
                have hVX49 : X49 67 0 (X 40 0 22) = i := by rw [hX49]; exact u3_s _ _ _ _ _
                have hFX49 : Frm [4001, 6600, 6700, 6800, 4023, 5900] X X49 := by rw [hX49]; exact Frm.set hFX46 (show 6700 ∈ [4001, 6600, 6700, 6800, 4023, 5900] by first | exact nlm_in rfl | decide)
                refine lv_aload_n hx hb dX9_item_106 rfl (lv_at hl 1 rfl) ?_
                refine x_geto hx hb hf9 hw (by first | exact Int.le_refl 0 | omega) (by first | exact zlt hc40 | omega) sl_40_27 lk78 dX9_item_107 ?_
                refine lv_aload_n hx hb dX9_item_110 rfl (lv_at hl 1 rfl) ?_
                refine x_geti (jz := 22) hx hb hf9 hw (by first | exact Int.le_refl 0 | omega) (by first | exact zlt hc40 | omega) sl_40_22 rfl lk173 dX9_item_111 ?_
                have e50 : X49 40 0 22 = X 40 0 22 := by rw [hX49, u3_k _ _ _ _ (by first | exact Nat.ne_of_beq_eq_false rfl | decide), hX46, u3_k _ _ _ _ (by first | exact Nat.ne_of_beq_eq_false rfl | decide), hX1, u3_j _ _ _ _ (by decide)]
                rw [e50]
                have f51 : 0 ≤ X 40 0 22 ∧ X 40 0 22 ≤ 80 := hR 40 0 22
                refine lv_aload_n hx hb dX9_item_114 rfl (lv_at hl 1 rfl) ?_
                refine x_geto hx hb hf9 hw (by first | exact Int.le_refl 0 | omega) (by first | exact zlt hc40 | omega) sl_40_18 lk57 dX9_item_115 ?_
                refine lv_bipush (v := jI 12) hx hb dX9_item_118 (by decide) ?_
                refine lv_iload hx hb dX9_item_120 (lv_at hl 0 rfl) ?_
                refine x_imul hx hb dX9_item_122 ?_
                refine lv_iload_n hx hb dX9_item_123 rfl (lv_at hl 4 rfl) ?_
                refine x_iadd hx hb dX9_item_124 ?_
                refine x_lald hx hb hK.1 hw (by first | exact Int.le_refl 0 | omega) (by first | exact zlt hc59 | omega) ar_59 (len_E ar_59 (by first | exact Nat.ne_of_beq_eq_false rfl | decide)) (by omega) (by omega) (by omega) dX9_item_125 ?_
                have e52 : ∀ p9 q9 : Int, X49 59 p9 q9 = X 59 p9 q9 := fun p9 q9 => by rw [hX49, u3_k _ _ _ _ (by first | exact Nat.ne_of_beq_eq_false rfl | decide), hX46, u3_k _ _ _ _ (by first | exact Nat.ne_of_beq_eq_false rfl | decide), hX1, u3_k _ _ _ _ (by first | exact Nat.ne_of_beq_eq_false rfl | decide)]
                rw [e52 0 ((12 * (X 56 0 ((5 * x) + k))) + i)]
                have f53 : (-9223372036854775808) ≤ X 59 0 ((12 * (X 56 0 ((5 * x) + k))) + i) ∧ X 59 0 ((12 * (X 56 0 ((5 * x) + k))) + i) ≤ 9223372036854775807 := hR 59 0 ((12 * (X 56 0 ((5 * x) + k))) + i)
                refine x_last hx hb hK.1 hw hS (by first | exact Int.le_refl 0 | omega) (by first | exact zlt hc68 | omega) ar_68 (len_E ar_68 (by first | exact Nat.ne_of_beq_eq_false rfl | decide)) (by omega) (by omega) (by omega) dX9_item_126 (fun H locs hw hS => ?_)
                obtain ⟨X54, hX54⟩ : ∃ Xq, Xq = u3 X49 68 0 (X 40 0 22) (X 59 0 ((12 * (X 56 0 ((5 * x) + k))) + i)) := ⟨_, rfl⟩
                rw [← hX54] at hw
                have hRX54 : Rng X54 := by rw [hX54]; exact rng_set hRX49 (show (-9223372036854775808) ≤ (X 59 0 ((12 * (X 56 0 ((5 * x) + k))) + i)) ∧ (X 59 0 ((12 * (X 56 0 ((5 * x) + k))) + i)) ≤ 9223372036854775807 by omega)
                have hVX54 : X54 68 0 (X 40 0 22) = (X 59 0 ((12 * (X 56 0 ((5 * x) + k))) + i)) := by rw [hX54]; exact u3_s _ _ _ _ _
                have hFX54 : Frm [4001, 6600, 6700, 6800, 4023, 5900] X X54 := by rw [hX54]; exact Frm.set hFX49 (show 6800 ∈ [4001, 6600, 6700, 6800, 4023, 5900] by first | exact nlm_in rfl | decide)
                refine lv_aload_n hx hb dX9_item_127 rfl (lv_at hl 1 rfl) ?_
                refine lv_dup hx hb dX9_item_128 rfl ?_
                refine x_geti (jz := 22) hx hb hf9 hw (by first | exact Int.le_refl 0 | omega) (by first | exact zlt hc40 | omega) sl_40_22 rfl lk173 dX9_item_129 ?_
                have e55 : X54 40 0 22 = X 40 0 22 := by rw [hX54, u3_k _ _ _ _ (by first | exact Nat.ne_of_beq_eq_false rfl | decide), hX49, u3_k _ _ _ _ (by first | exact Nat.ne_of_beq_eq_false rfl | decide), hX46, u3_k _ _ _ _ (by first | exact Nat.ne_of_beq_eq_false rfl | decide), hX1, u3_j _ _ _ _ (by decide)]
                rw [e55]
                have f56 : 0 ≤ X 40 0 22 ∧ X 40 0 22 ≤ 80 := hR 40 0 22
                refine lv_iconst (v := jI 1) hx hb dX9_item_132 rfl ?_
                refine x_iadd hx hb dX9_item_133 ?_
                refine x_puti (jz := 22) hx hb hf9 ⟨tyX9_ok, nmX9⟩ hw hS (by first | exact Int.le_refl 0 | omega) (by first | exact zlt hc40 | omega) sl_40_22 rfl lk173 rfl (tyX9_ok 22 (by decide)) rfl rfl dX9_item_134 (fun H locs hw hS => ?_)
                obtain ⟨X57, hX57⟩ : ∃ Xq, Xq = u3 X54 40 0 22 ((X 40 0 22) + 1) := ⟨_, rfl⟩
                rw [← hX57] at hw
                have hRX57 : Rng X57 := by rw [hX57]; exact rng_set hRX54 (show 0 ≤ ((X 40 0 22) + 1) ∧ ((X 40 0 22) + 1) ≤ 80 by omega)
                have hVX57 : X57 40 0 22 = ((X 40 0 22) + 1) := by rw [hX57]; exact u3_s _ _ _ _ _
                have hFX57 : Frm [4001, 6600, 6700, 6800, 4023, 5900] X X57 := by rw [hX57]; exact Frm.set hFX54 (show 4023 ∈ [4001, 6600, 6700, 6800, 4023, 5900] by first | exact nlm_in rfl | decide)
                refine lv_aload_n hx hb dX9_item_137 rfl (lv_at hl 1 rfl) ?_
                refine x_geto hx hb hf9 hw (by first | exact Int.le_refl 0 | omega) (by first | exact zlt hc40 | omega) sl_40_18 lk57 dX9_item_138 ?_
                refine lv_bipush (v := jI 12) hx hb dX9_item_141 (by decide) ?_
                refine lv_iload hx hb dX9_item_143 (lv_at hl 0 rfl) ?_
                refine x_imul hx hb dX9_item_145 ?_
                refine lv_iload_n hx hb dX9_item_146 rfl (lv_at hl 4 rfl) ?_
                refine x_iadd hx hb dX9_item_147 ?_
                refine lv_aload_n hx hb dX9_item_148 rfl (lv_at hl 1 rfl) ?_
                refine x_geto hx hb hf9 hw (by first | exact Int.le_refl 0 | omega) (by first | exact zlt hc40 | omega) sl_40_16 lk51 dX9_item_149 ?_
                refine lv_iload hx hb dX9_item_152 (lv_at hl 0 rfl) ?_
                refine x_iald hx hb hK.1 hw (by first | exact Int.le_refl 0 | omega) (by first | exact zlt hc57 | omega) ar_57 (len_E ar_57 (by first | exact Nat.ne_of_beq_eq_false rfl | decide)) (by omega) (by omega) (by omega) dX9_item_154 ?_
                have e58 : ∀ p9 q9 : Int, X57 57 p9 q9 = X 57 p9 q9 := fun p9 q9 => by rw [hX57, u3_k _ _ _ _ (by first | exact Nat.ne_of_beq_eq_false rfl | decide), hX54, u3_k _ _ _ _ (by first | exact Nat.ne_of_beq_eq_false rfl | decide), hX49, u3_k _ _ _ _ (by first | exact Nat.ne_of_beq_eq_false rfl | decide), hX46, u3_k _ _ _ _ (by first | exact Nat.ne_of_beq_eq_false rfl | decide), hX1, u3_k _ _ _ _ (by first | exact Nat.ne_of_beq_eq_false rfl | decide)]
                rw [e58 0 (X 56 0 ((5 * x) + k))]
                have f59 : 0 ≤ X 57 0 (X 56 0 ((5 * x) + k)) ∧ X 57 0 (X 56 0 ((5 * x) + k)) ≤ 5 := hR 57 0 (X 56 0 ((5 * x) + k))
                refine lv_lload hx hb dX9_item_155 (lv_at hl 5 rfl) ?_
                refine gos_l (run_S (As := [.int (jI (X 57 0 (X 56 0 ((5 * x) + k)))), .long (jL v)]) (rest := [.int (jI ((12 * (X 56 0 ((5 * x) + k))) + i)), .ref (ad 59 0)]) hx hb hml hown hts (c_X9_cut l D tc base ad cnt X57 Y ln (X 57 0 (X 56 0 ((5 * x) + k))) v (by omega) (by omega)) (cwS 2 hts gX9_item_X9_cut rfl rfl rfl (by first | exact hd_X9_cut | decide +kernel) ⟨Nat.le_of_ble_eq_true rfl, Nat.le_of_ble_eq_true rfl⟩) hK hw rfl hl.1 rfl (Nat.le_of_ble_eq_true rfl) dX9_item_157 ⟨Nat.le_of_ble_eq_true rfl, Nat.le_of_ble_eq_true rfl⟩) hS (fun z60 u61 H locs p62 hw hS => ?_)
                obtain ⟨eu61, p62⟩ := p62
                subst eu61
                refine x_last hx hb hK.1 hw hS (by first | exact Int.le_refl 0 | omega) (by first | exact zlt hc59 | omega) ar_59 (len_E ar_59 (by first | exact Nat.ne_of_beq_eq_false rfl | decide)) (by omega) (by omega) (by omega) dX9_item_160 (fun H locs hw hS => ?_)
                obtain ⟨X63, hX63⟩ : ∃ Xq, Xq = u3 X57 59 0 ((12 * (X 56 0 ((5 * x) + k))) + i) z60 := ⟨_, rfl⟩
                rw [← hX63] at hw
                have hRX63 : Rng X63 := by rw [hX63]; exact rng_set hRX57 (show (-9223372036854775808) ≤ z60 ∧ z60 ≤ 9223372036854775807 by omega)
                have hVX63 : X63 59 0 ((12 * (X 56 0 ((5 * x) + k))) + i) = z60 := by rw [hX63]; exact u3_s _ _ _ _ _
                have hFX63 : Frm [4001, 6600, 6700, 6800, 4023, 5900] X X63 := by rw [hX63]; exact Frm.set hFX57 (show 5900 ∈ [4001, 6600, 6700, 6800, 4023, 5900] by first | exact nlm_in rfl | decide)
                refine lv_iconst (v := jI 1) hx hb dX9_item_161 rfl ?_
                rw [hQ9]
                refine ret_i (mc := 0) (ms := 0) hx hb hr hlocks hw hS (by first | exact Nat.le_of_ble_eq_true rfl | omega) (by first | exact Nat.le_of_ble_eq_true rfl | omega) dX9_item_162 ?_
                have q64 : Frm [4001, 6400, 6500, 6600, 6700, 6800, 4023, 5900] X X1 := by rw [hX1]; exact Frm.set Frm.rf (show 4001 ∈ [4001, 6400, 6500, 6600, 6700, 6800, 4023, 5900] by first | exact nlm_in rfl | decide)
                have q65 : Frm [4001, 6400, 6500, 6600, 6700, 6800, 4023, 5900] X X46 := by rw [hX46]; exact Frm.set q64 (show 6600 ∈ [4001, 6400, 6500, 6600, 6700, 6800, 4023, 5900] by first | exact nlm_in rfl | decide)
                have q66 : Frm [4001, 6400, 6500, 6600, 6700, 6800, 4023, 5900] X X49 := by rw [hX49]; exact Frm.set q65 (show 6700 ∈ [4001, 6400, 6500, 6600, 6700, 6800, 4023, 5900] by first | exact nlm_in rfl | decide)
                have q67 : Frm [4001, 6400, 6500, 6600, 6700, 6800, 4023, 5900] X X54 := by rw [hX54]; exact Frm.set q66 (show 6800 ∈ [4001, 6400, 6500, 6600, 6700, 6800, 4023, 5900] by first | exact nlm_in rfl | decide)
                have q68 : Frm [4001, 6400, 6500, 6600, 6700, 6800, 4023, 5900] X X57 := by rw [hX57]; exact Frm.set q67 (show 4023 ∈ [4001, 6400, 6500, 6600, 6700, 6800, 4023, 5900] by first | exact nlm_in rfl | decide)
                have q69 : Frm [4001, 6400, 6500, 6600, 6700, 6800, 4023, 5900] X X63 := by rw [hX63]; exact Frm.set q68 (show 5900 ∈ [4001, 6400, 6500, 6600, 6700, 6800, 4023, 5900] by first | exact nlm_in rfl | decide)
                exact ⟨X63, rfl, hRX63, hFX63, minv_note (th := 0) (fd := 0) (rw := ((X 56 0 ((5 * x) + k)))) (it := i) (ws := 0) hMI (by omega) q69 (by rw [hX63, u3_k _ _ _ _ (by first | exact Nat.ne_of_beq_eq_false rfl | decide)]; exact hVX57) (fun j hj => ⟨(by rw [hX63, u3_k _ _ _ _ (by first | exact Nat.ne_of_beq_eq_false rfl | decide), hX57, u3_k _ _ _ _ (by first | exact Nat.ne_of_beq_eq_false rfl | decide), hX54, u3_k _ _ _ _ (by first | exact Nat.ne_of_beq_eq_false rfl | decide), hX49, u3_k _ _ _ _ (by first | exact Nat.ne_of_beq_eq_false rfl | decide), hX46, u3_k _ _ _ _ (by first | exact Nat.ne_of_beq_eq_false rfl | decide), hX1, u3_k _ _ _ _ (by first | exact Nat.ne_of_beq_eq_false rfl | decide)]), (by rw [hX63, u3_k _ _ _ _ (by first | exact Nat.ne_of_beq_eq_false rfl | decide), hX57, u3_k _ _ _ _ (by first | exact Nat.ne_of_beq_eq_false rfl | decide), hX54, u3_k _ _ _ _ (by first | exact Nat.ne_of_beq_eq_false rfl | decide), hX49, u3_k _ _ _ _ (by first | exact Nat.ne_of_beq_eq_false rfl | decide), hX46, u3_k _ _ _ _ (by first | exact Nat.ne_of_beq_eq_false rfl | decide), hX1, u3_k _ _ _ _ (by first | exact Nat.ne_of_beq_eq_false rfl | decide)]), (by rw [hX63, u3_k _ _ _ _ (by first | exact Nat.ne_of_beq_eq_false rfl | decide), hX57, u3_k _ _ _ _ (by first | exact Nat.ne_of_beq_eq_false rfl | decide), hX54, u3_k _ _ _ _ (by first | exact Nat.ne_of_beq_eq_false rfl | decide), hX49, u3_k _ _ _ _ (by first | exact Nat.ne_of_beq_eq_false rfl | decide), hX46, u3_j _ _ _ _ (by omega), hX1, u3_k _ _ _ _ (by first | exact Nat.ne_of_beq_eq_false rfl | decide)]), (by rw [hX63, u3_k _ _ _ _ (by first | exact Nat.ne_of_beq_eq_false rfl | decide), hX57, u3_k _ _ _ _ (by first | exact Nat.ne_of_beq_eq_false rfl | decide), hX54, u3_k _ _ _ _ (by first | exact Nat.ne_of_beq_eq_false rfl | decide), hX49, u3_j _ _ _ _ (by omega), hX46, u3_k _ _ _ _ (by first | exact Nat.ne_of_beq_eq_false rfl | decide), hX1, u3_k _ _ _ _ (by first | exact Nat.ne_of_beq_eq_false rfl | decide)]), (by rw [hX63, u3_k _ _ _ _ (by first | exact Nat.ne_of_beq_eq_false rfl | decide), hX57, u3_k _ _ _ _ (by first | exact Nat.ne_of_beq_eq_false rfl | decide), hX54, u3_j _ _ _ _ (by omega), hX49, u3_k _ _ _ _ (by first | exact Nat.ne_of_beq_eq_false rfl | decide), hX46, u3_k _ _ _ _ (by first | exact Nat.ne_of_beq_eq_false rfl | decide), hX1, u3_k _ _ _ _ (by first | exact Nat.ne_of_beq_eq_false rfl | decide)])⟩) (by rw [hX63, u3_k _ _ _ _ (by first | exact Nat.ne_of_beq_eq_false rfl | decide), hX57, u3_k _ _ _ _ (by first | exact Nat.ne_of_beq_eq_false rfl | decide), hX54, u3_k _ _ _ _ (by first | exact Nat.ne_of_beq_eq_false rfl | decide)]; exact hVX49) ⟨fun q => by omega, fun _ => ⟨(by rw [hX63, u3_k _ _ _ _ (by first | exact Nat.ne_of_beq_eq_false rfl | decide), hX57, u3_k _ _ _ _ (by first | exact Nat.ne_of_beq_eq_false rfl | decide), hX54, u3_k _ _ _ _ (by first | exact Nat.ne_of_beq_eq_false rfl | decide), hX49, u3_k _ _ _ _ (by first | exact Nat.ne_of_beq_eq_false rfl | decide)]; exact hVX46), by omega⟩⟩, by omega, (by (try delta Hid at *); exact Or.inr (Or.inr (Or.inr (Or.inr (Or.inr (⟨(by omega), by omega, (fun q => by omega), (by omega), (by omega), by omega⟩)))))), fun q => (by exfalso; omega), fun _ => ⟨Or.inr ⟨by omega, (by rw [hX63, u3_k _ _ _ _ (by first | exact Nat.ne_of_beq_eq_false rfl | decide)]; exact hVX57), ⟨(by rw [hX63, u3_k _ _ _ _ (by first | exact Nat.ne_of_beq_eq_false rfl | decide), hX57, u3_k _ _ _ _ (by first | exact Nat.ne_of_beq_eq_false rfl | decide), hX54, u3_k _ _ _ _ (by first | exact Nat.ne_of_beq_eq_false rfl | decide), hX49, u3_k _ _ _ _ (by first | exact Nat.ne_of_beq_eq_false rfl | decide), hX46, u3_k _ _ _ _ (by first | exact Nat.ne_of_beq_eq_false rfl | decide), hX1, u3_k _ _ _ _ (by first | exact Nat.ne_of_beq_eq_false rfl | decide)]), (by rw [hX63, u3_k _ _ _ _ (by first | exact Nat.ne_of_beq_eq_false rfl | decide), hX57, u3_k _ _ _ _ (by first | exact Nat.ne_of_beq_eq_false rfl | decide), hX54, u3_k _ _ _ _ (by first | exact Nat.ne_of_beq_eq_false rfl | decide), hX49, u3_k _ _ _ _ (by first | exact Nat.ne_of_beq_eq_false rfl | decide), hX46, u3_k _ _ _ _ (by first | exact Nat.ne_of_beq_eq_false rfl | decide), hX1, u3_k _ _ _ _ (by first | exact Nat.ne_of_beq_eq_false rfl | decide)]), (by rw [hX63, u3_k _ _ _ _ (by first | exact Nat.ne_of_beq_eq_false rfl | decide), hX57, u3_k _ _ _ _ (by first | exact Nat.ne_of_beq_eq_false rfl | decide), hX54, u3_k _ _ _ _ (by first | exact Nat.ne_of_beq_eq_false rfl | decide), hX49, u3_k _ _ _ _ (by first | exact Nat.ne_of_beq_eq_false rfl | decide)]; exact hVX46), (by rw [hX63, u3_k _ _ _ _ (by first | exact Nat.ne_of_beq_eq_false rfl | decide), hX57, u3_k _ _ _ _ (by first | exact Nat.ne_of_beq_eq_false rfl | decide), hX54, u3_k _ _ _ _ (by first | exact Nat.ne_of_beq_eq_false rfl | decide)]; exact hVX49), (by rw [hX63, u3_k _ _ _ _ (by first | exact Nat.ne_of_beq_eq_false rfl | decide), hX57, u3_k _ _ _ _ (by first | exact Nat.ne_of_beq_eq_false rfl | decide)]; exact hVX54)⟩, fun y hy => ⟨(by rw [hX63, u3_k _ _ _ _ (by first | exact Nat.ne_of_beq_eq_false rfl | decide), hX57, u3_k _ _ _ _ (by first | exact Nat.ne_of_beq_eq_false rfl | decide), hX54, u3_k _ _ _ _ (by first | exact Nat.ne_of_beq_eq_false rfl | decide), hX49, u3_k _ _ _ _ (by first | exact Nat.ne_of_beq_eq_false rfl | decide), hX46, u3_k _ _ _ _ (by first | exact Nat.ne_of_beq_eq_false rfl | decide), hX1, u3_k _ _ _ _ (by first | exact Nat.ne_of_beq_eq_false rfl | decide)]), (by rw [hX63, u3_k _ _ _ _ (by first | exact Nat.ne_of_beq_eq_false rfl | decide), hX57, u3_k _ _ _ _ (by first | exact Nat.ne_of_beq_eq_false rfl | decide), hX54, u3_k _ _ _ _ (by first | exact Nat.ne_of_beq_eq_false rfl | decide), hX49, u3_k _ _ _ _ (by first | exact Nat.ne_of_beq_eq_false rfl | decide), hX46, u3_k _ _ _ _ (by first | exact Nat.ne_of_beq_eq_false rfl | decide), hX1, u3_k _ _ _ _ (by first | exact Nat.ne_of_beq_eq_false rfl | decide)]), (by rw [hX63, u3_k _ _ _ _ (by first | exact Nat.ne_of_beq_eq_false rfl | decide), hX57, u3_k _ _ _ _ (by first | exact Nat.ne_of_beq_eq_false rfl | decide), hX54, u3_k _ _ _ _ (by first | exact Nat.ne_of_beq_eq_false rfl | decide), hX49, u3_k _ _ _ _ (by first | exact Nat.ne_of_beq_eq_false rfl | decide), hX46, u3_j _ _ _ _ hy, hX1, u3_k _ _ _ _ (by first | exact Nat.ne_of_beq_eq_false rfl | decide)]), (by rw [hX63, u3_k _ _ _ _ (by first | exact Nat.ne_of_beq_eq_false rfl | decide), hX57, u3_k _ _ _ _ (by first | exact Nat.ne_of_beq_eq_false rfl | decide), hX54, u3_k _ _ _ _ (by first | exact Nat.ne_of_beq_eq_false rfl | decide), hX49, u3_j _ _ _ _ hy, hX46, u3_k _ _ _ _ (by first | exact Nat.ne_of_beq_eq_false rfl | decide), hX1, u3_k _ _ _ _ (by first | exact Nat.ne_of_beq_eq_false rfl | decide)]), (by rw [hX63, u3_k _ _ _ _ (by first | exact Nat.ne_of_beq_eq_false rfl | decide), hX57, u3_k _ _ _ _ (by first | exact Nat.ne_of_beq_eq_false rfl | decide), hX54, u3_j _ _ _ _ hy, hX49, u3_k _ _ _ _ (by first | exact Nat.ne_of_beq_eq_false rfl | decide), hX46, u3_k _ _ _ _ (by first | exact Nat.ne_of_beq_eq_false rfl | decide), hX1, u3_k _ _ _ _ (by first | exact Nat.ne_of_beq_eq_false rfl | decide)])⟩⟩, (by rw [hVX63]; omega), fun p hp9 => (by rw [hX63, u3_j _ _ _ _ hp9, hX57, u3_k _ _ _ _ (by first | exact Nat.ne_of_beq_eq_false rfl | decide), hX54, u3_k _ _ _ _ (by first | exact Nat.ne_of_beq_eq_false rfl | decide), hX49, u3_k _ _ _ _ (by first | exact Nat.ne_of_beq_eq_false rfl | decide), hX46, u3_k _ _ _ _ (by first | exact Nat.ne_of_beq_eq_false rfl | decide), hX1, u3_k _ _ _ _ (by first | exact Nat.ne_of_beq_eq_false rfl | decide)])⟩⟩
          · refine lv_bipush (v := jI (-12)) hx hb dX9_item_65 (by decide) ?_
            rw [hQ9]
            refine ret_i (mc := 0) (ms := 0) hx hb hr hlocks hw hS (by first | exact Nat.le_of_ble_eq_true rfl | omega) (by first | exact Nat.le_of_ble_eq_true rfl | omega) dX9_item_67 ?_
            have hMq70 : MInv X1 := minv_frm hMI q900055 (by decide)
            exact ⟨X1, rfl, hRX1, hFX1, hMq70, by omega, (by (try delta Hid at *); exact Or.inr (Or.inr (Or.inr (Or.inl ⟨(by omega), by omega, (fun q => by omega), (fun q => by omega), by omega⟩)))), fun _ => q900055, fun q => (by exfalso; omega)⟩
      · refine lv_bipush (v := jI (-11)) hx hb dX9_item_47 (by decide) ?_
        rw [hQ9]
        refine ret_i (mc := 0) (ms := 0) hx hb hr hlocks hw hS (by first | exact Nat.le_of_ble_eq_true rfl | omega) (by first | exact Nat.le_of_ble_eq_true rfl | omega) dX9_item_49 ?_
        have hMq73 : MInv X1 := minv_frm hMI q900055 (by decide)
        exact ⟨X1, rfl, hRX1, hFX1, hMq73, by omega, (by (try delta Hid at *); exact Or.inr (Or.inr (Or.inl ⟨(by omega), by omega, (by omega), by omega⟩))), fun _ => q900055, fun q => (by exfalso; omega)⟩
    · refine lv_bipush (v := jI (-14)) hx hb dX9_item_26 (by decide) ?_
      rw [hQ9]
      refine ret_i (mc := 0) (ms := 0) hx hb hr hlocks hw hS (by first | exact Nat.le_of_ble_eq_true rfl | omega) (by first | exact Nat.le_of_ble_eq_true rfl | omega) dX9_item_28 ?_
      have hMq76 : MInv X1 := minv_frm hMI q900055 (by decide)
      exact ⟨X1, rfl, hRX1, hFX1, hMq76, by omega, (by (try delta Hid at *); exact Or.inr (Or.inl ⟨(by omega), by omega, by omega⟩)), fun _ => q900055, fun q => (by exfalso; omega)⟩
  · subst ez2
    refine x_if_neF (tgt := 16) hx hb (by omega) (by decide) dX9_item_11 (by decide) ?_
    refine lv_iconst (v := jI (-1)) hx hb dX9_item_14 rfl ?_
    rw [hQ9]
    refine ret_i (mc := 0) (ms := 0) hx hb hr hlocks hw hS (by first | exact Nat.le_of_ble_eq_true rfl | omega) (by first | exact Nat.le_of_ble_eq_true rfl | omega) dX9_item_15 ?_
    have hMq79 : MInv X1 := minv_frm hMI q900055 (by decide)
    exact ⟨X1, rfl, hRX1, hFX1, hMq79, by omega, (by (try delta Hid at *); exact Or.inl ⟨(fun q => by omega), by omega⟩), fun _ => q900055, fun q => (by exfalso; omega)⟩

set_option maxHeartbeats 4000000 in
set_option maxRecDepth 100000 in
theorem c_X9_at (l : Launch) (D : va_G) (tc : Nat → ClassId) (base : Nat) (ad : Nat → Int → Nat) (cnt : Nat → Int) (X : Nat → Int → Int → Int) (Y : Nat → Int → Int → Option Int) (ln : Int → Int) (hR : Rng X) (hFx : Fx cnt) (hMI : MInv X) (x k : Int) (hx : -2147483648 ≤ x ∧ x ≤ 2147483647) (hk : -2147483648 ≤ k ∧ k ≤ 2147483647) : KL l D tc base yX9_at wsX9_at ({ frames := 2, cells := 0, slots := 0, locals := 43 } : Room) [.ref (ad 40 0), .int (jI x), .int (jI k)] (ad, cnt, X, Y, ln) 0 0 (fun z u => ∃ X1 : Nat → Int → Int → Int, u = (ad, cnt, X1, Y, ln) ∧ Rng X1 ∧ Frm [4001] X X1 ∧ MInv X1 ∧ (-9223372036854775808 ≤ z ∧ z ≤ 9223372036854775807) ∧ ((¬ (0 ≤ x ∧ x < X 40 0 13) ∧ z = 0 ∧ X1 40 0 0 = 1) ∨ ((0 ≤ x ∧ x < X 40 0 13) ∧ ¬ (0 ≤ x ∧ x < X 40 0 13 ∧ 0 ≤ k ∧ k < X 44 0 (X 55 0 x)) ∧ z = 0 ∧ X1 40 0 0 = 2) ∨ ((0 ≤ x ∧ x < X 40 0 13 ∧ 0 ≤ k ∧ k < X 44 0 (X 55 0 x)) ∧ (X 46 0 (5 * X 55 0 x + k) < 3 ∨ X 56 0 (5 * x + k) < 0) ∧ z = X 56 0 (5 * x + k) ∧ X1 40 0 0 = 0) ∨ ((0 ≤ x ∧ x < X 40 0 13 ∧ 0 ≤ k ∧ k < X 44 0 (X 55 0 x)) ∧ 3 ≤ X 46 0 (5 * X 55 0 x + k) ∧ 0 ≤ X 56 0 (5 * x + k) ∧ z = X 58 0 (X 56 0 (5 * x + k)) ∧ X1 40 0 0 = 0))) := by
  refine K_of (cc := cX9_at) (maxL := 5) (ret := (some .long)) (by decide) rfl (Nat.le_of_ble_eq_true rfl) ?_
  intro p e s m below meth c ls hx hb hr hml hown hts hlocks hl hK hw hS
  have hown : s.vm.findClass RX9 = some m.cls := hown
  obtain ⟨av9, hav9⟩ : ∃ a9 : Array Value, a9 = ([.ref (ad 40 0), .int (jI x), .int (jI k)] : List Value).toArray := ⟨_, rfl⟩
  rw [← hav9] at hts ⊢
  obtain ⟨Q9, hQ9⟩ : ∃ q9Q : State → Prop, q9Q = MQ below (QL D tc base (fun z u => ∃ X1 : Nat → Int → Int → Int, u = (ad, cnt, X1, Y, ln) ∧ Rng X1 ∧ Frm [4001] X X1 ∧ MInv X1 ∧ (-9223372036854775808 ≤ z ∧ z ≤ 9223372036854775807) ∧ ((¬ (0 ≤ x ∧ x < X 40 0 13) ∧ z = 0 ∧ X1 40 0 0 = 1) ∨ ((0 ≤ x ∧ x < X 40 0 13) ∧ ¬ (0 ≤ x ∧ x < X 40 0 13 ∧ 0 ≤ k ∧ k < X 44 0 (X 55 0 x)) ∧ z = 0 ∧ X1 40 0 0 = 2) ∨ ((0 ≤ x ∧ x < X 40 0 13 ∧ 0 ≤ k ∧ k < X 44 0 (X 55 0 x)) ∧ (X 46 0 (5 * X 55 0 x + k) < 3 ∨ X 56 0 (5 * x + k) < 0) ∧ z = X 56 0 (5 * x + k) ∧ X1 40 0 0 = 0) ∨ ((0 ≤ x ∧ x < X 40 0 13 ∧ 0 ≤ k ∧ k < X 44 0 (X 55 0 x)) ∧ 3 ≤ X 46 0 (5 * X 55 0 x + k) ∧ 0 ≤ X 56 0 (5 * x + k) ∧ z = X 58 0 (X 56 0 (5 * x + k)) ∧ X1 40 0 0 = 0)))) av9 s 0 0 (frA base) := ⟨_, rfl⟩
  rw [← hQ9]
  have hi9 : ∀ w ∈ wsX90, w ∈ wsX9_at := fun w h => List.mem_cons_of_mem _ (List.mem_append_right _ h)
  have hf9 : fctx s m _ RX9 wsX9_at D tc RX9 TX9 51 9 := ⟨hts, hi9, hown, hK.1, rfl⟩
  have lk48 := hts (.fieldLink RX9 48 (TX9 15).1 (TX9 15).2.1 (TX9 15).2.2.1) (gj_X9_at_0 _ (gp_1 gp_h))
  have lk54 := hts (.fieldLink RX9 54 (TX9 17).1 (TX9 17).2.1 (TX9 17).2.2.1) (gj_X9_at_0 _ (gp_1 (gp_1 gp_h)))
  have lk145 := hts (.fieldLink RX9 145 (TX9 0).1 (TX9 0).2.1 (TX9 0).2.2.1) (gj_X9_at_0 _ (gp_h))
  have hc40 : cnt 40 = 1 := hFx.at 40 1 (by decide)
  have hc56 : cnt 56 = 1 := hFx.at 56 1 (by decide)
  have hc58 : cnt 58 = 1 := hFx.at 58 1 (by decide)
  have hl : lv_has ls 5 [(0, .ref (ad 40 0)), (1, .int (jI x)), (2, .int (jI k))] := hl
  have fstypes : 0 ≤ X 40 0 2 ∧ X 40 0 2 ≤ 8 := hR 40 0 2
  have fsthings : 0 ≤ X 40 0 13 ∧ X 40 0 13 ≤ 30 := hR 40 0 13
  have fsmarks : 0 ≤ X 40 0 20 ∧ X 40 0 20 ≤ 4 := hR 40 0 20
  have fsnotes : 0 ≤ X 40 0 22 ∧ X 40 0 22 ≤ 80 := hR 40 0 22
  refine lv_aload_n hx hb dX9_at_0 rfl (lv_at hl 0 rfl) ?_
  refine lv_iconst (v := jI 0) hx hb dX9_at_1 rfl ?_
  refine x_puti (jz := 0) hx hb hf9 ⟨tyX9_ok, nmX9⟩ hw hS (by first | exact Int.le_refl 0 | omega) (by first | exact zlt hc40 | omega) sl_40_0 rfl lk145 rfl (tyX9_ok 0 (by decide)) rfl rfl dX9_at_2 (fun H locs hw hS => ?_)
  obtain ⟨X1, hX1⟩ : ∃ Xq, Xq = u3 X 40 0 0 0 := ⟨_, rfl⟩
  rw [← hX1] at hw
  have hRX1 : Rng X1 := by rw [hX1]; exact rng_set hR (show (-2147483648) ≤ 0 ∧ 0 ≤ 2147483647 by omega)
  have hVX1 : X1 40 0 0 = 0 := by rw [hX1]; exact u3_s _ _ _ _ _
  have hFX1 : Frm [4001] X X1 := by rw [hX1]; exact Frm.set Frm.rf (show 4001 ∈ [4001] by first | exact nlm_in rfl | decide)
  refine lv_aload_n hx hb dX9_at_5 rfl (lv_at hl 0 rfl) ?_
  refine lv_iload_n hx hb dX9_at_6 rfl (lv_at hl 1 rfl) ?_
  refine gos_i (run_V (As := [.int (jI x)]) (rest := []) hx hb hml hown hts (c_X9_isThing l D tc base ad cnt X1 Y ln hRX1 hFx x (by omega)) (cwV 1 hts gX9_at_X9_isThing rfl rfl rfl (by first | exact hd_X9_isThing | decide +kernel) ⟨Nat.le_of_ble_eq_true rfl, Nat.le_of_ble_eq_true rfl⟩) hK hw (by first | exact Int.le_refl 0 | omega) (by first | exact zlt hc40 | omega) sl_40_0 rfl rfl hl.1 rfl (Nat.le_of_ble_eq_true rfl) dX9_at_7 ⟨Nat.le_of_ble_eq_true rfl, Nat.le_of_ble_eq_true rfl⟩) hS (fun z2 u3 H locs p4 hw hS => ?_)
  obtain ⟨eu3, p4⟩ := p4
  subst eu3
  have e5 : X1 40 0 13 = X 40 0 13 := by rw [hX1, u3_j _ _ _ _ (by decide)]
  simp only [e5] at p4
  have q900058 : Frm [4001] X X1 := by rw [hX1]; exact Frm.set Frm.rf (show 4001 ∈ [4001] by first | exact nlm_in rfl | decide)
  rcases p4 with ⟨ez2, p4⟩ | ⟨ez2, p4⟩
  · subst ez2
    refine x_if_neT (tgt := 20) hx hb (by omega) (by decide) dX9_at_10 (by decide) ?_
    refine lv_aload_n hx hb dX9_at_20 rfl (lv_at hl 0 rfl) ?_
    refine lv_iload_n hx hb dX9_at_21 rfl (lv_at hl 1 rfl) ?_
    refine lv_iload_n hx hb dX9_at_22 rfl (lv_at hl 2 rfl) ?_
    refine gos_i (run_V (As := [.int (jI x), .int (jI k)]) (rest := []) hx hb hml hown hts (c_X9_isField l D tc base ad cnt X1 Y ln hRX1 hFx x k (by omega) (by omega)) (cwV 2 hts gX9_at_X9_isField rfl rfl rfl (by first | exact hd_X9_isField | decide +kernel) ⟨Nat.le_of_ble_eq_true rfl, Nat.le_of_ble_eq_true rfl⟩) hK hw (by first | exact Int.le_refl 0 | omega) (by first | exact zlt hc40 | omega) sl_40_0 rfl rfl hl.1 rfl (Nat.le_of_ble_eq_true rfl) dX9_at_23 ⟨Nat.le_of_ble_eq_true rfl, Nat.le_of_ble_eq_true rfl⟩) hS (fun z6 u7 H locs p8 hw hS => ?_)
    obtain ⟨eu7, p8⟩ := p8
    subst eu7
    have e9 : X1 40 0 13 = X 40 0 13 := by rw [hX1, u3_j _ _ _ _ (by decide)]
    have e10 : ∀ j : Int, X1 55 0 j = X 55 0 j := fun j => by rw [hX1, u3_k _ _ _ _ (by first | exact Nat.ne_of_beq_eq_false rfl | decide)]
    have e11 : ∀ j : Int, X1 44 0 j = X 44 0 j := fun j => by rw [hX1, u3_k _ _ _ _ (by first | exact Nat.ne_of_beq_eq_false rfl | decide)]
    simp only [e9, e10, e11] at p8
    rcases p8 with ⟨ez6, p8⟩ | ⟨ez6, p8⟩
    · subst ez6
      refine x_if_neT (tgt := 36) hx hb (by omega) (by decide) dX9_at_26 (by decide) ?_
      refine lv_aload_n hx hb dX9_at_36 rfl (lv_at hl 0 rfl) ?_
      refine x_geto hx hb hf9 hw (by first | exact Int.le_refl 0 | omega) (by first | exact zlt hc40 | omega) sl_40_15 lk48 dX9_at_37 ?_
      refine lv_iconst (v := jI 5) hx hb dX9_at_40 rfl ?_
      refine lv_iload_n hx hb dX9_at_41 rfl (lv_at hl 1 rfl) ?_
      refine x_imul hx hb dX9_at_42 ?_
      refine lv_iload_n hx hb dX9_at_43 rfl (lv_at hl 2 rfl) ?_
      refine x_iadd hx hb dX9_at_44 ?_
      obtain ⟨hy1, hy2, hy3⟩ := hMI.1 x k (by omega) (by omega) (by omega) (by omega)
      refine x_lald hx hb hK.1 hw (by first | exact Int.le_refl 0 | omega) (by first | exact zlt hc56 | omega) ar_56 (len_E ar_56 (by first | exact Nat.ne_of_beq_eq_false rfl | decide)) (by omega) (by omega) (by omega) dX9_at_45 ?_
      have e12 : ∀ p9 q9 : Int, X1 56 p9 q9 = X 56 p9 q9 := fun p9 q9 => by rw [hX1, u3_k _ _ _ _ (by first | exact Nat.ne_of_beq_eq_false rfl | decide)]
      rw [e12 0 ((5 * x) + k)]
      have f13 : (-9223372036854775808) ≤ X 56 0 ((5 * x) + k) ∧ X 56 0 ((5 * x) + k) ≤ 9223372036854775807 := hR 56 0 ((5 * x) + k)
      refine lv_lstore_n (lv' := [(3, .long (jL (X 56 0 ((5 * x) + k)))), (0, .ref (ad 40 0)), (1, .int (jI x)), (2, .int (jI k))]) hx hb dX9_at_46 rfl hl (by decide) rfl (fun ls hl => ?_)
      refine lv_aload_n hx hb dX9_at_47 rfl (lv_at hl 1 rfl) ?_
      refine lv_iload_n hx hb dX9_at_48 rfl (lv_at hl 2 rfl) ?_
      refine lv_iload_n hx hb dX9_at_49 rfl (lv_at hl 3 rfl) ?_
      refine gos_i (run_V (As := [.int (jI x), .int (jI k)]) (rest := []) hx hb hml hown hts (c_X9_lane l D tc base ad cnt X1 Y ln hRX1 hFx x k (by omega) (by omega)) (cwV 2 hts gX9_at_X9_lane rfl rfl rfl (by first | exact hd_X9_lane | decide +kernel) ⟨Nat.le_of_ble_eq_true rfl, Nat.le_of_ble_eq_true rfl⟩) hK hw (by first | exact Int.le_refl 0 | omega) (by first | exact zlt hc40 | omega) sl_40_0 rfl rfl hl.1 rfl (Nat.le_of_ble_eq_true rfl) dX9_at_50 ⟨Nat.le_of_ble_eq_true rfl, Nat.le_of_ble_eq_true rfl⟩) hS (fun z14 u15 H locs p16 hw hS => ?_)
      obtain ⟨eu15, p16⟩ := p16
      subst eu15
      have e17 : ∀ j : Int, X1 55 0 j = X 55 0 j := fun j => by rw [hX1, u3_k _ _ _ _ (by first | exact Nat.ne_of_beq_eq_false rfl | decide)]
      have e18 : ∀ j : Int, X1 46 0 j = X 46 0 j := fun j => by rw [hX1, u3_k _ _ _ _ (by first | exact Nat.ne_of_beq_eq_false rfl | decide)]
      simp only [e17, e18] at p16
      refine lv_iconst (v := jI 3) hx hb dX9_at_53 rfl ?_
      refine x_icmp_lt (tgt := 63) hx hb (by omega) (by omega) dX9_at_54 (by decide) (fun c19 => ?_) (fun c19 => ?_)
      · refine lv_lload_n hx hb dX9_at_63 rfl (lv_at hl 0 rfl) ?_
        refine lv_goto (tgt := 75) hx hb dX9_at_64 (by decide) ?_
        rw [hQ9]
        refine ret_l (mc := 0) (ms := 0) hx hb hr hlocks hw hS (by first | exact Nat.le_of_ble_eq_true rfl | omega) (by first | exact Nat.le_of_ble_eq_true rfl | omega) dX9_at_75 ?_
        have hMq20 : MInv X1 := minv_frm hMI q900058 (by decide)
        have e22 : X1 40 0 0 = 0 := (by exact hVX1)
        exact ⟨X1, rfl, hRX1, hFX1, hMq20, by omega, (by (try delta Hid at *); first | exact Or.inr (Or.inr (Or.inl ⟨(by omega), (by omega), by omega, by omega⟩)) | exact Or.inr (Or.inr (Or.inr (⟨(by omega), by omega, by omega, by omega, by omega⟩))) | exact Or.inl ⟨(fun q => by omega), by omega, by omega⟩ | exact Or.inr (Or.inl ⟨(by omega), (fun q => by omega), by omega, by omega⟩))⟩
      · refine lv_lload_n hx hb dX9_at_57 rfl (lv_at hl 0 rfl) ?_
        refine lv_lconst (v := jL 0) hx hb dX9_at_58 (by decide) ?_
        refine x_lcmp hx hb (by omega) (by omega) dX9_at_59 ?_
        obtain ⟨z23, ez23⟩ : ∃ y : Int, y = cmpZ (X 56 0 ((5 * x) + k)) 0 := ⟨_, rfl⟩
        rw [← ez23]
        have gz23 : (z23 < 0 ↔ ((X 56 0 ((5 * x) + k)) : Int) < 0) ∧ (z23 = 0 ↔ ((X 56 0 ((5 * x) + k)) : Int) = 0) ∧ -1 ≤ z23 ∧ z23 ≤ 1 := by rw [ez23]; exact ⟨cmpZ_lt, cmpZ_eq, (cmpZ_r _ _).1, (cmpZ_r _ _).2⟩
        clear ez23
        refine x_if_ge (tgt := 67) hx hb (by omega) dX9_at_60 (by decide) (fun c24 => ?_) (fun c24 => ?_)
        · replace c24 := cz_geT gz23 c24
          clear gz23
          refine lv_aload_n hx hb dX9_at_67 rfl (lv_at hl 1 rfl) ?_
          refine x_geto hx hb hf9 hw (by first | exact Int.le_refl 0 | omega) (by first | exact zlt hc40 | omega) sl_40_17 lk54 dX9_at_68 ?_
          refine lv_lload_n hx hb dX9_at_71 rfl (lv_at hl 0 rfl) ?_
          refine x_l2i hx hb dX9_at_72 ?_
          refine x_iald hx hb hK.1 hw (by first | exact Int.le_refl 0 | omega) (by first | exact zlt hc58 | omega) ar_58 (len_E ar_58 (by first | exact Nat.ne_of_beq_eq_false rfl | decide)) (by omega) (by omega) (by omega) dX9_at_73 ?_
          have e25 : ∀ p9 q9 : Int, X1 58 p9 q9 = X 58 p9 q9 := fun p9 q9 => by rw [hX1, u3_k _ _ _ _ (by first | exact Nat.ne_of_beq_eq_false rfl | decide)]
          rw [e25 0 (X 56 0 ((5 * x) + k))]
          have f26 : 0 ≤ X 58 0 (X 56 0 ((5 * x) + k)) ∧ X 58 0 (X 56 0 ((5 * x) + k)) ≤ 12 := hR 58 0 (X 56 0 ((5 * x) + k))
          refine x_i2l hx hb (by omega) dX9_at_74 ?_
          rw [hQ9]
          refine ret_l (mc := 0) (ms := 0) hx hb hr hlocks hw hS (by first | exact Nat.le_of_ble_eq_true rfl | omega) (by first | exact Nat.le_of_ble_eq_true rfl | omega) dX9_at_75 ?_
          have hMq27 : MInv X1 := minv_frm hMI q900058 (by decide)
          have e29 : X1 40 0 0 = 0 := (by exact hVX1)
          exact ⟨X1, rfl, hRX1, hFX1, hMq27, by omega, (by (try delta Hid at *); first | exact Or.inr (Or.inr (Or.inr (⟨(by omega), by omega, by omega, by omega, by omega⟩))) | exact Or.inr (Or.inr (Or.inl ⟨(by omega), (by omega), by omega, by omega⟩)) | exact Or.inl ⟨(fun q => by omega), by omega, by omega⟩ | exact Or.inr (Or.inl ⟨(by omega), (fun q => by omega), by omega, by omega⟩))⟩
        · replace c24 := cz_geF gz23 c24
          clear gz23
          refine lv_lload_n hx hb dX9_at_63 rfl (lv_at hl 0 rfl) ?_
          refine lv_goto (tgt := 75) hx hb dX9_at_64 (by decide) ?_
          rw [hQ9]
          refine ret_l (mc := 0) (ms := 0) hx hb hr hlocks hw hS (by first | exact Nat.le_of_ble_eq_true rfl | omega) (by first | exact Nat.le_of_ble_eq_true rfl | omega) dX9_at_75 ?_
          have hMq30 : MInv X1 := minv_frm hMI q900058 (by decide)
          have e32 : X1 40 0 0 = 0 := (by exact hVX1)
          exact ⟨X1, rfl, hRX1, hFX1, hMq30, by omega, (by (try delta Hid at *); first | exact Or.inr (Or.inr (Or.inl ⟨(by omega), (by omega), by omega, by omega⟩)) | exact Or.inr (Or.inr (Or.inr (⟨(by omega), by omega, by omega, by omega, by omega⟩))) | exact Or.inl ⟨(fun q => by omega), by omega, by omega⟩ | exact Or.inr (Or.inl ⟨(by omega), (fun q => by omega), by omega, by omega⟩))⟩
    · subst ez6
      refine x_if_neF (tgt := 36) hx hb (by omega) (by decide) dX9_at_26 (by decide) ?_
      refine lv_aload_n hx hb dX9_at_29 rfl (lv_at hl 0 rfl) ?_
      refine lv_iconst (v := jI 2) hx hb dX9_at_30 rfl ?_
      refine x_puti (jz := 0) hx hb hf9 ⟨tyX9_ok, nmX9⟩ hw hS (by first | exact Int.le_refl 0 | omega) (by first | exact zlt hc40 | omega) sl_40_0 rfl lk145 rfl (tyX9_ok 0 (by decide)) rfl rfl dX9_at_31 (fun H locs hw hS => ?_)
      obtain ⟨X33, hX33⟩ : ∃ Xq, Xq = u3 X1 40 0 0 2 := ⟨_, rfl⟩
      rw [← hX33] at hw
      have hRX33 : Rng X33 := by rw [hX33]; exact rng_set hRX1 (show (-2147483648) ≤ 2 ∧ 2 ≤ 2147483647 by omega)
      have hVX33 : X33 40 0 0 = 2 := by rw [hX33]; exact u3_s _ _ _ _ _
      have hFX33 : Frm [4001] X X33 := by rw [hX33]; exact Frm.set hFX1 (show 4001 ∈ [4001] by first | exact nlm_in rfl | decide)
      refine lv_lconst (v := jL 0) hx hb dX9_at_34 (by decide) ?_
      rw [hQ9]
      refine ret_l (mc := 0) (ms := 0) hx hb hr hlocks hw hS (by first | exact Nat.le_of_ble_eq_true rfl | omega) (by first | exact Nat.le_of_ble_eq_true rfl | omega) dX9_at_35 ?_
      have hMq34 : MInv X33 := minv_frm hMI hFX33 (by decide)
      have e37 : X33 40 0 0 = 2 := (by exact hVX33)
      exact ⟨X33, rfl, hRX33, hFX33, hMq34, by omega, (by (try delta Hid at *); first | exact Or.inl ⟨(fun q => by omega), by omega, by omega⟩ | exact Or.inr (Or.inl ⟨(by omega), (fun q => by omega), by omega, by omega⟩) | exact Or.inr (Or.inr (Or.inl ⟨(by omega), (by omega), by omega, by omega⟩)) | exact Or.inr (Or.inr (Or.inr (⟨(by omega), by omega, by omega, by omega, by omega⟩))))⟩
  · subst ez2
    refine x_if_neF (tgt := 20) hx hb (by omega) (by decide) dX9_at_10 (by decide) ?_
    refine lv_aload_n hx hb dX9_at_13 rfl (lv_at hl 0 rfl) ?_
    refine lv_iconst (v := jI 1) hx hb dX9_at_14 rfl ?_
    refine x_puti (jz := 0) hx hb hf9 ⟨tyX9_ok, nmX9⟩ hw hS (by first | exact Int.le_refl 0 | omega) (by first | exact zlt hc40 | omega) sl_40_0 rfl lk145 rfl (tyX9_ok 0 (by decide)) rfl rfl dX9_at_15 (fun H locs hw hS => ?_)
    obtain ⟨X38, hX38⟩ : ∃ Xq, Xq = u3 X1 40 0 0 1 := ⟨_, rfl⟩
    rw [← hX38] at hw
    have hRX38 : Rng X38 := by rw [hX38]; exact rng_set hRX1 (show (-2147483648) ≤ 1 ∧ 1 ≤ 2147483647 by omega)
    have hVX38 : X38 40 0 0 = 1 := by rw [hX38]; exact u3_s _ _ _ _ _
    have hFX38 : Frm [4001] X X38 := by rw [hX38]; exact Frm.set hFX1 (show 4001 ∈ [4001] by first | exact nlm_in rfl | decide)
    refine lv_lconst (v := jL 0) hx hb dX9_at_18 (by decide) ?_
    rw [hQ9]
    refine ret_l (mc := 0) (ms := 0) hx hb hr hlocks hw hS (by first | exact Nat.le_of_ble_eq_true rfl | omega) (by first | exact Nat.le_of_ble_eq_true rfl | omega) dX9_at_19 ?_
    have hMq39 : MInv X38 := minv_frm hMI hFX38 (by decide)
    have e42 : X38 40 0 0 = 1 := (by exact hVX38)
    exact ⟨X38, rfl, hRX38, hFX38, hMq39, by omega, (by (try delta Hid at *); first | exact Or.inl ⟨(fun q => by omega), by omega, by omega⟩ | exact Or.inr (Or.inl ⟨(by omega), (fun q => by omega), by omega, by omega⟩) | exact Or.inr (Or.inr (Or.inl ⟨(by omega), (by omega), by omega, by omega⟩)) | exact Or.inr (Or.inr (Or.inr (⟨(by omega), by omega, by omega, by omega, by omega⟩))))⟩

set_option maxHeartbeats 4000000 in
set_option maxRecDepth 100000 in
theorem c_X9_itemAt (l : Launch) (D : va_G) (tc : Nat → ClassId) (base : Nat) (ad : Nat → Int → Nat) (cnt : Nat → Int) (X : Nat → Int → Int → Int) (Y : Nat → Int → Int → Option Int) (ln : Int → Int) (hR : Rng X) (hFx : Fx cnt) (hMI : MInv X) (x k i : Int) (hx : -2147483648 ≤ x ∧ x ≤ 2147483647) (hk : -2147483648 ≤ k ∧ k ≤ 2147483647) (hi : -2147483648 ≤ i ∧ i ≤ 2147483647) : KL l D tc base yX9_itemAt wsX9_itemAt ({ frames := 2, cells := 0, slots := 0, locals := 43 } : Room) [.ref (ad 40 0), .int (jI x), .int (jI k), .int (jI i)] (ad, cnt, X, Y, ln) 0 0 (fun z u => ∃ X1 : Nat → Int → Int → Int, u = (ad, cnt, X1, Y, ln) ∧ Rng X1 ∧ Frm [4001] X X1 ∧ MInv X1 ∧ (-9223372036854775808 ≤ z ∧ z ≤ 9223372036854775807) ∧ ((¬ (0 ≤ x ∧ x < X 40 0 13) ∧ z = 0 ∧ X1 40 0 0 = 1) ∨ ((0 ≤ x ∧ x < X 40 0 13) ∧ ¬ (0 ≤ x ∧ x < X 40 0 13 ∧ 0 ≤ k ∧ k < X 44 0 (X 55 0 x)) ∧ z = 0 ∧ X1 40 0 0 = 3) ∨ ((0 ≤ x ∧ x < X 40 0 13 ∧ 0 ≤ k ∧ k < X 44 0 (X 55 0 x)) ∧ (X 46 0 (5 * X 55 0 x + k) < 3 ∨ X 56 0 (5 * x + k) < 0) ∧ z = 0 ∧ X1 40 0 0 = 2) ∨ ((0 ≤ x ∧ x < X 40 0 13 ∧ 0 ≤ k ∧ k < X 44 0 (X 55 0 x)) ∧ 3 ≤ X 46 0 (5 * X 55 0 x + k) ∧ 0 ≤ X 56 0 (5 * x + k) ∧ ¬ (0 ≤ i ∧ i < X 58 0 (X 56 0 (5 * x + k))) ∧ z = 0 ∧ X1 40 0 0 = 3) ∨ ((0 ≤ x ∧ x < X 40 0 13 ∧ 0 ≤ k ∧ k < X 44 0 (X 55 0 x)) ∧ 3 ≤ X 46 0 (5 * X 55 0 x + k) ∧ 0 ≤ X 56 0 (5 * x + k) ∧ (0 ≤ i ∧ i < X 58 0 (X 56 0 (5 * x + k))) ∧ z = X 59 0 (12 * X 56 0 (5 * x + k) + i) ∧ X1 40 0 0 = 0))) := by
  refine K_of (cc := cX9_itemAt) (maxL := 5) (ret := (some .long)) (by decide) rfl (Nat.le_of_ble_eq_true rfl) ?_
  intro p e s m below meth c ls hx hb hr hml hown hts hlocks hl hK hw hS
  have hown : s.vm.findClass RX9 = some m.cls := hown
  obtain ⟨av9, hav9⟩ : ∃ a9 : Array Value, a9 = ([.ref (ad 40 0), .int (jI x), .int (jI k), .int (jI i)] : List Value).toArray := ⟨_, rfl⟩
  rw [← hav9] at hts ⊢
  obtain ⟨Q9, hQ9⟩ : ∃ q9Q : State → Prop, q9Q = MQ below (QL D tc base (fun z u => ∃ X1 : Nat → Int → Int → Int, u = (ad, cnt, X1, Y, ln) ∧ Rng X1 ∧ Frm [4001] X X1 ∧ MInv X1 ∧ (-9223372036854775808 ≤ z ∧ z ≤ 9223372036854775807) ∧ ((¬ (0 ≤ x ∧ x < X 40 0 13) ∧ z = 0 ∧ X1 40 0 0 = 1) ∨ ((0 ≤ x ∧ x < X 40 0 13) ∧ ¬ (0 ≤ x ∧ x < X 40 0 13 ∧ 0 ≤ k ∧ k < X 44 0 (X 55 0 x)) ∧ z = 0 ∧ X1 40 0 0 = 3) ∨ ((0 ≤ x ∧ x < X 40 0 13 ∧ 0 ≤ k ∧ k < X 44 0 (X 55 0 x)) ∧ (X 46 0 (5 * X 55 0 x + k) < 3 ∨ X 56 0 (5 * x + k) < 0) ∧ z = 0 ∧ X1 40 0 0 = 2) ∨ ((0 ≤ x ∧ x < X 40 0 13 ∧ 0 ≤ k ∧ k < X 44 0 (X 55 0 x)) ∧ 3 ≤ X 46 0 (5 * X 55 0 x + k) ∧ 0 ≤ X 56 0 (5 * x + k) ∧ ¬ (0 ≤ i ∧ i < X 58 0 (X 56 0 (5 * x + k))) ∧ z = 0 ∧ X1 40 0 0 = 3) ∨ ((0 ≤ x ∧ x < X 40 0 13 ∧ 0 ≤ k ∧ k < X 44 0 (X 55 0 x)) ∧ 3 ≤ X 46 0 (5 * X 55 0 x + k) ∧ 0 ≤ X 56 0 (5 * x + k) ∧ (0 ≤ i ∧ i < X 58 0 (X 56 0 (5 * x + k))) ∧ z = X 59 0 (12 * X 56 0 (5 * x + k) + i) ∧ X1 40 0 0 = 0)))) av9 s 0 0 (frA base) := ⟨_, rfl⟩
  rw [← hQ9]
  have hi9 : ∀ w ∈ wsX90, w ∈ wsX9_itemAt := fun w h => List.mem_cons_of_mem _ (List.mem_append_right _ h)
  have hf9 : fctx s m _ RX9 wsX9_itemAt D tc RX9 TX9 51 9 := ⟨hts, hi9, hown, hK.1, rfl⟩
  have lk48 := hts (.fieldLink RX9 48 (TX9 15).1 (TX9 15).2.1 (TX9 15).2.2.1) (gj_X9_itemAt_0 _ (gp_1 gp_h))
  have lk54 := hts (.fieldLink RX9 54 (TX9 17).1 (TX9 17).2.1 (TX9 17).2.2.1) (gj_X9_itemAt_0 _ (gp_1 (gp_1 gp_h)))
  have lk57 := hts (.fieldLink RX9 57 (TX9 18).1 (TX9 18).2.1 (TX9 18).2.2.1) (gj_X9_itemAt_0 _ (gp_1 (gp_1 (gp_1 gp_h))))
  have lk145 := hts (.fieldLink RX9 145 (TX9 0).1 (TX9 0).2.1 (TX9 0).2.2.1) (gj_X9_itemAt_0 _ (gp_h))
  have hc40 : cnt 40 = 1 := hFx.at 40 1 (by decide)
  have hc56 : cnt 56 = 1 := hFx.at 56 1 (by decide)
  have hc58 : cnt 58 = 1 := hFx.at 58 1 (by decide)
  have hc59 : cnt 59 = 1 := hFx.at 59 1 (by decide)
  have hl : lv_has ls 5 [(0, .ref (ad 40 0)), (1, .int (jI x)), (2, .int (jI k)), (3, .int (jI i))] := hl
  have fstypes : 0 ≤ X 40 0 2 ∧ X 40 0 2 ≤ 8 := hR 40 0 2
  have fsthings : 0 ≤ X 40 0 13 ∧ X 40 0 13 ≤ 30 := hR 40 0 13
  have fsmarks : 0 ≤ X 40 0 20 ∧ X 40 0 20 ≤ 4 := hR 40 0 20
  have fsnotes : 0 ≤ X 40 0 22 ∧ X 40 0 22 ≤ 80 := hR 40 0 22
  refine lv_aload_n hx hb dX9_itemAt_0 rfl (lv_at hl 0 rfl) ?_
  refine lv_iconst (v := jI 0) hx hb dX9_itemAt_1 rfl ?_
  refine x_puti (jz := 0) hx hb hf9 ⟨tyX9_ok, nmX9⟩ hw hS (by first | exact Int.le_refl 0 | omega) (by first | exact zlt hc40 | omega) sl_40_0 rfl lk145 rfl (tyX9_ok 0 (by decide)) rfl rfl dX9_itemAt_2 (fun H locs hw hS => ?_)
  obtain ⟨X1, hX1⟩ : ∃ Xq, Xq = u3 X 40 0 0 0 := ⟨_, rfl⟩
  rw [← hX1] at hw
  have hRX1 : Rng X1 := by rw [hX1]; exact rng_set hR (show (-2147483648) ≤ 0 ∧ 0 ≤ 2147483647 by omega)
  have hVX1 : X1 40 0 0 = 0 := by rw [hX1]; exact u3_s _ _ _ _ _
  have hFX1 : Frm [4001] X X1 := by rw [hX1]; exact Frm.set Frm.rf (show 4001 ∈ [4001] by first | exact nlm_in rfl | decide)
  refine lv_aload_n hx hb dX9_itemAt_5 rfl (lv_at hl 0 rfl) ?_
  refine lv_iload_n hx hb dX9_itemAt_6 rfl (lv_at hl 1 rfl) ?_
  refine gos_i (run_V (As := [.int (jI x)]) (rest := []) hx hb hml hown hts (c_X9_isThing l D tc base ad cnt X1 Y ln hRX1 hFx x (by omega)) (cwV 1 hts gX9_itemAt_X9_isThing rfl rfl rfl (by first | exact hd_X9_isThing | decide +kernel) ⟨Nat.le_of_ble_eq_true rfl, Nat.le_of_ble_eq_true rfl⟩) hK hw (by first | exact Int.le_refl 0 | omega) (by first | exact zlt hc40 | omega) sl_40_0 rfl rfl hl.1 rfl (Nat.le_of_ble_eq_true rfl) dX9_itemAt_7 ⟨Nat.le_of_ble_eq_true rfl, Nat.le_of_ble_eq_true rfl⟩) hS (fun z2 u3 H locs p4 hw hS => ?_)
  obtain ⟨eu3, p4⟩ := p4
  subst eu3
  have e5 : X1 40 0 13 = X 40 0 13 := by rw [hX1, u3_j _ _ _ _ (by decide)]
  simp only [e5] at p4
  have q900063 : Frm [4001] X X1 := by rw [hX1]; exact Frm.set Frm.rf (show 4001 ∈ [4001] by first | exact nlm_in rfl | decide)
  rcases p4 with ⟨ez2, p4⟩ | ⟨ez2, p4⟩
  · subst ez2
    refine x_if_neT (tgt := 20) hx hb (by omega) (by decide) dX9_itemAt_10 (by decide) ?_
    refine lv_aload_n hx hb dX9_itemAt_20 rfl (lv_at hl 0 rfl) ?_
    refine lv_iload_n hx hb dX9_itemAt_21 rfl (lv_at hl 1 rfl) ?_
    refine lv_iload_n hx hb dX9_itemAt_22 rfl (lv_at hl 2 rfl) ?_
    refine gos_i (run_V (As := [.int (jI x), .int (jI k)]) (rest := []) hx hb hml hown hts (c_X9_isField l D tc base ad cnt X1 Y ln hRX1 hFx x k (by omega) (by omega)) (cwV 2 hts gX9_itemAt_X9_isField rfl rfl rfl (by first | exact hd_X9_isField | decide +kernel) ⟨Nat.le_of_ble_eq_true rfl, Nat.le_of_ble_eq_true rfl⟩) hK hw (by first | exact Int.le_refl 0 | omega) (by first | exact zlt hc40 | omega) sl_40_0 rfl rfl hl.1 rfl (Nat.le_of_ble_eq_true rfl) dX9_itemAt_23 ⟨Nat.le_of_ble_eq_true rfl, Nat.le_of_ble_eq_true rfl⟩) hS (fun z6 u7 H locs p8 hw hS => ?_)
    obtain ⟨eu7, p8⟩ := p8
    subst eu7
    have e9 : X1 40 0 13 = X 40 0 13 := by rw [hX1, u3_j _ _ _ _ (by decide)]
    have e10 : ∀ j : Int, X1 55 0 j = X 55 0 j := fun j => by rw [hX1, u3_k _ _ _ _ (by first | exact Nat.ne_of_beq_eq_false rfl | decide)]
    have e11 : ∀ j : Int, X1 44 0 j = X 44 0 j := fun j => by rw [hX1, u3_k _ _ _ _ (by first | exact Nat.ne_of_beq_eq_false rfl | decide)]
    simp only [e9, e10, e11] at p8
    rcases p8 with ⟨ez6, p8⟩ | ⟨ez6, p8⟩
    · subst ez6
      refine x_if_neT (tgt := 36) hx hb (by omega) (by decide) dX9_itemAt_26 (by decide) ?_
      refine lv_aload_n hx hb dX9_itemAt_36 rfl (lv_at hl 0 rfl) ?_
      refine lv_iload_n hx hb dX9_itemAt_37 rfl (lv_at hl 1 rfl) ?_
      refine lv_iload_n hx hb dX9_itemAt_38 rfl (lv_at hl 2 rfl) ?_
      refine gos_i (run_V (As := [.int (jI x), .int (jI k)]) (rest := []) hx hb hml hown hts (c_X9_lane l D tc base ad cnt X1 Y ln hRX1 hFx x k (by omega) (by omega)) (cwV 2 hts gX9_itemAt_X9_lane rfl rfl rfl (by first | exact hd_X9_lane | decide +kernel) ⟨Nat.le_of_ble_eq_true rfl, Nat.le_of_ble_eq_true rfl⟩) hK hw (by first | exact Int.le_refl 0 | omega) (by first | exact zlt hc40 | omega) sl_40_0 rfl rfl hl.1 rfl (Nat.le_of_ble_eq_true rfl) dX9_itemAt_39 ⟨Nat.le_of_ble_eq_true rfl, Nat.le_of_ble_eq_true rfl⟩) hS (fun z12 u13 H locs p14 hw hS => ?_)
      obtain ⟨eu13, p14⟩ := p14
      subst eu13
      have e15 : ∀ j : Int, X1 55 0 j = X 55 0 j := fun j => by rw [hX1, u3_k _ _ _ _ (by first | exact Nat.ne_of_beq_eq_false rfl | decide)]
      have e16 : ∀ j : Int, X1 46 0 j = X 46 0 j := fun j => by rw [hX1, u3_k _ _ _ _ (by first | exact Nat.ne_of_beq_eq_false rfl | decide)]
      simp only [e15, e16] at p14
      refine lv_iconst (v := jI 3) hx hb dX9_itemAt_42 rfl ?_
      refine x_icmp_ge (tgt := 50) hx hb (by omega) (by omega) dX9_itemAt_43 (by decide) (fun c17 => ?_) (fun c17 => ?_)
      · refine lv_aload_n hx hb dX9_itemAt_50 rfl (lv_at hl 0 rfl) ?_
        refine x_geto hx hb hf9 hw (by first | exact Int.le_refl 0 | omega) (by first | exact zlt hc40 | omega) sl_40_15 lk48 dX9_itemAt_51 ?_
        refine lv_iconst (v := jI 5) hx hb dX9_itemAt_54 rfl ?_
        refine lv_iload_n hx hb dX9_itemAt_55 rfl (lv_at hl 1 rfl) ?_
        refine x_imul hx hb dX9_itemAt_56 ?_
        refine lv_iload_n hx hb dX9_itemAt_57 rfl (lv_at hl 2 rfl) ?_
        refine x_iadd hx hb dX9_itemAt_58 ?_
        obtain ⟨hy1, hy2, hy3⟩ := hMI.1 x k (by omega) (by omega) (by omega) (by omega)
        refine x_lald hx hb hK.1 hw (by first | exact Int.le_refl 0 | omega) (by first | exact zlt hc56 | omega) ar_56 (len_E ar_56 (by first | exact Nat.ne_of_beq_eq_false rfl | decide)) (by omega) (by omega) (by omega) dX9_itemAt_59 ?_
        have e18 : ∀ p9 q9 : Int, X1 56 p9 q9 = X 56 p9 q9 := fun p9 q9 => by rw [hX1, u3_k _ _ _ _ (by first | exact Nat.ne_of_beq_eq_false rfl | decide)]
        rw [e18 0 ((5 * x) + k)]
        have f19 : (-9223372036854775808) ≤ X 56 0 ((5 * x) + k) ∧ X 56 0 ((5 * x) + k) ≤ 9223372036854775807 := hR 56 0 ((5 * x) + k)
        refine x_l2i hx hb dX9_itemAt_60 ?_
        refine lv_istore (lv' := [(4, .int (jI (X 56 0 ((5 * x) + k)))), (0, .ref (ad 40 0)), (1, .int (jI x)), (2, .int (jI k)), (3, .int (jI i))]) hx hb dX9_itemAt_61 hl (by decide) rfl (fun ls hl => ?_)
        refine lv_iload hx hb dX9_itemAt_63 (lv_at hl 0 rfl) ?_
        refine x_if_ge (tgt := 75) hx hb (by omega) dX9_itemAt_65 (by decide) (fun c20 => ?_) (fun c20 => ?_)
        · refine lv_iload_n hx hb dX9_itemAt_75 rfl (lv_at hl 4 rfl) ?_
          refine x_if_lt (tgt := 90) hx hb (by omega) dX9_itemAt_76 (by decide) (fun c21 => ?_) (fun c21 => ?_)
          · refine lv_aload_n hx hb dX9_itemAt_90 rfl (lv_at hl 1 rfl) ?_
            refine lv_iconst (v := jI 3) hx hb dX9_itemAt_91 rfl ?_
            refine x_puti (jz := 0) hx hb hf9 ⟨tyX9_ok, nmX9⟩ hw hS (by first | exact Int.le_refl 0 | omega) (by first | exact zlt hc40 | omega) sl_40_0 rfl lk145 rfl (tyX9_ok 0 (by decide)) rfl rfl dX9_itemAt_92 (fun H locs hw hS => ?_)
            obtain ⟨X22, hX22⟩ : ∃ Xq, Xq = u3 X1 40 0 0 3 := ⟨_, rfl⟩
            rw [← hX22] at hw
            have hRX22 : Rng X22 := by rw [hX22]; exact rng_set hRX1 (show (-2147483648) ≤ 3 ∧ 3 ≤ 2147483647 by omega)
            have hVX22 : X22 40 0 0 = 3 := by rw [hX22]; exact u3_s _ _ _ _ _
            have hFX22 : Frm [4001] X X22 := by rw [hX22]; exact Frm.set hFX1 (show 4001 ∈ [4001] by first | exact nlm_in rfl | decide)
            refine lv_lconst (v := jL 0) hx hb dX9_itemAt_95 (by decide) ?_
            rw [hQ9]
            refine ret_l (mc := 0) (ms := 0) hx hb hr hlocks hw hS (by first | exact Nat.le_of_ble_eq_true rfl | omega) (by first | exact Nat.le_of_ble_eq_true rfl | omega) dX9_itemAt_96 ?_
            have hMq23 : MInv X22 := minv_frm hMI hFX22 (by decide)
            have e26 : X22 40 0 0 = 3 := (by exact hVX22)
            exact ⟨X22, rfl, hRX22, hFX22, hMq23, by omega, (by (try delta Hid at *); first | exact Or.inl ⟨(fun q => by omega), by omega, by omega⟩ | exact Or.inr (Or.inl ⟨(by omega), (fun q => by omega), by omega, by omega⟩) | exact Or.inr (Or.inr (Or.inl ⟨(by omega), (by omega), by omega, by omega⟩)) | exact Or.inr (Or.inr (Or.inr (Or.inl ⟨(by omega), by omega, by omega, (fun q => by omega), by omega, by omega⟩))) | exact Or.inr (Or.inr (Or.inr (Or.inr (⟨(by omega), by omega, by omega, (by omega), by omega, by omega⟩)))))⟩
          · refine lv_iload_n hx hb dX9_itemAt_79 rfl (lv_at hl 4 rfl) ?_
            refine lv_aload_n hx hb dX9_itemAt_80 rfl (lv_at hl 1 rfl) ?_
            refine x_geto hx hb hf9 hw (by first | exact Int.le_refl 0 | omega) (by first | exact zlt hc40 | omega) sl_40_17 lk54 dX9_itemAt_81 ?_
            refine lv_iload hx hb dX9_itemAt_84 (lv_at hl 0 rfl) ?_
            refine x_iald hx hb hK.1 hw (by first | exact Int.le_refl 0 | omega) (by first | exact zlt hc58 | omega) ar_58 (len_E ar_58 (by first | exact Nat.ne_of_beq_eq_false rfl | decide)) (by omega) (by omega) (by omega) dX9_itemAt_86 ?_
            have e27 : ∀ p9 q9 : Int, X1 58 p9 q9 = X 58 p9 q9 := fun p9 q9 => by rw [hX1, u3_k _ _ _ _ (by first | exact Nat.ne_of_beq_eq_false rfl | decide)]
            rw [e27 0 (X 56 0 ((5 * x) + k))]
            have f28 : 0 ≤ X 58 0 (X 56 0 ((5 * x) + k)) ∧ X 58 0 (X 56 0 ((5 * x) + k)) ≤ 12 := hR 58 0 (X 56 0 ((5 * x) + k))
            refine x_icmp_lt (tgt := 97) hx hb (by omega) (by omega) dX9_itemAt_87 (by decide) (fun c29 => ?_) (fun c29 => ?_)
            · refine lv_aload_n hx hb dX9_itemAt_97 rfl (lv_at hl 1 rfl) ?_
              refine x_geto hx hb hf9 hw (by first | exact Int.le_refl 0 | omega) (by first | exact zlt hc40 | omega) sl_40_18 lk57 dX9_itemAt_98 ?_
              refine lv_bipush (v := jI 12) hx hb dX9_itemAt_101 (by decide) ?_
              refine lv_iload hx hb dX9_itemAt_103 (lv_at hl 0 rfl) ?_
              refine x_imul hx hb dX9_itemAt_105 ?_
              refine lv_iload_n hx hb dX9_itemAt_106 rfl (lv_at hl 4 rfl) ?_
              refine x_iadd hx hb dX9_itemAt_107 ?_
              refine x_lald hx hb hK.1 hw (by first | exact Int.le_refl 0 | omega) (by first | exact zlt hc59 | omega) ar_59 (len_E ar_59 (by first | exact Nat.ne_of_beq_eq_false rfl | decide)) (by omega) (by omega) (by omega) dX9_itemAt_108 ?_
              have e30 : ∀ p9 q9 : Int, X1 59 p9 q9 = X 59 p9 q9 := fun p9 q9 => by rw [hX1, u3_k _ _ _ _ (by first | exact Nat.ne_of_beq_eq_false rfl | decide)]
              rw [e30 0 ((12 * (X 56 0 ((5 * x) + k))) + i)]
              have f31 : (-9223372036854775808) ≤ X 59 0 ((12 * (X 56 0 ((5 * x) + k))) + i) ∧ X 59 0 ((12 * (X 56 0 ((5 * x) + k))) + i) ≤ 9223372036854775807 := hR 59 0 ((12 * (X 56 0 ((5 * x) + k))) + i)
              rw [hQ9]
              refine ret_l (mc := 0) (ms := 0) hx hb hr hlocks hw hS (by first | exact Nat.le_of_ble_eq_true rfl | omega) (by first | exact Nat.le_of_ble_eq_true rfl | omega) dX9_itemAt_109 ?_
              have hMq32 : MInv X1 := minv_frm hMI q900063 (by decide)
              have e34 : X1 40 0 0 = 0 := (by exact hVX1)
              exact ⟨X1, rfl, hRX1, hFX1, hMq32, by omega, (by (try delta Hid at *); first | exact Or.inr (Or.inr (Or.inr (Or.inr (⟨(by omega), by omega, by omega, (by omega), by omega, by omega⟩)))) | exact Or.inl ⟨(fun q => by omega), by omega, by omega⟩ | exact Or.inr (Or.inl ⟨(by omega), (fun q => by omega), by omega, by omega⟩) | exact Or.inr (Or.inr (Or.inl ⟨(by omega), (by omega), by omega, by omega⟩)) | exact Or.inr (Or.inr (Or.inr (Or.inl ⟨(by omega), by omega, by omega, (fun q => by omega), by omega, by omega⟩))))⟩
            · refine lv_aload_n hx hb dX9_itemAt_90 rfl (lv_at hl 1 rfl) ?_
              refine lv_iconst (v := jI 3) hx hb dX9_itemAt_91 rfl ?_
              refine x_puti (jz := 0) hx hb hf9 ⟨tyX9_ok, nmX9⟩ hw hS (by first | exact Int.le_refl 0 | omega) (by first | exact zlt hc40 | omega) sl_40_0 rfl lk145 rfl (tyX9_ok 0 (by decide)) rfl rfl dX9_itemAt_92 (fun H locs hw hS => ?_)
              obtain ⟨X35, hX35⟩ : ∃ Xq, Xq = u3 X1 40 0 0 3 := ⟨_, rfl⟩
              rw [← hX35] at hw
              have hRX35 : Rng X35 := by rw [hX35]; exact rng_set hRX1 (show (-2147483648) ≤ 3 ∧ 3 ≤ 2147483647 by omega)
              have hVX35 : X35 40 0 0 = 3 := by rw [hX35]; exact u3_s _ _ _ _ _
              have hFX35 : Frm [4001] X X35 := by rw [hX35]; exact Frm.set hFX1 (show 4001 ∈ [4001] by first | exact nlm_in rfl | decide)
              refine lv_lconst (v := jL 0) hx hb dX9_itemAt_95 (by decide) ?_
              rw [hQ9]
              refine ret_l (mc := 0) (ms := 0) hx hb hr hlocks hw hS (by first | exact Nat.le_of_ble_eq_true rfl | omega) (by first | exact Nat.le_of_ble_eq_true rfl | omega) dX9_itemAt_96 ?_
              have hMq36 : MInv X35 := minv_frm hMI hFX35 (by decide)
              have e39 : X35 40 0 0 = 3 := (by exact hVX35)
              exact ⟨X35, rfl, hRX35, hFX35, hMq36, by omega, (by (try delta Hid at *); first | exact Or.inl ⟨(fun q => by omega), by omega, by omega⟩ | exact Or.inr (Or.inl ⟨(by omega), (fun q => by omega), by omega, by omega⟩) | exact Or.inr (Or.inr (Or.inl ⟨(by omega), (by omega), by omega, by omega⟩)) | exact Or.inr (Or.inr (Or.inr (Or.inl ⟨(by omega), by omega, by omega, (fun q => by omega), by omega, by omega⟩))) | exact Or.inr (Or.inr (Or.inr (Or.inr (⟨(by omega), by omega, by omega, (by omega), by omega, by omega⟩)))))⟩
        · refine lv_aload_n hx hb dX9_itemAt_68 rfl (lv_at hl 1 rfl) ?_
          refine lv_iconst (v := jI 2) hx hb dX9_itemAt_69 rfl ?_
          refine x_puti (jz := 0) hx hb hf9 ⟨tyX9_ok, nmX9⟩ hw hS (by first | exact Int.le_refl 0 | omega) (by first | exact zlt hc40 | omega) sl_40_0 rfl lk145 rfl (tyX9_ok 0 (by decide)) rfl rfl dX9_itemAt_70 (fun H locs hw hS => ?_)
          obtain ⟨X40, hX40⟩ : ∃ Xq, Xq = u3 X1 40 0 0 2 := ⟨_, rfl⟩
          rw [← hX40] at hw
          have hRX40 : Rng X40 := by rw [hX40]; exact rng_set hRX1 (show (-2147483648) ≤ 2 ∧ 2 ≤ 2147483647 by omega)
          have hVX40 : X40 40 0 0 = 2 := by rw [hX40]; exact u3_s _ _ _ _ _
          have hFX40 : Frm [4001] X X40 := by rw [hX40]; exact Frm.set hFX1 (show 4001 ∈ [4001] by first | exact nlm_in rfl | decide)
          refine lv_lconst (v := jL 0) hx hb dX9_itemAt_73 (by decide) ?_
          rw [hQ9]
          refine ret_l (mc := 0) (ms := 0) hx hb hr hlocks hw hS (by first | exact Nat.le_of_ble_eq_true rfl | omega) (by first | exact Nat.le_of_ble_eq_true rfl | omega) dX9_itemAt_74 ?_
          have hMq41 : MInv X40 := minv_frm hMI hFX40 (by decide)
          have e44 : X40 40 0 0 = 2 := (by exact hVX40)
          exact ⟨X40, rfl, hRX40, hFX40, hMq41, by omega, (by (try delta Hid at *); first | exact Or.inl ⟨(fun q => by omega), by omega, by omega⟩ | exact Or.inr (Or.inl ⟨(by omega), (fun q => by omega), by omega, by omega⟩) | exact Or.inr (Or.inr (Or.inl ⟨(by omega), (by omega), by omega, by omega⟩)) | exact Or.inr (Or.inr (Or.inr (Or.inl ⟨(by omega), by omega, by omega, (fun q => by omega), by omega, by omega⟩))) | exact Or.inr (Or.inr (Or.inr (Or.inr (⟨(by omega), by omega, by omega, (by omega), by omega, by omega⟩)))))⟩
      · refine lv_iconst (v := jI (-1)) hx hb dX9_itemAt_46 rfl ?_
        refine lv_goto (tgt := 61) hx hb dX9_itemAt_47 (by decide) ?_
        refine lv_istore (lv' := [(4, .int (jI (-1))), (0, .ref (ad 40 0)), (1, .int (jI x)), (2, .int (jI k)), (3, .int (jI i))]) hx hb dX9_itemAt_61 hl (by decide) rfl (fun ls hl => ?_)
        refine lv_iload hx hb dX9_itemAt_63 (lv_at hl 0 rfl) ?_
        refine x_if_ge (tgt := 75) hx hb (by omega) dX9_itemAt_65 (by decide) (fun c45 => ?_) (fun c45 => ?_)
        · refine lv_iload_n hx hb dX9_itemAt_75 rfl (lv_at hl 4 rfl) ?_
          refine x_if_lt (tgt := 90) hx hb (by omega) dX9_itemAt_76 (by decide) (fun c46 => ?_) (fun c46 => ?_)
          · refine lv_aload_n hx hb dX9_itemAt_90 rfl (lv_at hl 1 rfl) ?_
            refine lv_iconst (v := jI 3) hx hb dX9_itemAt_91 rfl ?_
            refine x_puti (jz := 0) hx hb hf9 ⟨tyX9_ok, nmX9⟩ hw hS (by first | exact Int.le_refl 0 | omega) (by first | exact zlt hc40 | omega) sl_40_0 rfl lk145 rfl (tyX9_ok 0 (by decide)) rfl rfl dX9_itemAt_92 (fun H locs hw hS => ?_)
            obtain ⟨X47, hX47⟩ : ∃ Xq, Xq = u3 X1 40 0 0 3 := ⟨_, rfl⟩
            rw [← hX47] at hw
            have hRX47 : Rng X47 := by rw [hX47]; exact rng_set hRX1 (show (-2147483648) ≤ 3 ∧ 3 ≤ 2147483647 by omega)
            have hVX47 : X47 40 0 0 = 3 := by rw [hX47]; exact u3_s _ _ _ _ _
            have hFX47 : Frm [4001] X X47 := by rw [hX47]; exact Frm.set hFX1 (show 4001 ∈ [4001] by first | exact nlm_in rfl | decide)
            refine lv_lconst (v := jL 0) hx hb dX9_itemAt_95 (by decide) ?_
            rw [hQ9]
            refine ret_l (mc := 0) (ms := 0) hx hb hr hlocks hw hS (by first | exact Nat.le_of_ble_eq_true rfl | omega) (by first | exact Nat.le_of_ble_eq_true rfl | omega) dX9_itemAt_96 ?_
            have hMq48 : MInv X47 := minv_frm hMI hFX47 (by decide)
            have e51 : X47 40 0 0 = 3 := (by exact hVX47)
            exact ⟨X47, rfl, hRX47, hFX47, hMq48, by omega, (by (try delta Hid at *); first | exact Or.inl ⟨(fun q => by omega), by omega, by omega⟩ | exact Or.inr (Or.inl ⟨(by omega), (fun q => by omega), by omega, by omega⟩) | exact Or.inr (Or.inr (Or.inl ⟨(by omega), (by omega), by omega, by omega⟩)) | exact Or.inr (Or.inr (Or.inr (Or.inl ⟨(by omega), by omega, by omega, (fun q => by omega), by omega, by omega⟩))) | exact Or.inr (Or.inr (Or.inr (Or.inr (⟨(by omega), by omega, by omega, (by omega), by omega, by omega⟩)))))⟩
          · refine lv_iload_n hx hb dX9_itemAt_79 rfl (lv_at hl 4 rfl) ?_
            refine lv_aload_n hx hb dX9_itemAt_80 rfl (lv_at hl 1 rfl) ?_
            refine x_geto hx hb hf9 hw (by first | exact Int.le_refl 0 | omega) (by first | exact zlt hc40 | omega) sl_40_17 lk54 dX9_itemAt_81 ?_
            refine lv_iload hx hb dX9_itemAt_84 (lv_at hl 0 rfl) ?_
            refine x_iald hx hb hK.1 hw (by first | exact Int.le_refl 0 | omega) (by first | exact zlt hc58 | omega) ar_58 (len_E ar_58 (by first | exact Nat.ne_of_beq_eq_false rfl | decide)) (by omega) (by omega) (by omega) dX9_itemAt_86 ?_
            have e52 : ∀ p9 q9 : Int, X1 58 p9 q9 = X 58 p9 q9 := fun p9 q9 => by rw [hX1, u3_k _ _ _ _ (by first | exact Nat.ne_of_beq_eq_false rfl | decide)]
            rw [e52 0 (-1)]
            have f53 : 0 ≤ X 58 0 (-1) ∧ X 58 0 (-1) ≤ 12 := hR 58 0 (-1)
            refine x_icmp_lt (tgt := 97) hx hb (by omega) (by omega) dX9_itemAt_87 (by decide) (fun c54 => ?_) (fun c54 => ?_)
            · refine lv_aload_n hx hb dX9_itemAt_97 rfl (lv_at hl 1 rfl) ?_
              refine x_geto hx hb hf9 hw (by first | exact Int.le_refl 0 | omega) (by first | exact zlt hc40 | omega) sl_40_18 lk57 dX9_itemAt_98 ?_
              refine lv_bipush (v := jI 12) hx hb dX9_itemAt_101 (by decide) ?_
              refine lv_iload hx hb dX9_itemAt_103 (lv_at hl 0 rfl) ?_
              refine x_imul hx hb dX9_itemAt_105 ?_
              refine lv_iload_n hx hb dX9_itemAt_106 rfl (lv_at hl 4 rfl) ?_
              refine x_iadd hx hb dX9_itemAt_107 ?_
              refine x_lald hx hb hK.1 hw (by first | exact Int.le_refl 0 | omega) (by first | exact zlt hc59 | omega) ar_59 (len_E ar_59 (by first | exact Nat.ne_of_beq_eq_false rfl | decide)) (by omega) (by omega) (by omega) dX9_itemAt_108 ?_
              have e55 : ∀ p9 q9 : Int, X1 59 p9 q9 = X 59 p9 q9 := fun p9 q9 => by rw [hX1, u3_k _ _ _ _ (by first | exact Nat.ne_of_beq_eq_false rfl | decide)]
              rw [e55 0 ((12 * (-1)) + i)]
              have f56 : (-9223372036854775808) ≤ X 59 0 ((12 * (-1)) + i) ∧ X 59 0 ((12 * (-1)) + i) ≤ 9223372036854775807 := hR 59 0 ((12 * (-1)) + i)
              rw [hQ9]
              refine ret_l (mc := 0) (ms := 0) hx hb hr hlocks hw hS (by first | exact Nat.le_of_ble_eq_true rfl | omega) (by first | exact Nat.le_of_ble_eq_true rfl | omega) dX9_itemAt_109 ?_
              have hMq57 : MInv X1 := minv_frm hMI q900063 (by decide)
              have e59 : X1 40 0 0 = 0 := (by exact hVX1)
              exact ⟨X1, rfl, hRX1, hFX1, hMq57, by omega, (by (try delta Hid at *); first | (have h9z : ((X 59 0 ((12 * (-1)) + i)) : Int) = 0 := (by omega); exact Or.inl ⟨(fun q => by omega), by omega, by omega⟩) | (have h9z : ((X 59 0 ((12 * (-1)) + i)) : Int) = 0 := (by omega); exact Or.inr (Or.inl ⟨(by omega), (fun q => by omega), by omega, by omega⟩)) | (have h9z : ((X 59 0 ((12 * (-1)) + i)) : Int) = 0 := (by omega); exact Or.inr (Or.inr (Or.inl ⟨(by omega), (by omega), by omega, by omega⟩))) | (have h9z : ((X 59 0 ((12 * (-1)) + i)) : Int) = 0 := (by omega); exact Or.inr (Or.inr (Or.inr (Or.inl ⟨(by omega), by omega, by omega, (fun q => by omega), by omega, by omega⟩)))) | exact Or.inr (Or.inr (Or.inr (Or.inr (⟨(by omega), by omega, by omega, (by omega), by omega, by omega⟩)))) | exact Or.inl ⟨(fun q => by omega), by omega, by omega⟩ | exact Or.inr (Or.inl ⟨(by omega), (fun q => by omega), by omega, by omega⟩) | exact Or.inr (Or.inr (Or.inl ⟨(by omega), (by omega), by omega, by omega⟩)) | exact Or.inr (Or.inr (Or.inr (Or.inl ⟨(by omega), by omega, by omega, (fun q => by omega), by omega, by omega⟩))))⟩
            · refine lv_aload_n hx hb dX9_itemAt_90 rfl (lv_at hl 1 rfl) ?_
              refine lv_iconst (v := jI 3) hx hb dX9_itemAt_91 rfl ?_
              refine x_puti (jz := 0) hx hb hf9 ⟨tyX9_ok, nmX9⟩ hw hS (by first | exact Int.le_refl 0 | omega) (by first | exact zlt hc40 | omega) sl_40_0 rfl lk145 rfl (tyX9_ok 0 (by decide)) rfl rfl dX9_itemAt_92 (fun H locs hw hS => ?_)
              obtain ⟨X60, hX60⟩ : ∃ Xq, Xq = u3 X1 40 0 0 3 := ⟨_, rfl⟩
              rw [← hX60] at hw
              have hRX60 : Rng X60 := by rw [hX60]; exact rng_set hRX1 (show (-2147483648) ≤ 3 ∧ 3 ≤ 2147483647 by omega)
              have hVX60 : X60 40 0 0 = 3 := by rw [hX60]; exact u3_s _ _ _ _ _
              have hFX60 : Frm [4001] X X60 := by rw [hX60]; exact Frm.set hFX1 (show 4001 ∈ [4001] by first | exact nlm_in rfl | decide)
              refine lv_lconst (v := jL 0) hx hb dX9_itemAt_95 (by decide) ?_
              rw [hQ9]
              refine ret_l (mc := 0) (ms := 0) hx hb hr hlocks hw hS (by first | exact Nat.le_of_ble_eq_true rfl | omega) (by first | exact Nat.le_of_ble_eq_true rfl | omega) dX9_itemAt_96 ?_
              have hMq61 : MInv X60 := minv_frm hMI hFX60 (by decide)
              have e64 : X60 40 0 0 = 3 := (by exact hVX60)
              exact ⟨X60, rfl, hRX60, hFX60, hMq61, by omega, (by (try delta Hid at *); first | exact Or.inl ⟨(fun q => by omega), by omega, by omega⟩ | exact Or.inr (Or.inl ⟨(by omega), (fun q => by omega), by omega, by omega⟩) | exact Or.inr (Or.inr (Or.inl ⟨(by omega), (by omega), by omega, by omega⟩)) | exact Or.inr (Or.inr (Or.inr (Or.inl ⟨(by omega), by omega, by omega, (fun q => by omega), by omega, by omega⟩))) | exact Or.inr (Or.inr (Or.inr (Or.inr (⟨(by omega), by omega, by omega, (by omega), by omega, by omega⟩)))))⟩
        · refine lv_aload_n hx hb dX9_itemAt_68 rfl (lv_at hl 1 rfl) ?_
          refine lv_iconst (v := jI 2) hx hb dX9_itemAt_69 rfl ?_
          refine x_puti (jz := 0) hx hb hf9 ⟨tyX9_ok, nmX9⟩ hw hS (by first | exact Int.le_refl 0 | omega) (by first | exact zlt hc40 | omega) sl_40_0 rfl lk145 rfl (tyX9_ok 0 (by decide)) rfl rfl dX9_itemAt_70 (fun H locs hw hS => ?_)
          obtain ⟨X65, hX65⟩ : ∃ Xq, Xq = u3 X1 40 0 0 2 := ⟨_, rfl⟩
          rw [← hX65] at hw
          have hRX65 : Rng X65 := by rw [hX65]; exact rng_set hRX1 (show (-2147483648) ≤ 2 ∧ 2 ≤ 2147483647 by omega)
          have hVX65 : X65 40 0 0 = 2 := by rw [hX65]; exact u3_s _ _ _ _ _
          have hFX65 : Frm [4001] X X65 := by rw [hX65]; exact Frm.set hFX1 (show 4001 ∈ [4001] by first | exact nlm_in rfl | decide)
          refine lv_lconst (v := jL 0) hx hb dX9_itemAt_73 (by decide) ?_
          rw [hQ9]
          refine ret_l (mc := 0) (ms := 0) hx hb hr hlocks hw hS (by first | exact Nat.le_of_ble_eq_true rfl | omega) (by first | exact Nat.le_of_ble_eq_true rfl | omega) dX9_itemAt_74 ?_
          have hMq66 : MInv X65 := minv_frm hMI hFX65 (by decide)
          have e69 : X65 40 0 0 = 2 := (by exact hVX65)
          exact ⟨X65, rfl, hRX65, hFX65, hMq66, by omega, (by (try delta Hid at *); first | exact Or.inl ⟨(fun q => by omega), by omega, by omega⟩ | exact Or.inr (Or.inl ⟨(by omega), (fun q => by omega), by omega, by omega⟩) | exact Or.inr (Or.inr (Or.inl ⟨(by omega), (by omega), by omega, by omega⟩)) | exact Or.inr (Or.inr (Or.inr (Or.inl ⟨(by omega), by omega, by omega, (fun q => by omega), by omega, by omega⟩))) | exact Or.inr (Or.inr (Or.inr (Or.inr (⟨(by omega), by omega, by omega, (by omega), by omega, by omega⟩)))))⟩
    · subst ez6
      refine x_if_neF (tgt := 36) hx hb (by omega) (by decide) dX9_itemAt_26 (by decide) ?_
      refine lv_aload_n hx hb dX9_itemAt_29 rfl (lv_at hl 0 rfl) ?_
      refine lv_iconst (v := jI 3) hx hb dX9_itemAt_30 rfl ?_
      refine x_puti (jz := 0) hx hb hf9 ⟨tyX9_ok, nmX9⟩ hw hS (by first | exact Int.le_refl 0 | omega) (by first | exact zlt hc40 | omega) sl_40_0 rfl lk145 rfl (tyX9_ok 0 (by decide)) rfl rfl dX9_itemAt_31 (fun H locs hw hS => ?_)
      obtain ⟨X70, hX70⟩ : ∃ Xq, Xq = u3 X1 40 0 0 3 := ⟨_, rfl⟩
      rw [← hX70] at hw
      have hRX70 : Rng X70 := by rw [hX70]; exact rng_set hRX1 (show (-2147483648) ≤ 3 ∧ 3 ≤ 2147483647 by omega)
      have hVX70 : X70 40 0 0 = 3 := by rw [hX70]; exact u3_s _ _ _ _ _
      have hFX70 : Frm [4001] X X70 := by rw [hX70]; exact Frm.set hFX1 (show 4001 ∈ [4001] by first | exact nlm_in rfl | decide)
      refine lv_lconst (v := jL 0) hx hb dX9_itemAt_34 (by decide) ?_
      rw [hQ9]
      refine ret_l (mc := 0) (ms := 0) hx hb hr hlocks hw hS (by first | exact Nat.le_of_ble_eq_true rfl | omega) (by first | exact Nat.le_of_ble_eq_true rfl | omega) dX9_itemAt_35 ?_
      have hMq71 : MInv X70 := minv_frm hMI hFX70 (by decide)
      have e74 : X70 40 0 0 = 3 := (by exact hVX70)
      exact ⟨X70, rfl, hRX70, hFX70, hMq71, by omega, (by (try delta Hid at *); first | exact Or.inl ⟨(fun q => by omega), by omega, by omega⟩ | exact Or.inr (Or.inl ⟨(by omega), (fun q => by omega), by omega, by omega⟩) | exact Or.inr (Or.inr (Or.inl ⟨(by omega), (by omega), by omega, by omega⟩)) | exact Or.inr (Or.inr (Or.inr (Or.inl ⟨(by omega), by omega, by omega, (fun q => by omega), by omega, by omega⟩))) | exact Or.inr (Or.inr (Or.inr (Or.inr (⟨(by omega), by omega, by omega, (by omega), by omega, by omega⟩)))))⟩
  · subst ez2
    refine x_if_neF (tgt := 20) hx hb (by omega) (by decide) dX9_itemAt_10 (by decide) ?_
    refine lv_aload_n hx hb dX9_itemAt_13 rfl (lv_at hl 0 rfl) ?_
    refine lv_iconst (v := jI 1) hx hb dX9_itemAt_14 rfl ?_
    refine x_puti (jz := 0) hx hb hf9 ⟨tyX9_ok, nmX9⟩ hw hS (by first | exact Int.le_refl 0 | omega) (by first | exact zlt hc40 | omega) sl_40_0 rfl lk145 rfl (tyX9_ok 0 (by decide)) rfl rfl dX9_itemAt_15 (fun H locs hw hS => ?_)
    obtain ⟨X75, hX75⟩ : ∃ Xq, Xq = u3 X1 40 0 0 1 := ⟨_, rfl⟩
    rw [← hX75] at hw
    have hRX75 : Rng X75 := by rw [hX75]; exact rng_set hRX1 (show (-2147483648) ≤ 1 ∧ 1 ≤ 2147483647 by omega)
    have hVX75 : X75 40 0 0 = 1 := by rw [hX75]; exact u3_s _ _ _ _ _
    have hFX75 : Frm [4001] X X75 := by rw [hX75]; exact Frm.set hFX1 (show 4001 ∈ [4001] by first | exact nlm_in rfl | decide)
    refine lv_lconst (v := jL 0) hx hb dX9_itemAt_18 (by decide) ?_
    rw [hQ9]
    refine ret_l (mc := 0) (ms := 0) hx hb hr hlocks hw hS (by first | exact Nat.le_of_ble_eq_true rfl | omega) (by first | exact Nat.le_of_ble_eq_true rfl | omega) dX9_itemAt_19 ?_
    have hMq76 : MInv X75 := minv_frm hMI hFX75 (by decide)
    have e79 : X75 40 0 0 = 1 := (by exact hVX75)
    exact ⟨X75, rfl, hRX75, hFX75, hMq76, by omega, (by (try delta Hid at *); first | exact Or.inl ⟨(fun q => by omega), by omega, by omega⟩ | exact Or.inr (Or.inl ⟨(by omega), (fun q => by omega), by omega, by omega⟩) | exact Or.inr (Or.inr (Or.inl ⟨(by omega), (by omega), by omega, by omega⟩)) | exact Or.inr (Or.inr (Or.inr (Or.inl ⟨(by omega), by omega, by omega, (fun q => by omega), by omega, by omega⟩))) | exact Or.inr (Or.inr (Or.inr (Or.inr (⟨(by omega), by omega, by omega, (by omega), by omega, by omega⟩)))))⟩

set_option maxHeartbeats 4000000 in
set_option maxRecDepth 100000 in
theorem c_X9_drop (l : Launch) (D : va_G) (tc : Nat → ClassId) (base : Nat) (ad : Nat → Int → Nat) (cnt : Nat → Int) (X : Nat → Int → Int → Int) (Y : Nat → Int → Int → Option Int) (ln : Int → Int) (hR : Rng X) (hFx : Fx cnt) (hMI : MInv X) (t k : Int) (ht : -2147483648 ≤ t ∧ t ≤ 2147483647) (hk : -2147483648 ≤ k ∧ k ≤ 2147483647) : KI l D tc base yX9_drop wsX9_drop ({ frames := 1, cells := 0, slots := 0, locals := 21 } : Room) [.ref (ad 40 0), .int (jI t), .int (jI k)] (ad, cnt, X, Y, ln) 0 0 (fun z u => ∃ X1 : Nat → Int → Int → Int, u = (ad, cnt, X1, Y, ln) ∧ Rng X1 ∧ Frm [4001, 4500, 4600, 4700, 4800, 4400, 5600] X X1 ∧ MInv X1 ∧ (-2147483648 ≤ z ∧ z ≤ 2147483647) ∧ ((¬ (0 ≤ t ∧ t < X 40 0 2 ∧ 0 ≤ k ∧ k < X 44 0 t) ∧ z = -1 ∧ X1 44 0 t = X 44 0 t) ∨ (0 ≤ t ∧ t < X 40 0 2 ∧ 0 ≤ k ∧ k < X 44 0 t ∧ 0 < X 40 0 20 ∧ z = -3 ∧ X1 44 0 t = X 44 0 t) ∨ (0 ≤ t ∧ t < X 40 0 2 ∧ 0 ≤ k ∧ k < X 44 0 t ∧ X 40 0 20 = 0 ∧ z = X 44 0 t - 1 ∧ X1 44 0 t = X 44 0 t - 1)) ∧ (0 ≤ z → Sh 45 X X1 0 (5 * t + k) (5 * t + (X 44 0 t - 1)) ∧ Sh 46 X X1 0 (5 * t + k) (5 * t + (X 44 0 t - 1)) ∧ Sh 47 X X1 0 (5 * t + k) (5 * t + (X 44 0 t - 1)) ∧ Sh 48 X X1 0 (5 * t + k) (5 * t + (X 44 0 t - 1))) ∧ (z < 0 → ∀ y, X1 45 0 y = X 45 0 y ∧ X1 46 0 y = X 46 0 y ∧ X1 47 0 y = X 47 0 y ∧ X1 48 0 y = X 48 0 y) ∧ (∀ y, y ≠ t → X1 44 0 y = X 44 0 y) ∧ (0 ≤ z → (∀ y j, 0 ≤ y → y < X 40 0 13 → X 55 0 y = t → k ≤ j → j < X 44 0 t - 1 → X1 56 0 (5 * y + j) = X 56 0 (5 * y + j + 1)) ∧ ∀ y j, 0 ≤ y → y < X 40 0 13 → 0 ≤ j → j ≤ 4 → ¬ (X 55 0 y = t ∧ k ≤ j) → X1 56 0 (5 * y + j) = X 56 0 (5 * y + j)) ∧ (z < 0 → Frm [4001] X X1)) := by
  refine K_of (cc := cX9_drop) (maxL := 5) (ret := (some .int)) (by decide) rfl (Nat.le_of_ble_eq_true rfl) ?_
  intro p e s m below meth c ls hx hb hr hml hown hts hlocks hl hK hw hS
  have hown : s.vm.findClass RX9 = some m.cls := hown
  obtain ⟨av9, hav9⟩ : ∃ a9 : Array Value, a9 = ([.ref (ad 40 0), .int (jI t), .int (jI k)] : List Value).toArray := ⟨_, rfl⟩
  rw [← hav9] at hts ⊢
  obtain ⟨Q9, hQ9⟩ : ∃ q9Q : State → Prop, q9Q = MQ below (QI D tc base (fun z u => ∃ X1 : Nat → Int → Int → Int, u = (ad, cnt, X1, Y, ln) ∧ Rng X1 ∧ Frm [4001, 4500, 4600, 4700, 4800, 4400, 5600] X X1 ∧ MInv X1 ∧ (-2147483648 ≤ z ∧ z ≤ 2147483647) ∧ ((¬ (0 ≤ t ∧ t < X 40 0 2 ∧ 0 ≤ k ∧ k < X 44 0 t) ∧ z = -1 ∧ X1 44 0 t = X 44 0 t) ∨ (0 ≤ t ∧ t < X 40 0 2 ∧ 0 ≤ k ∧ k < X 44 0 t ∧ 0 < X 40 0 20 ∧ z = -3 ∧ X1 44 0 t = X 44 0 t) ∨ (0 ≤ t ∧ t < X 40 0 2 ∧ 0 ≤ k ∧ k < X 44 0 t ∧ X 40 0 20 = 0 ∧ z = X 44 0 t - 1 ∧ X1 44 0 t = X 44 0 t - 1)) ∧ (0 ≤ z → Sh 45 X X1 0 (5 * t + k) (5 * t + (X 44 0 t - 1)) ∧ Sh 46 X X1 0 (5 * t + k) (5 * t + (X 44 0 t - 1)) ∧ Sh 47 X X1 0 (5 * t + k) (5 * t + (X 44 0 t - 1)) ∧ Sh 48 X X1 0 (5 * t + k) (5 * t + (X 44 0 t - 1))) ∧ (z < 0 → ∀ y, X1 45 0 y = X 45 0 y ∧ X1 46 0 y = X 46 0 y ∧ X1 47 0 y = X 47 0 y ∧ X1 48 0 y = X 48 0 y) ∧ (∀ y, y ≠ t → X1 44 0 y = X 44 0 y) ∧ (0 ≤ z → (∀ y j, 0 ≤ y → y < X 40 0 13 → X 55 0 y = t → k ≤ j → j < X 44 0 t - 1 → X1 56 0 (5 * y + j) = X 56 0 (5 * y + j + 1)) ∧ ∀ y j, 0 ≤ y → y < X 40 0 13 → 0 ≤ j → j ≤ 4 → ¬ (X 55 0 y = t ∧ k ≤ j) → X1 56 0 (5 * y + j) = X 56 0 (5 * y + j)) ∧ (z < 0 → Frm [4001] X X1))) av9 s 0 0 (frA base) := ⟨_, rfl⟩
  rw [← hQ9]
  have hi9 : ∀ w ∈ wsX90, w ∈ wsX9_drop := fun w h => List.mem_cons_of_mem _ (List.mem_append_right _ h)
  have hf9 : fctx s m _ RX9 wsX9_drop D tc RX9 TX9 51 9 := ⟨hts, hi9, hown, hK.1, rfl⟩
  have lk13 := hts (.fieldLink RX9 13 (TX9 3).1 (TX9 3).2.1 (TX9 3).2.2.1) (gj_X9_drop_0 _ (gp_1 gp_h))
  have lk17 := hts (.fieldLink RX9 17 (TX9 4).1 (TX9 4).2.1 (TX9 4).2.2.1) (gj_X9_drop_0 _ (gp_1 (gp_1 (gp_1 gp_h))))
  have lk20 := hts (.fieldLink RX9 20 (TX9 5).1 (TX9 5).2.1 (TX9 5).2.2.1) (gj_X9_drop_0 _ (gp_4 gp_h))
  have lk23 := hts (.fieldLink RX9 23 (TX9 6).1 (TX9 6).2.1 (TX9 6).2.2.1) (gj_X9_drop_0 _ (gp_4 (gp_1 gp_h)))
  have lk27 := hts (.fieldLink RX9 27 (TX9 7).1 (TX9 7).2.1 (TX9 7).2.2.1) (gj_X9_drop_0 _ (gp_4 (gp_1 (gp_1 gp_h))))
  have lk45 := hts (.fieldLink RX9 45 (TX9 14).1 (TX9 14).2.1 (TX9 14).2.2.1) (gj_X9_drop_0 _ (gp_4 (gp_4 (gp_1 gp_h))))
  have lk48 := hts (.fieldLink RX9 48 (TX9 15).1 (TX9 15).2.1 (TX9 15).2.2.1) (gj_X9_drop_0 _ (gp_4 (gp_4 gp_h)))
  have lk145 := hts (.fieldLink RX9 145 (TX9 0).1 (TX9 0).2.1 (TX9 0).2.2.1) (gj_X9_drop_0 _ (gp_h))
  have lk151 := hts (.fieldLink RX9 151 (TX9 13).1 (TX9 13).2.1 (TX9 13).2.2.1) (gj_X9_drop_0 _ (gp_4 (gp_1 (gp_1 (gp_1 gp_h)))))
  have lk165 := hts (.fieldLink RX9 165 (TX9 20).1 (TX9 20).2.1 (TX9 20).2.2.1) (gj_X9_drop_0 _ (gp_1 (gp_1 gp_h)))
  have hc40 : cnt 40 = 1 := hFx.at 40 1 (by decide)
  have hc44 : cnt 44 = 1 := hFx.at 44 1 (by decide)
  have hc45 : cnt 45 = 1 := hFx.at 45 1 (by decide)
  have hc46 : cnt 46 = 1 := hFx.at 46 1 (by decide)
  have hc47 : cnt 47 = 1 := hFx.at 47 1 (by decide)
  have hc48 : cnt 48 = 1 := hFx.at 48 1 (by decide)
  have hc55 : cnt 55 = 1 := hFx.at 55 1 (by decide)
  have hc56 : cnt 56 = 1 := hFx.at 56 1 (by decide)
  have hl : lv_has ls 5 [(0, .ref (ad 40 0)), (1, .int (jI t)), (2, .int (jI k))] := hl
  have fstypes : 0 ≤ X 40 0 2 ∧ X 40 0 2 ≤ 8 := hR 40 0 2
  have fsthings : 0 ≤ X 40 0 13 ∧ X 40 0 13 ≤ 30 := hR 40 0 13
  have fsmarks : 0 ≤ X 40 0 20 ∧ X 40 0 20 ≤ 4 := hR 40 0 20
  have fsnotes : 0 ≤ X 40 0 22 ∧ X 40 0 22 ≤ 80 := hR 40 0 22
  refine lv_aload_n hx hb dX9_drop_0 rfl (lv_at hl 0 rfl) ?_
  refine lv_iconst (v := jI 0) hx hb dX9_drop_1 rfl ?_
  refine x_puti (jz := 0) hx hb hf9 ⟨tyX9_ok, nmX9⟩ hw hS (by first | exact Int.le_refl 0 | omega) (by first | exact zlt hc40 | omega) sl_40_0 rfl lk145 rfl (tyX9_ok 0 (by decide)) rfl rfl dX9_drop_2 (fun H locs hw hS => ?_)
  obtain ⟨X1, hX1⟩ : ∃ Xq, Xq = u3 X 40 0 0 0 := ⟨_, rfl⟩
  rw [← hX1] at hw
  have hRX1 : Rng X1 := by rw [hX1]; exact rng_set hR (show (-2147483648) ≤ 0 ∧ 0 ≤ 2147483647 by omega)
  have hVX1 : X1 40 0 0 = 0 := by rw [hX1]; exact u3_s _ _ _ _ _
  have hFX1 : Frm [4001, 4500, 4600, 4700, 4800, 4400, 5600] X X1 := by rw [hX1]; exact Frm.set Frm.rf (show 4001 ∈ [4001, 4500, 4600, 4700, 4800, 4400, 5600] by first | exact nlm_in rfl | decide)
  refine lv_aload_n hx hb dX9_drop_5 rfl (lv_at hl 0 rfl) ?_
  refine lv_iload_n hx hb dX9_drop_6 rfl (lv_at hl 1 rfl) ?_
  refine gos_i (run_V (As := [.int (jI t)]) (rest := []) hx hb hml hown hts (c_X9_isType l D tc base ad cnt X1 Y ln hRX1 hFx t (by omega)) (cwV 1 hts gX9_drop_X9_isType rfl rfl rfl (by first | exact hd_X9_isType | decide +kernel) ⟨Nat.le_of_ble_eq_true rfl, Nat.le_of_ble_eq_true rfl⟩) hK hw (by first | exact Int.le_refl 0 | omega) (by first | exact zlt hc40 | omega) sl_40_0 rfl rfl hl.1 rfl (Nat.le_of_ble_eq_true rfl) dX9_drop_7 ⟨Nat.le_of_ble_eq_true rfl, Nat.le_of_ble_eq_true rfl⟩) hS (fun z2 u3 H locs p4 hw hS => ?_)
  obtain ⟨eu3, p4⟩ := p4
  subst eu3
  have e5 : X1 40 0 2 = X 40 0 2 := by rw [hX1, u3_j _ _ _ _ (by decide)]
  simp only [e5] at p4
  have q900065 : Frm [4001] X X1 := by rw [hX1]; exact Frm.set Frm.rf (show 4001 ∈ [4001] by first | exact nlm_in rfl | decide)
  rcases p4 with ⟨ez2, p4⟩ | ⟨ez2, p4⟩
  · subst ez2
    refine x_if_eqF (tgt := 27) hx hb (by omega) (by decide) dX9_drop_10 (by decide) ?_
    refine lv_iload_n hx hb dX9_drop_13 rfl (lv_at hl 2 rfl) ?_
    refine x_if_lt (tgt := 27) hx hb (by omega) dX9_drop_14 (by decide) (fun c6 => ?_) (fun c6 => ?_)
    · refine lv_iconst (v := jI (-1)) hx hb dX9_drop_27 rfl ?_
      rw [hQ9]
      refine ret_i (mc := 0) (ms := 0) hx hb hr hlocks hw hS (by first | exact Nat.le_of_ble_eq_true rfl | omega) (by first | exact Nat.le_of_ble_eq_true rfl | omega) dX9_drop_28 ?_
      have q8 : Frm [4001] X X1 := by rw [hX1]; exact Frm.set Frm.rf (show 4001 ∈ [4001] by first | exact nlm_in rfl | decide)
      have hMq7 : MInv X1 := minv_frm hMI q8 (by decide)
      have e9 : X1 44 0 t = X 44 0 t := (by rw [hX1, u3_k _ _ _ _ (by first | exact Nat.ne_of_beq_eq_false rfl | decide)])
      have q10 : Frm [4001] X X1 := by rw [hX1]; exact Frm.set Frm.rf (show 4001 ∈ [4001] by first | exact nlm_in rfl | decide)
      exact ⟨X1, rfl, hRX1, hFX1, hMq7, by omega, (by (try delta Hid at *); first | exact Or.inl ⟨(fun q => by omega), by omega, by omega⟩ | exact Or.inr (Or.inr ((⟨by omega, by omega, by omega, by omega, by omega, by omega, by omega⟩))) | omega), fun h => (by exfalso; omega), fun _ y => ⟨(by rw [hX1, u3_k _ _ _ _ (by first | exact Nat.ne_of_beq_eq_false rfl | decide)]), (by rw [hX1, u3_k _ _ _ _ (by first | exact Nat.ne_of_beq_eq_false rfl | decide)]), (by rw [hX1, u3_k _ _ _ _ (by first | exact Nat.ne_of_beq_eq_false rfl | decide)]), (by rw [hX1, u3_k _ _ _ _ (by first | exact Nat.ne_of_beq_eq_false rfl | decide)])⟩, fun y h => (by rw [hX1, u3_k _ _ _ _ (by first | exact Nat.ne_of_beq_eq_false rfl | decide)]), fun q => (by exfalso; omega), fun _ => q10⟩
    · refine lv_iload_n hx hb dX9_drop_17 rfl (lv_at hl 2 rfl) ?_
      refine lv_aload_n hx hb dX9_drop_18 rfl (lv_at hl 0 rfl) ?_
      refine x_geto hx hb hf9 hw (by first | exact Int.le_refl 0 | omega) (by first | exact zlt hc40 | omega) sl_40_3 lk13 dX9_drop_19 ?_
      refine lv_iload_n hx hb dX9_drop_22 rfl (lv_at hl 1 rfl) ?_
      refine x_iald hx hb hK.1 hw (by first | exact Int.le_refl 0 | omega) (by first | exact zlt hc44 | omega) ar_44 (len_E ar_44 (by first | exact Nat.ne_of_beq_eq_false rfl | decide)) (by omega) (by omega) (by omega) dX9_drop_23 ?_
      have e11 : ∀ p9 q9 : Int, X1 44 p9 q9 = X 44 p9 q9 := fun p9 q9 => by rw [hX1, u3_k _ _ _ _ (by first | exact Nat.ne_of_beq_eq_false rfl | decide)]
      rw [e11 0 t]
      have f12 : 0 ≤ X 44 0 t ∧ X 44 0 t ≤ 5 := hR 44 0 t
      refine x_icmp_lt (tgt := 29) hx hb (by omega) (by omega) dX9_drop_24 (by decide) (fun c13 => ?_) (fun c13 => ?_)
      · refine lv_aload_n hx hb dX9_drop_29 rfl (lv_at hl 0 rfl) ?_
        refine x_geti (jz := 20) hx hb hf9 hw (by first | exact Int.le_refl 0 | omega) (by first | exact zlt hc40 | omega) sl_40_20 rfl lk165 dX9_drop_30 ?_
        have e14 : X1 40 0 20 = X 40 0 20 := by rw [hX1, u3_j _ _ _ _ (by decide)]
        rw [e14]
        have f15 : 0 ≤ X 40 0 20 ∧ X 40 0 20 ≤ 4 := hR 40 0 20
        refine x_if_le (tgt := 39) hx hb (by omega) dX9_drop_33 (by decide) (fun c16 => ?_) (fun c16 => ?_)
        · refine lv_iload_n hx hb dX9_drop_39 rfl (lv_at hl 2 rfl) ?_
          refine lv_istore_n (lv' := [(3, .int (jI k)), (0, .ref (ad 40 0)), (1, .int (jI t)), (2, .int (jI k))]) hx hb dX9_drop_40 rfl hl (by decide) rfl (fun ls hl => ?_)
          have lp41 : ∀ (nn : Nat) (j : Int) (Xa : Nat → Int → Int → Int) (H : Heap) (locs : List Loc) (ls : Array Slot), (5 - j) < (nn : Int) → (Rng Xa) → (Frm [4500, 4600, 4700, 4800, 5600] X1 Xa) → (0 ≤ j ∧ j ≤ 5 ∧ k ≤ j ∧ j ≤ X 44 0 t - 1) → (MInv Xa) → (Sh 45 X Xa 0 (5 * t + k) (5 * t + j)) → (Sh 46 X Xa 0 (5 * t + k) (5 * t + j)) → (Sh 47 X Xa 0 (5 * t + k) (5 * t + j)) → (Sh 48 X Xa 0 (5 * t + k) (5 * t + j)) → (DrI X Xa t k j 0) → wd D tc base (ad, cnt, Xa, Y, ln) H → va_S (frA base) s.heap H locs → lv_has ls 5 [(0, .ref (ad 40 0)), (1, .int (jI t)), (2, .int (jI k)), (3, .int (jI j))] → W p l e ({ frames := 1, cells := 0, slots := 0, locals := 21 } : Room) s m av9 below meth c H locs 0 0 Q9 (F0 m 41 ls []) := by
            intro nn
            induction nn with
            | zero => intro j Xa H locs ls hm hRXa hGXa hj hMIXa hs45 hs46 hs47 hs48 hDa hw hS hl; exfalso; omega
            | succ nn ih41 =>
              intro j Xa H locs ls hm hRXa hGXa hj hMIXa hs45 hs46 hs47 hs48 hDa hw hS hl
              have hFXa : Frm [4001, 4500, 4600, 4700, 4800, 4400, 5600] X Xa := Frm.tr hFX1 (Frm.mono hGXa (by first | exact nls_of rfl | decide))
              refine lv_iload_n hx hb dX9_drop_41 rfl (lv_at hl 3 rfl) ?_
              refine lv_iconst (v := jI 1) hx hb dX9_drop_42 rfl ?_
              refine x_iadd hx hb dX9_drop_43 ?_
              refine lv_aload_n hx hb dX9_drop_44 rfl (lv_at hl 0 rfl) ?_
              refine x_geto hx hb hf9 hw (by first | exact Int.le_refl 0 | omega) (by first | exact zlt hc40 | omega) sl_40_3 lk13 dX9_drop_45 ?_
              refine lv_iload_n hx hb dX9_drop_48 rfl (lv_at hl 1 rfl) ?_
              refine x_iald hx hb hK.1 hw (by first | exact Int.le_refl 0 | omega) (by first | exact zlt hc44 | omega) ar_44 (len_E ar_44 (by first | exact Nat.ne_of_beq_eq_false rfl | decide)) (by omega) (by omega) (by omega) dX9_drop_49 ?_
              have e17 : ∀ p9 q9 : Int, Xa 44 p9 q9 = X 44 p9 q9 := fun p9 q9 => by rw [hGXa 44 p9 q9 (show 4400 ∉ [4500, 4600, 4700, 4800, 5600] by first | exact nlm_ni rfl | decide), hX1, u3_k _ _ _ _ (by first | exact Nat.ne_of_beq_eq_false rfl | decide)]
              rw [e17 0 t]
              have f18 : 0 ≤ X 44 0 t ∧ X 44 0 t ≤ 5 := hR 44 0 t
              refine x_icmp_ge (tgt := 214) hx hb (by omega) (by omega) dX9_drop_50 (by decide) (fun c19 => ?_) (fun c19 => ?_)
              · refine lv_aload_n hx hb dX9_drop_214 rfl (lv_at hl 0 rfl) ?_
                refine x_geto hx hb hf9 hw (by first | exact Int.le_refl 0 | omega) (by first | exact zlt hc40 | omega) sl_40_3 lk13 dX9_drop_215 ?_
                refine lv_iload_n hx hb dX9_drop_218 rfl (lv_at hl 1 rfl) ?_
                refine lv_dup2_11 hx hb dX9_drop_219 rfl rfl ?_
                refine x_iald hx hb hK.1 hw (by first | exact Int.le_refl 0 | omega) (by first | exact zlt hc44 | omega) ar_44 (len_E ar_44 (by first | exact Nat.ne_of_beq_eq_false rfl | decide)) (by omega) (by omega) (by omega) dX9_drop_220 ?_
                have e20 : ∀ p9 q9 : Int, Xa 44 p9 q9 = X 44 p9 q9 := fun p9 q9 => by rw [hGXa 44 p9 q9 (show 4400 ∉ [4500, 4600, 4700, 4800, 5600] by first | exact nlm_ni rfl | decide), hX1, u3_k _ _ _ _ (by first | exact Nat.ne_of_beq_eq_false rfl | decide)]
                rw [e20 0 t]
                have f21 : 0 ≤ X 44 0 t ∧ X 44 0 t ≤ 5 := hR 44 0 t
                refine lv_iconst (v := jI 1) hx hb dX9_drop_221 rfl ?_
                refine x_isub hx hb dX9_drop_222 ?_
                refine x_iast hx hb hK.1 hw hS (by first | exact Int.le_refl 0 | omega) (by first | exact zlt hc44 | omega) ar_44 (len_E ar_44 (by first | exact Nat.ne_of_beq_eq_false rfl | decide)) (by omega) (by omega) (by omega) dX9_drop_223 (fun H locs hw hS => ?_)
                obtain ⟨X22, hX22⟩ : ∃ Xq, Xq = u3 Xa 44 0 t ((X 44 0 t) - 1) := ⟨_, rfl⟩
                rw [← hX22] at hw
                have hRX22 : Rng X22 := by rw [hX22]; exact rng_set hRXa (show 0 ≤ ((X 44 0 t) - 1) ∧ ((X 44 0 t) - 1) ≤ 5 by omega)
                have hVX22 : X22 44 0 t = ((X 44 0 t) - 1) := by rw [hX22]; exact u3_s _ _ _ _ _
                have hFX22 : Frm [4001, 4500, 4600, 4700, 4800, 4400, 5600] X X22 := by rw [hX22]; exact Frm.set hFXa (show 4400 ∈ [4001, 4500, 4600, 4700, 4800, 4400, 5600] by first | exact nlm_in rfl | decide)
                refine lv_aload_n hx hb dX9_drop_224 rfl (lv_at hl 0 rfl) ?_
                refine x_geto hx hb hf9 hw (by first | exact Int.le_refl 0 | omega) (by first | exact zlt hc40 | omega) sl_40_3 lk13 dX9_drop_225 ?_
                refine lv_iload_n hx hb dX9_drop_228 rfl (lv_at hl 1 rfl) ?_
                refine x_iald hx hb hK.1 hw (by first | exact Int.le_refl 0 | omega) (by first | exact zlt hc44 | omega) ar_44 (len_E ar_44 (by first | exact Nat.ne_of_beq_eq_false rfl | decide)) (by omega) (by omega) (by omega) dX9_drop_229 ?_
                rw [hVX22]
                rw [hQ9]
                refine ret_i (mc := 0) (ms := 0) hx hb hr hlocks hw hS (by first | exact Nat.le_of_ble_eq_true rfl | omega) (by first | exact Nat.le_of_ble_eq_true rfl | omega) dX9_drop_230 ?_
                have q23 : Frm [4400] Xa X22 := by rw [hX22]; exact Frm.set Frm.rf (show 4400 ∈ [4400] by first | exact nlm_in rfl | decide)
                have e24 : X22 44 0 t = X 44 0 t - 1 := (by rw [hVX22]; try rw [hGXa 44 0 t (show 4400 ∉ [4500, 4600, 4700, 4800, 5600] by first | exact nlm_ni rfl | decide), hX1, u3_k _ _ _ _ (by first | exact Nat.ne_of_beq_eq_false rfl | decide)])
                have hD25 := (DrI.of (Xb := X22) hDa (fun p => (by rw [hX22, u3_k _ _ _ _ (by first | exact Nat.ne_of_beq_eq_false rfl | decide)]))).fin
                exact ⟨X22, rfl, hRX22, hFX22, minv_fdown (t := t) hMIXa (by rw [hGXa 40 0 20 (show 4021 ∉ [4500, 4600, 4700, 4800, 5600] by first | exact nlm_ni rfl | decide), hX1, u3_j _ _ _ _ (by decide)]; omega) q23 (fun j hj => by rw [hX22, u3_j _ _ _ _ hj]) (by rw [hVX22, hGXa 44 0 t (show 4400 ∉ [4500, 4600, 4700, 4800, 5600] by first | exact nlm_ni rfl | decide), hX1, u3_k _ _ _ _ (by first | exact Nat.ne_of_beq_eq_false rfl | decide)]; omega), by omega, (by (try delta Hid at *); first | exact Or.inr (Or.inr ((⟨by omega, by omega, by omega, by omega, by omega, by omega, by omega⟩))) | omega), fun h => ⟨(by rw [show X 44 0 t - 1 = j by omega]; exact Sh.of hs45 (by rw [hX22, u3_k _ _ _ _ (by first | exact Nat.ne_of_beq_eq_false rfl | decide)])), (by rw [show X 44 0 t - 1 = j by omega]; exact Sh.of hs46 (by rw [hX22, u3_k _ _ _ _ (by first | exact Nat.ne_of_beq_eq_false rfl | decide)])), (by rw [show X 44 0 t - 1 = j by omega]; exact Sh.of hs47 (by rw [hX22, u3_k _ _ _ _ (by first | exact Nat.ne_of_beq_eq_false rfl | decide)])), (by rw [show X 44 0 t - 1 = j by omega]; exact Sh.of hs48 (by rw [hX22, u3_k _ _ _ _ (by first | exact Nat.ne_of_beq_eq_false rfl | decide)]))⟩, fun h => (by exfalso; omega), fun y h => (by rw [hX22, u3_j _ _ _ _ h, hGXa 44 0 y (show 4400 ∉ [4500, 4600, 4700, 4800, 5600] by first | exact nlm_ni rfl | decide), hX1, u3_k _ _ _ _ (by first | exact Nat.ne_of_beq_eq_false rfl | decide)]), fun _ => ⟨fun y j a b c d e => hD25.1 y j a b c d (by omega) (by omega) (by omega), fun y j a b c d e => hD25.2 y j a b c d e⟩, fun q => (by exfalso; omega)⟩
              · refine lv_aload_n hx hb dX9_drop_53 rfl (lv_at hl 0 rfl) ?_
                refine x_geto hx hb hf9 hw (by first | exact Int.le_refl 0 | omega) (by first | exact zlt hc40 | omega) sl_40_4 lk17 dX9_drop_54 ?_
                refine lv_iconst (v := jI 5) hx hb dX9_drop_57 rfl ?_
                refine lv_iload_n hx hb dX9_drop_58 rfl (lv_at hl 1 rfl) ?_
                refine x_imul hx hb dX9_drop_59 ?_
                refine lv_iload_n hx hb dX9_drop_60 rfl (lv_at hl 3 rfl) ?_
                refine x_iadd hx hb dX9_drop_61 ?_
                refine lv_aload_n hx hb dX9_drop_62 rfl (lv_at hl 0 rfl) ?_
                refine x_geto hx hb hf9 hw (by first | exact Int.le_refl 0 | omega) (by first | exact zlt hc40 | omega) sl_40_4 lk17 dX9_drop_63 ?_
                refine lv_iconst (v := jI 5) hx hb dX9_drop_66 rfl ?_
                refine lv_iload_n hx hb dX9_drop_67 rfl (lv_at hl 1 rfl) ?_
                refine x_imul hx hb dX9_drop_68 ?_
                refine lv_iload_n hx hb dX9_drop_69 rfl (lv_at hl 3 rfl) ?_
                refine x_iadd hx hb dX9_drop_70 ?_
                refine lv_iconst (v := jI 1) hx hb dX9_drop_71 rfl ?_
                refine x_iadd hx hb dX9_drop_72 ?_
                refine x_iald hx hb hK.1 hw (by first | exact Int.le_refl 0 | omega) (by first | exact zlt hc45 | omega) ar_45 (len_E ar_45 (by first | exact Nat.ne_of_beq_eq_false rfl | decide)) (by omega) (by omega) (by omega) dX9_drop_73 ?_
                have f26 : 0 ≤ Xa 45 0 (((5 * t) + j) + 1) ∧ Xa 45 0 (((5 * t) + j) + 1) ≤ 19 := hRXa 45 0 (((5 * t) + j) + 1)
                refine x_iast hx hb hK.1 hw hS (by first | exact Int.le_refl 0 | omega) (by first | exact zlt hc45 | omega) ar_45 (len_E ar_45 (by first | exact Nat.ne_of_beq_eq_false rfl | decide)) (by omega) (by omega) (by omega) dX9_drop_74 (fun H locs hw hS => ?_)
                obtain ⟨X27, hX27⟩ : ∃ Xq, Xq = u3 Xa 45 0 ((5 * t) + j) (Xa 45 0 (((5 * t) + j) + 1)) := ⟨_, rfl⟩
                rw [← hX27] at hw
                have hRX27 : Rng X27 := by rw [hX27]; exact rng_set hRXa (show 0 ≤ (Xa 45 0 (((5 * t) + j) + 1)) ∧ (Xa 45 0 (((5 * t) + j) + 1)) ≤ 19 by omega)
                have hVX27 : X27 45 0 ((5 * t) + j) = (Xa 45 0 (((5 * t) + j) + 1)) := by rw [hX27]; exact u3_s _ _ _ _ _
                have hFX27 : Frm [4001, 4500, 4600, 4700, 4800, 4400, 5600] X X27 := by rw [hX27]; exact Frm.set hFXa (show 4500 ∈ [4001, 4500, 4600, 4700, 4800, 4400, 5600] by first | exact nlm_in rfl | decide)
                refine lv_aload_n hx hb dX9_drop_75 rfl (lv_at hl 0 rfl) ?_
                refine x_geto hx hb hf9 hw (by first | exact Int.le_refl 0 | omega) (by first | exact zlt hc40 | omega) sl_40_5 lk20 dX9_drop_76 ?_
                refine lv_iconst (v := jI 5) hx hb dX9_drop_79 rfl ?_
                refine lv_iload_n hx hb dX9_drop_80 rfl (lv_at hl 1 rfl) ?_
                refine x_imul hx hb dX9_drop_81 ?_
                refine lv_iload_n hx hb dX9_drop_82 rfl (lv_at hl 3 rfl) ?_
                refine x_iadd hx hb dX9_drop_83 ?_
                refine lv_aload_n hx hb dX9_drop_84 rfl (lv_at hl 0 rfl) ?_
                refine x_geto hx hb hf9 hw (by first | exact Int.le_refl 0 | omega) (by first | exact zlt hc40 | omega) sl_40_5 lk20 dX9_drop_85 ?_
                refine lv_iconst (v := jI 5) hx hb dX9_drop_88 rfl ?_
                refine lv_iload_n hx hb dX9_drop_89 rfl (lv_at hl 1 rfl) ?_
                refine x_imul hx hb dX9_drop_90 ?_
                refine lv_iload_n hx hb dX9_drop_91 rfl (lv_at hl 3 rfl) ?_
                refine x_iadd hx hb dX9_drop_92 ?_
                refine lv_iconst (v := jI 1) hx hb dX9_drop_93 rfl ?_
                refine x_iadd hx hb dX9_drop_94 ?_
                refine x_iald hx hb hK.1 hw (by first | exact Int.le_refl 0 | omega) (by first | exact zlt hc46 | omega) ar_46 (len_E ar_46 (by first | exact Nat.ne_of_beq_eq_false rfl | decide)) (by omega) (by omega) (by omega) dX9_drop_95 ?_
                have e28 : ∀ p9 q9 : Int, X27 46 p9 q9 = Xa 46 p9 q9 := fun p9 q9 => by rw [hX27, u3_k _ _ _ _ (by first | exact Nat.ne_of_beq_eq_false rfl | decide)]
                rw [e28 0 (((5 * t) + j) + 1)]
                have f29 : 0 ≤ Xa 46 0 (((5 * t) + j) + 1) ∧ Xa 46 0 (((5 * t) + j) + 1) ≤ 5 := hRXa 46 0 (((5 * t) + j) + 1)
                refine x_iast hx hb hK.1 hw hS (by first | exact Int.le_refl 0 | omega) (by first | exact zlt hc46 | omega) ar_46 (len_E ar_46 (by first | exact Nat.ne_of_beq_eq_false rfl | decide)) (by omega) (by omega) (by omega) dX9_drop_96 (fun H locs hw hS => ?_)
                obtain ⟨X30, hX30⟩ : ∃ Xq, Xq = u3 X27 46 0 ((5 * t) + j) (Xa 46 0 (((5 * t) + j) + 1)) := ⟨_, rfl⟩
                rw [← hX30] at hw
                have hRX30 : Rng X30 := by rw [hX30]; exact rng_set hRX27 (show 0 ≤ (Xa 46 0 (((5 * t) + j) + 1)) ∧ (Xa 46 0 (((5 * t) + j) + 1)) ≤ 5 by omega)
                have hVX30 : X30 46 0 ((5 * t) + j) = (Xa 46 0 (((5 * t) + j) + 1)) := by rw [hX30]; exact u3_s _ _ _ _ _
                have hFX30 : Frm [4001, 4500, 4600, 4700, 4800, 4400, 5600] X X30 := by rw [hX30]; exact Frm.set hFX27 (show 4600 ∈ [4001, 4500, 4600, 4700, 4800, 4400, 5600] by first | exact nlm_in rfl | decide)
                refine lv_aload_n hx hb dX9_drop_97 rfl (lv_at hl 0 rfl) ?_
                refine x_geto hx hb hf9 hw (by first | exact Int.le_refl 0 | omega) (by first | exact zlt hc40 | omega) sl_40_6 lk23 dX9_drop_98 ?_
                refine lv_iconst (v := jI 5) hx hb dX9_drop_101 rfl ?_
                refine lv_iload_n hx hb dX9_drop_102 rfl (lv_at hl 1 rfl) ?_
                refine x_imul hx hb dX9_drop_103 ?_
                refine lv_iload_n hx hb dX9_drop_104 rfl (lv_at hl 3 rfl) ?_
                refine x_iadd hx hb dX9_drop_105 ?_
                refine lv_aload_n hx hb dX9_drop_106 rfl (lv_at hl 0 rfl) ?_
                refine x_geto hx hb hf9 hw (by first | exact Int.le_refl 0 | omega) (by first | exact zlt hc40 | omega) sl_40_6 lk23 dX9_drop_107 ?_
                refine lv_iconst (v := jI 5) hx hb dX9_drop_110 rfl ?_
                refine lv_iload_n hx hb dX9_drop_111 rfl (lv_at hl 1 rfl) ?_
                refine x_imul hx hb dX9_drop_112 ?_
                refine lv_iload_n hx hb dX9_drop_113 rfl (lv_at hl 3 rfl) ?_
                refine x_iadd hx hb dX9_drop_114 ?_
                refine lv_iconst (v := jI 1) hx hb dX9_drop_115 rfl ?_
                refine x_iadd hx hb dX9_drop_116 ?_
                refine x_lald hx hb hK.1 hw (by first | exact Int.le_refl 0 | omega) (by first | exact zlt hc47 | omega) ar_47 (len_E ar_47 (by first | exact Nat.ne_of_beq_eq_false rfl | decide)) (by omega) (by omega) (by omega) dX9_drop_117 ?_
                have e31 : ∀ p9 q9 : Int, X30 47 p9 q9 = Xa 47 p9 q9 := fun p9 q9 => by rw [hX30, u3_k _ _ _ _ (by first | exact Nat.ne_of_beq_eq_false rfl | decide), hX27, u3_k _ _ _ _ (by first | exact Nat.ne_of_beq_eq_false rfl | decide)]
                rw [e31 0 (((5 * t) + j) + 1)]
                have f32 : (-9223372036854775808) ≤ Xa 47 0 (((5 * t) + j) + 1) ∧ Xa 47 0 (((5 * t) + j) + 1) ≤ 9223372036854775807 := hRXa 47 0 (((5 * t) + j) + 1)
                refine x_last hx hb hK.1 hw hS (by first | exact Int.le_refl 0 | omega) (by first | exact zlt hc47 | omega) ar_47 (len_E ar_47 (by first | exact Nat.ne_of_beq_eq_false rfl | decide)) (by omega) (by omega) (by omega) dX9_drop_118 (fun H locs hw hS => ?_)
                obtain ⟨X33, hX33⟩ : ∃ Xq, Xq = u3 X30 47 0 ((5 * t) + j) (Xa 47 0 (((5 * t) + j) + 1)) := ⟨_, rfl⟩
                rw [← hX33] at hw
                have hRX33 : Rng X33 := by rw [hX33]; exact rng_set hRX30 (show (-9223372036854775808) ≤ (Xa 47 0 (((5 * t) + j) + 1)) ∧ (Xa 47 0 (((5 * t) + j) + 1)) ≤ 9223372036854775807 by omega)
                have hVX33 : X33 47 0 ((5 * t) + j) = (Xa 47 0 (((5 * t) + j) + 1)) := by rw [hX33]; exact u3_s _ _ _ _ _
                have hFX33 : Frm [4001, 4500, 4600, 4700, 4800, 4400, 5600] X X33 := by rw [hX33]; exact Frm.set hFX30 (show 4700 ∈ [4001, 4500, 4600, 4700, 4800, 4400, 5600] by first | exact nlm_in rfl | decide)
                refine lv_aload_n hx hb dX9_drop_119 rfl (lv_at hl 0 rfl) ?_
                refine x_geto hx hb hf9 hw (by first | exact Int.le_refl 0 | omega) (by first | exact zlt hc40 | omega) sl_40_7 lk27 dX9_drop_120 ?_
                refine lv_iconst (v := jI 5) hx hb dX9_drop_123 rfl ?_
                refine lv_iload_n hx hb dX9_drop_124 rfl (lv_at hl 1 rfl) ?_
                refine x_imul hx hb dX9_drop_125 ?_
                refine lv_iload_n hx hb dX9_drop_126 rfl (lv_at hl 3 rfl) ?_
                refine x_iadd hx hb dX9_drop_127 ?_
                refine lv_aload_n hx hb dX9_drop_128 rfl (lv_at hl 0 rfl) ?_
                refine x_geto hx hb hf9 hw (by first | exact Int.le_refl 0 | omega) (by first | exact zlt hc40 | omega) sl_40_7 lk27 dX9_drop_129 ?_
                refine lv_iconst (v := jI 5) hx hb dX9_drop_132 rfl ?_
                refine lv_iload_n hx hb dX9_drop_133 rfl (lv_at hl 1 rfl) ?_
                refine x_imul hx hb dX9_drop_134 ?_
                refine lv_iload_n hx hb dX9_drop_135 rfl (lv_at hl 3 rfl) ?_
                refine x_iadd hx hb dX9_drop_136 ?_
                refine lv_iconst (v := jI 1) hx hb dX9_drop_137 rfl ?_
                refine x_iadd hx hb dX9_drop_138 ?_
                refine x_zald hx hb hK.1 hw (by first | exact Int.le_refl 0 | omega) (by first | exact zlt hc48 | omega) ar_48 (len_E ar_48 (by first | exact Nat.ne_of_beq_eq_false rfl | decide)) (by omega) (by omega) (by omega) dX9_drop_139 ?_
                have e34 : ∀ p9 q9 : Int, X33 48 p9 q9 = Xa 48 p9 q9 := fun p9 q9 => by rw [hX33, u3_k _ _ _ _ (by first | exact Nat.ne_of_beq_eq_false rfl | decide), hX30, u3_k _ _ _ _ (by first | exact Nat.ne_of_beq_eq_false rfl | decide), hX27, u3_k _ _ _ _ (by first | exact Nat.ne_of_beq_eq_false rfl | decide)]
                rw [e34 0 (((5 * t) + j) + 1)]
                have f35 : 0 ≤ Xa 48 0 (((5 * t) + j) + 1) ∧ Xa 48 0 (((5 * t) + j) + 1) ≤ 1 := hRXa 48 0 (((5 * t) + j) + 1)
                refine x_zast hx hb hK.1 hw hS (by first | exact Int.le_refl 0 | omega) (by first | exact zlt hc48 | omega) ar_48 (len_E ar_48 (by first | exact Nat.ne_of_beq_eq_false rfl | decide)) (by omega) (by omega) (by omega) (by omega) (by omega) dX9_drop_140 (fun H locs hw hS => ?_)
                obtain ⟨X36, hX36⟩ : ∃ Xq, Xq = u3 X33 48 0 ((5 * t) + j) (Xa 48 0 (((5 * t) + j) + 1)) := ⟨_, rfl⟩
                rw [← hX36] at hw
                have hRX36 : Rng X36 := by rw [hX36]; exact rng_set hRX33 (show 0 ≤ (Xa 48 0 (((5 * t) + j) + 1)) ∧ (Xa 48 0 (((5 * t) + j) + 1)) ≤ 1 by omega)
                have hVX36 : X36 48 0 ((5 * t) + j) = (Xa 48 0 (((5 * t) + j) + 1)) := by rw [hX36]; exact u3_s _ _ _ _ _
                have hFX36 : Frm [4001, 4500, 4600, 4700, 4800, 4400, 5600] X X36 := by rw [hX36]; exact Frm.set hFX33 (show 4800 ∈ [4001, 4500, 4600, 4700, 4800, 4400, 5600] by first | exact nlm_in rfl | decide)
                refine lv_iconst (v := jI 0) hx hb dX9_drop_141 rfl ?_
                refine lv_istore (lv' := [(4, .int (jI 0)), (0, .ref (ad 40 0)), (1, .int (jI t)), (2, .int (jI k)), (3, .int (jI j))]) hx hb dX9_drop_142 hl (by decide) rfl (fun ls hl => ?_)
                have lp144 : ∀ (nn : Nat) (x : Int) (Xb : Nat → Int → Int → Int) (H : Heap) (locs : List Loc) (ls : Array Slot), (30 - x) < (nn : Int) → (Rng Xb) → (Frm [5600] X36 Xb) → (0 ≤ x ∧ x ≤ 30) → (Fld Xb t j x) → (DrI X Xb t k j x) → wd D tc base (ad, cnt, Xb, Y, ln) H → va_S (frA base) s.heap H locs → lv_has ls 5 [(0, .ref (ad 40 0)), (1, .int (jI t)), (2, .int (jI k)), (3, .int (jI j)), (4, .int (jI x))] → W p l e ({ frames := 1, cells := 0, slots := 0, locals := 21 } : Room) s m av9 below meth c H locs 0 0 Q9 (F0 m 144 ls []) := by
                  intro nn
                  induction nn with
                  | zero => intro x Xb H locs ls hm hRXb hGXb hx4 hFl hDb hw hS hl; exfalso; omega
                  | succ nn ih144 =>
                    intro x Xb H locs ls hm hRXb hGXb hx4 hFl hDb hw hS hl
                    have hFXb : Frm [4001, 4500, 4600, 4700, 4800, 4400, 5600] X Xb := Frm.tr hFX36 (Frm.mono hGXb (by first | exact nls_of rfl | decide))
                    refine lv_iload hx hb dX9_drop_144 (lv_at hl 4 rfl) ?_
                    refine lv_aload_n hx hb dX9_drop_146 rfl (lv_at hl 0 rfl) ?_
                    refine x_geti (jz := 13) hx hb hf9 hw (by first | exact Int.le_refl 0 | omega) (by first | exact zlt hc40 | omega) sl_40_13 rfl lk151 dX9_drop_147 ?_
                    have e37 : Xb 40 0 13 = X 40 0 13 := by rw [hGXb 40 0 13 (show 4014 ∉ [5600] by first | exact nlm_ni rfl | decide), hX36, u3_k _ _ _ _ (by first | exact Nat.ne_of_beq_eq_false rfl | decide), hX33, u3_k _ _ _ _ (by first | exact Nat.ne_of_beq_eq_false rfl | decide), hX30, u3_k _ _ _ _ (by first | exact Nat.ne_of_beq_eq_false rfl | decide), hX27, u3_k _ _ _ _ (by first | exact Nat.ne_of_beq_eq_false rfl | decide), hGXa 40 0 13 (show 4014 ∉ [4500, 4600, 4700, 4800, 5600] by first | exact nlm_ni rfl | decide), hX1, u3_j _ _ _ _ (by decide)]
                    rw [e37]
                    have f38 : 0 ≤ X 40 0 13 ∧ X 40 0 13 ≤ 30 := hR 40 0 13
                    refine x_icmp_ge (tgt := 208) hx hb (by omega) (by omega) dX9_drop_150 (by decide) (fun c39 => ?_) (fun c39 => ?_)
                    · refine lv_iinc (v := jI (j + 1)) (lv' := [(3, .int (jI (j + 1))), (0, .ref (ad 40 0)), (1, .int (jI t)), (2, .int (jI k)), (4, .int (jI x))]) hx hb dX9_drop_208 hl (k := 3) rfl (jI_add _ _) (by decide) rfl (fun ls hl => ?_)
                      refine lv_goto (tgt := 41) hx hb dX9_drop_211 (by decide) ?_
                      have q40 : Frm [4500, 4600, 4700, 4800, 5600] X1 Xa := Frm.tr Frm.rf (Frm.mono hGXa (by first | exact nls_of rfl | decide))
                      have q41 : Frm [4500, 4600, 4700, 4800, 5600] X1 X27 := by rw [hX27]; exact Frm.set q40 (show 4500 ∈ [4500, 4600, 4700, 4800, 5600] by first | exact nlm_in rfl | decide)
                      have q42 : Frm [4500, 4600, 4700, 4800, 5600] X1 X30 := by rw [hX30]; exact Frm.set q41 (show 4600 ∈ [4500, 4600, 4700, 4800, 5600] by first | exact nlm_in rfl | decide)
                      have q43 : Frm [4500, 4600, 4700, 4800, 5600] X1 X33 := by rw [hX33]; exact Frm.set q42 (show 4700 ∈ [4500, 4600, 4700, 4800, 5600] by first | exact nlm_in rfl | decide)
                      have q44 : Frm [4500, 4600, 4700, 4800, 5600] X1 X36 := by rw [hX36]; exact Frm.set q43 (show 4800 ∈ [4500, 4600, 4700, 4800, 5600] by first | exact nlm_in rfl | decide)
                      have q45 : Frm [4500, 4600, 4700, 4800, 5600] X1 Xb := Frm.tr q44 (Frm.mono hGXb (by first | exact nls_of rfl | decide))
                      exact ih41 (j + 1) Xb _ _ _ (by omega) hRXb q45 (by omega) (hFl.out (by rw [hGXb 40 0 13 (show 4014 ∉ [5600] by first | exact nlm_ni rfl | decide), hX36, u3_k _ _ _ _ (by first | exact Nat.ne_of_beq_eq_false rfl | decide), hX33, u3_k _ _ _ _ (by first | exact Nat.ne_of_beq_eq_false rfl | decide), hX30, u3_k _ _ _ _ (by first | exact Nat.ne_of_beq_eq_false rfl | decide), hX27, u3_k _ _ _ _ (by first | exact Nat.ne_of_beq_eq_false rfl | decide), hGXa 40 0 13 (show 4014 ∉ [4500, 4600, 4700, 4800, 5600] by first | exact nlm_ni rfl | decide), hX1, u3_j _ _ _ _ (by decide)]; omega)) (by rw [show 5 * t + (j + 1) = 5 * t + j + 1 by omega]; exact Sh.step (Xc := Xa) hs45 (by omega) rfl (by rw [(funext fun y9 => funext fun j9 => hGXb 45 y9 j9 (show 4500 ∉ [5600] by first | exact nlm_ni rfl | decide) : Xb 45 = X36 45), hX36, u3_k _ _ _ _ (by first | exact Nat.ne_of_beq_eq_false rfl | decide), hX33, u3_k _ _ _ _ (by first | exact Nat.ne_of_beq_eq_false rfl | decide), hX30, u3_k _ _ _ _ (by first | exact Nat.ne_of_beq_eq_false rfl | decide), hX27]) (by first | rfl | (congr 1))) (by rw [show 5 * t + (j + 1) = 5 * t + j + 1 by omega]; exact Sh.step (Xc := X27) hs46 (by omega) (by rw [hX27, u3_k _ _ _ _ (by first | exact Nat.ne_of_beq_eq_false rfl | decide)]) (by rw [(funext fun y9 => funext fun j9 => hGXb 46 y9 j9 (show 4600 ∉ [5600] by first | exact nlm_ni rfl | decide) : Xb 46 = X36 46), hX36, u3_k _ _ _ _ (by first | exact Nat.ne_of_beq_eq_false rfl | decide), hX33, u3_k _ _ _ _ (by first | exact Nat.ne_of_beq_eq_false rfl | decide), hX30]) (by first | rfl | (congr 1))) (by rw [show 5 * t + (j + 1) = 5 * t + j + 1 by omega]; exact Sh.step (Xc := X30) hs47 (by omega) (by rw [hX30, u3_k _ _ _ _ (by first | exact Nat.ne_of_beq_eq_false rfl | decide), hX27, u3_k _ _ _ _ (by first | exact Nat.ne_of_beq_eq_false rfl | decide)]) (by rw [(funext fun y9 => funext fun j9 => hGXb 47 y9 j9 (show 4700 ∉ [5600] by first | exact nlm_ni rfl | decide) : Xb 47 = X36 47), hX36, u3_k _ _ _ _ (by first | exact Nat.ne_of_beq_eq_false rfl | decide), hX33]) (by first | rfl | (congr 1))) (by rw [show 5 * t + (j + 1) = 5 * t + j + 1 by omega]; exact Sh.step (Xc := X33) hs48 (by omega) (by rw [hX33, u3_k _ _ _ _ (by first | exact Nat.ne_of_beq_eq_false rfl | decide), hX30, u3_k _ _ _ _ (by first | exact Nat.ne_of_beq_eq_false rfl | decide), hX27, u3_k _ _ _ _ (by first | exact Nat.ne_of_beq_eq_false rfl | decide)]) (by rw [(funext fun y9 => funext fun j9 => hGXb 48 y9 j9 (show 4800 ∉ [5600] by first | exact nlm_ni rfl | decide) : Xb 48 = X36 48), hX36]) (by first | rfl | (congr 1))) (DrI.out hDb (by omega)) hw hS (lv_sub hl [1, 2, 3, 0] rfl)
                    · refine lv_aload_n hx hb dX9_drop_153 rfl (lv_at hl 0 rfl) ?_
                      refine x_geto hx hb hf9 hw (by first | exact Int.le_refl 0 | omega) (by first | exact zlt hc40 | omega) sl_40_15 lk48 dX9_drop_154 ?_
                      refine lv_iconst (v := jI 5) hx hb dX9_drop_157 rfl ?_
                      refine lv_iload hx hb dX9_drop_158 (lv_at hl 4 rfl) ?_
                      refine x_imul hx hb dX9_drop_160 ?_
                      refine lv_iload_n hx hb dX9_drop_161 rfl (lv_at hl 3 rfl) ?_
                      refine x_iadd hx hb dX9_drop_162 ?_
                      refine lv_aload_n hx hb dX9_drop_163 rfl (lv_at hl 0 rfl) ?_
                      refine x_geto hx hb hf9 hw (by first | exact Int.le_refl 0 | omega) (by first | exact zlt hc40 | omega) sl_40_14 lk45 dX9_drop_164 ?_
                      refine lv_iload hx hb dX9_drop_167 (lv_at hl 4 rfl) ?_
                      refine x_iald hx hb hK.1 hw (by first | exact Int.le_refl 0 | omega) (by first | exact zlt hc55 | omega) ar_55 (len_E ar_55 (by first | exact Nat.ne_of_beq_eq_false rfl | decide)) (by omega) (by omega) (by omega) dX9_drop_169 ?_
                      have e46 : ∀ p9 q9 : Int, Xb 55 p9 q9 = X 55 p9 q9 := fun p9 q9 => by rw [hGXb 55 p9 q9 (show 5500 ∉ [5600] by first | exact nlm_ni rfl | decide), hX36, u3_k _ _ _ _ (by first | exact Nat.ne_of_beq_eq_false rfl | decide), hX33, u3_k _ _ _ _ (by first | exact Nat.ne_of_beq_eq_false rfl | decide), hX30, u3_k _ _ _ _ (by first | exact Nat.ne_of_beq_eq_false rfl | decide), hX27, u3_k _ _ _ _ (by first | exact Nat.ne_of_beq_eq_false rfl | decide), hGXa 55 p9 q9 (show 5500 ∉ [4500, 4600, 4700, 4800, 5600] by first | exact nlm_ni rfl | decide), hX1, u3_k _ _ _ _ (by first | exact Nat.ne_of_beq_eq_false rfl | decide)]
                      rw [e46 0 x]
                      have f47 : 0 ≤ X 55 0 x ∧ X 55 0 x ≤ 7 := hR 55 0 x
                      refine lv_iload_n hx hb dX9_drop_170 rfl (lv_at hl 1 rfl) ?_
                      refine x_icmp_ne (tgt := 190) hx hb (by omega) (by omega) dX9_drop_171 (by decide) (fun c48 => ?_) (fun c48 => ?_)
                      · refine lv_aload_n hx hb dX9_drop_190 rfl (lv_at hl 0 rfl) ?_
                        refine x_geto hx hb hf9 hw (by first | exact Int.le_refl 0 | omega) (by first | exact zlt hc40 | omega) sl_40_15 lk48 dX9_drop_191 ?_
                        refine lv_iconst (v := jI 5) hx hb dX9_drop_194 rfl ?_
                        refine lv_iload hx hb dX9_drop_195 (lv_at hl 4 rfl) ?_
                        refine x_imul hx hb dX9_drop_197 ?_
                        refine lv_iload_n hx hb dX9_drop_198 rfl (lv_at hl 3 rfl) ?_
                        refine x_iadd hx hb dX9_drop_199 ?_
                        refine x_lald hx hb hK.1 hw (by first | exact Int.le_refl 0 | omega) (by first | exact zlt hc56 | omega) ar_56 (len_E ar_56 (by first | exact Nat.ne_of_beq_eq_false rfl | decide)) (by omega) (by omega) (by omega) dX9_drop_200 ?_
                        have f49 : (-9223372036854775808) ≤ Xb 56 0 ((5 * x) + j) ∧ Xb 56 0 ((5 * x) + j) ≤ 9223372036854775807 := hRXb 56 0 ((5 * x) + j)
                        refine x_last hx hb hK.1 hw hS (by first | exact Int.le_refl 0 | omega) (by first | exact zlt hc56 | omega) ar_56 (len_E ar_56 (by first | exact Nat.ne_of_beq_eq_false rfl | decide)) (by omega) (by omega) (by omega) dX9_drop_201 (fun H locs hw hS => ?_)
                        obtain ⟨X50, hX50⟩ : ∃ Xq, Xq = u3 Xb 56 0 ((5 * x) + j) (Xb 56 0 ((5 * x) + j)) := ⟨_, rfl⟩
                        rw [← hX50] at hw
                        have hRX50 : Rng X50 := by rw [hX50]; exact rng_set hRXb (show (-9223372036854775808) ≤ (Xb 56 0 ((5 * x) + j)) ∧ (Xb 56 0 ((5 * x) + j)) ≤ 9223372036854775807 by omega)
                        have hVX50 : X50 56 0 ((5 * x) + j) = (Xb 56 0 ((5 * x) + j)) := by rw [hX50]; exact u3_s _ _ _ _ _
                        have hFX50 : Frm [4001, 4500, 4600, 4700, 4800, 4400, 5600] X X50 := by rw [hX50]; exact Frm.set hFXb (show 5600 ∈ [4001, 4500, 4600, 4700, 4800, 4400, 5600] by first | exact nlm_in rfl | decide)
                        refine lv_iinc (v := jI (x + 1)) (lv' := [(4, .int (jI (x + 1))), (0, .ref (ad 40 0)), (1, .int (jI t)), (2, .int (jI k)), (3, .int (jI j))]) hx hb dX9_drop_202 hl (k := 4) rfl (jI_add _ _) (by decide) rfl (fun ls hl => ?_)
                        refine lv_goto (tgt := 144) hx hb dX9_drop_205 (by decide) ?_
                        have q51 : Frm [5600] X36 Xb := Frm.tr Frm.rf (Frm.mono hGXb (by first | exact nls_of rfl | decide))
                        have q52 : Frm [5600] X36 X50 := by rw [hX50]; exact Frm.set q51 (show 5600 ∈ [5600] by first | exact nlm_in rfl | decide)
                        exact ih144 (x + 1) X50 _ _ _ (by omega) hRX50 q52 (by omega) ((by first | (rw [hX50, u3_id]; exact hFl.skip (by rw [hGXb 55 0 x (show 5500 ∉ [5600] by first | exact nlm_ni rfl | decide), hX36, u3_k _ _ _ _ (by first | exact Nat.ne_of_beq_eq_false rfl | decide), hX33, u3_k _ _ _ _ (by first | exact Nat.ne_of_beq_eq_false rfl | decide), hX30, u3_k _ _ _ _ (by first | exact Nat.ne_of_beq_eq_false rfl | decide), hX27, u3_k _ _ _ _ (by first | exact Nat.ne_of_beq_eq_false rfl | decide), hGXa 55 0 x (show 5500 ∉ [4500, 4600, 4700, 4800, 5600] by first | exact nlm_ni rfl | decide), hX1, u3_k _ _ _ _ (by first | exact Nat.ne_of_beq_eq_false rfl | decide)]; omega)) | (rw [hX50]; exact hFl.step_drop hRXb ⟨by omega, (by rw [hGXb 40 0 13 (show 4014 ∉ [5600] by first | exact nlm_ni rfl | decide), hX36, u3_k _ _ _ _ (by first | exact Nat.ne_of_beq_eq_false rfl | decide), hX33, u3_k _ _ _ _ (by first | exact Nat.ne_of_beq_eq_false rfl | decide), hX30, u3_k _ _ _ _ (by first | exact Nat.ne_of_beq_eq_false rfl | decide), hX27, u3_k _ _ _ _ (by first | exact Nat.ne_of_beq_eq_false rfl | decide), hGXa 40 0 13 (show 4014 ∉ [4500, 4600, 4700, 4800, 5600] by first | exact nlm_ni rfl | decide), hX1, u3_j _ _ _ _ (by decide)]; omega)⟩ (by rw [hGXb 55 0 x (show 5500 ∉ [5600] by first | exact nlm_ni rfl | decide), hX36, u3_k _ _ _ _ (by first | exact Nat.ne_of_beq_eq_false rfl | decide), hX33, u3_k _ _ _ _ (by first | exact Nat.ne_of_beq_eq_false rfl | decide), hX30, u3_k _ _ _ _ (by first | exact Nat.ne_of_beq_eq_false rfl | decide), hX27, u3_k _ _ _ _ (by first | exact Nat.ne_of_beq_eq_false rfl | decide), hGXa 55 0 x (show 5500 ∉ [4500, 4600, 4700, 4800, 5600] by first | exact nlm_ni rfl | decide), hX1, u3_k _ _ _ _ (by first | exact Nat.ne_of_beq_eq_false rfl | decide)]; omega) ⟨by omega, (by rw [hGXb 44 0 t (show 4400 ∉ [5600] by first | exact nlm_ni rfl | decide), hX36, u3_k _ _ _ _ (by first | exact Nat.ne_of_beq_eq_false rfl | decide), hX33, u3_k _ _ _ _ (by first | exact Nat.ne_of_beq_eq_false rfl | decide), hX30, u3_k _ _ _ _ (by first | exact Nat.ne_of_beq_eq_false rfl | decide), hX27, u3_k _ _ _ _ (by first | exact Nat.ne_of_beq_eq_false rfl | decide), hGXa 44 0 t (show 4400 ∉ [4500, 4600, 4700, 4800, 5600] by first | exact nlm_ni rfl | decide), hX1, u3_k _ _ _ _ (by first | exact Nat.ne_of_beq_eq_false rfl | decide)]; omega)⟩ (by rw [show Xb 46 0 (5 * t + j) = Xa 46 0 (5 * t + (j + 1)) from (by rw [hGXb 46 0 (5 * t + j) (show 4600 ∉ [5600] by first | exact nlm_ni rfl | decide), hX36, u3_k _ _ _ _ (by first | exact Nat.ne_of_beq_eq_false rfl | decide), hX33, u3_k _ _ _ _ (by first | exact Nat.ne_of_beq_eq_false rfl | decide)]; rw [hVX30, Int.add_assoc]), show Xb 46 0 (5 * t + (j + 1)) = Xa 46 0 (5 * t + (j + 1)) from (by rw [hGXb 46 0 (5 * t + (j + 1)) (show 4600 ∉ [5600] by first | exact nlm_ni rfl | decide), hX36, u3_k _ _ _ _ (by first | exact Nat.ne_of_beq_eq_false rfl | decide), hX33, u3_k _ _ _ _ (by first | exact Nat.ne_of_beq_eq_false rfl | decide), hX30, u3_j _ _ _ _ (by omega), hX27, u3_k _ _ _ _ (by first | exact Nat.ne_of_beq_eq_false rfl | decide)])])))) ((by first | exact DrI.no hDb (fun q => by omega) hX50 | exact DrI.yes (v := (Xb 56 0 ((5 * x) + j))) hDb ⟨by omega, by omega⟩ ⟨by omega, by omega⟩ (by omega) (by omega) hX50 rfl)) hw hS (lv_sub hl [1, 2, 3, 4, 0] rfl)
                      · refine lv_aload_n hx hb dX9_drop_174 rfl (lv_at hl 0 rfl) ?_
                        refine x_geto hx hb hf9 hw (by first | exact Int.le_refl 0 | omega) (by first | exact zlt hc40 | omega) sl_40_15 lk48 dX9_drop_175 ?_
                        refine lv_iconst (v := jI 5) hx hb dX9_drop_178 rfl ?_
                        refine lv_iload hx hb dX9_drop_179 (lv_at hl 4 rfl) ?_
                        refine x_imul hx hb dX9_drop_181 ?_
                        refine lv_iload_n hx hb dX9_drop_182 rfl (lv_at hl 3 rfl) ?_
                        refine x_iadd hx hb dX9_drop_183 ?_
                        refine lv_iconst (v := jI 1) hx hb dX9_drop_184 rfl ?_
                        refine x_iadd hx hb dX9_drop_185 ?_
                        refine x_lald hx hb hK.1 hw (by first | exact Int.le_refl 0 | omega) (by first | exact zlt hc56 | omega) ar_56 (len_E ar_56 (by first | exact Nat.ne_of_beq_eq_false rfl | decide)) (by omega) (by omega) (by omega) dX9_drop_186 ?_
                        have f53 : (-9223372036854775808) ≤ Xb 56 0 (((5 * x) + j) + 1) ∧ Xb 56 0 (((5 * x) + j) + 1) ≤ 9223372036854775807 := hRXb 56 0 (((5 * x) + j) + 1)
                        refine lv_goto (tgt := 201) hx hb dX9_drop_187 (by decide) ?_
                        refine x_last hx hb hK.1 hw hS (by first | exact Int.le_refl 0 | omega) (by first | exact zlt hc56 | omega) ar_56 (len_E ar_56 (by first | exact Nat.ne_of_beq_eq_false rfl | decide)) (by omega) (by omega) (by omega) dX9_drop_201 (fun H locs hw hS => ?_)
                        obtain ⟨X54, hX54⟩ : ∃ Xq, Xq = u3 Xb 56 0 ((5 * x) + j) (Xb 56 0 (((5 * x) + j) + 1)) := ⟨_, rfl⟩
                        rw [← hX54] at hw
                        have hRX54 : Rng X54 := by rw [hX54]; exact rng_set hRXb (show (-9223372036854775808) ≤ (Xb 56 0 (((5 * x) + j) + 1)) ∧ (Xb 56 0 (((5 * x) + j) + 1)) ≤ 9223372036854775807 by omega)
                        have hVX54 : X54 56 0 ((5 * x) + j) = (Xb 56 0 (((5 * x) + j) + 1)) := by rw [hX54]; exact u3_s _ _ _ _ _
                        have hFX54 : Frm [4001, 4500, 4600, 4700, 4800, 4400, 5600] X X54 := by rw [hX54]; exact Frm.set hFXb (show 5600 ∈ [4001, 4500, 4600, 4700, 4800, 4400, 5600] by first | exact nlm_in rfl | decide)
                        refine lv_iinc (v := jI (x + 1)) (lv' := [(4, .int (jI (x + 1))), (0, .ref (ad 40 0)), (1, .int (jI t)), (2, .int (jI k)), (3, .int (jI j))]) hx hb dX9_drop_202 hl (k := 4) rfl (jI_add _ _) (by decide) rfl (fun ls hl => ?_)
                        refine lv_goto (tgt := 144) hx hb dX9_drop_205 (by decide) ?_
                        have q55 : Frm [5600] X36 Xb := Frm.tr Frm.rf (Frm.mono hGXb (by first | exact nls_of rfl | decide))
                        have q56 : Frm [5600] X36 X54 := by rw [hX54]; exact Frm.set q55 (show 5600 ∈ [5600] by first | exact nlm_in rfl | decide)
                        exact ih144 (x + 1) X54 _ _ _ (by omega) hRX54 q56 (by omega) ((by first | (rw [hX54, u3_id]; exact hFl.skip (by rw [hGXb 55 0 x (show 5500 ∉ [5600] by first | exact nlm_ni rfl | decide), hX36, u3_k _ _ _ _ (by first | exact Nat.ne_of_beq_eq_false rfl | decide), hX33, u3_k _ _ _ _ (by first | exact Nat.ne_of_beq_eq_false rfl | decide), hX30, u3_k _ _ _ _ (by first | exact Nat.ne_of_beq_eq_false rfl | decide), hX27, u3_k _ _ _ _ (by first | exact Nat.ne_of_beq_eq_false rfl | decide), hGXa 55 0 x (show 5500 ∉ [4500, 4600, 4700, 4800, 5600] by first | exact nlm_ni rfl | decide), hX1, u3_k _ _ _ _ (by first | exact Nat.ne_of_beq_eq_false rfl | decide)]; omega)) | (rw [hX54]; exact hFl.step_drop hRXb ⟨by omega, (by rw [hGXb 40 0 13 (show 4014 ∉ [5600] by first | exact nlm_ni rfl | decide), hX36, u3_k _ _ _ _ (by first | exact Nat.ne_of_beq_eq_false rfl | decide), hX33, u3_k _ _ _ _ (by first | exact Nat.ne_of_beq_eq_false rfl | decide), hX30, u3_k _ _ _ _ (by first | exact Nat.ne_of_beq_eq_false rfl | decide), hX27, u3_k _ _ _ _ (by first | exact Nat.ne_of_beq_eq_false rfl | decide), hGXa 40 0 13 (show 4014 ∉ [4500, 4600, 4700, 4800, 5600] by first | exact nlm_ni rfl | decide), hX1, u3_j _ _ _ _ (by decide)]; omega)⟩ (by rw [hGXb 55 0 x (show 5500 ∉ [5600] by first | exact nlm_ni rfl | decide), hX36, u3_k _ _ _ _ (by first | exact Nat.ne_of_beq_eq_false rfl | decide), hX33, u3_k _ _ _ _ (by first | exact Nat.ne_of_beq_eq_false rfl | decide), hX30, u3_k _ _ _ _ (by first | exact Nat.ne_of_beq_eq_false rfl | decide), hX27, u3_k _ _ _ _ (by first | exact Nat.ne_of_beq_eq_false rfl | decide), hGXa 55 0 x (show 5500 ∉ [4500, 4600, 4700, 4800, 5600] by first | exact nlm_ni rfl | decide), hX1, u3_k _ _ _ _ (by first | exact Nat.ne_of_beq_eq_false rfl | decide)]; omega) ⟨by omega, (by rw [hGXb 44 0 t (show 4400 ∉ [5600] by first | exact nlm_ni rfl | decide), hX36, u3_k _ _ _ _ (by first | exact Nat.ne_of_beq_eq_false rfl | decide), hX33, u3_k _ _ _ _ (by first | exact Nat.ne_of_beq_eq_false rfl | decide), hX30, u3_k _ _ _ _ (by first | exact Nat.ne_of_beq_eq_false rfl | decide), hX27, u3_k _ _ _ _ (by first | exact Nat.ne_of_beq_eq_false rfl | decide), hGXa 44 0 t (show 4400 ∉ [4500, 4600, 4700, 4800, 5600] by first | exact nlm_ni rfl | decide), hX1, u3_k _ _ _ _ (by first | exact Nat.ne_of_beq_eq_false rfl | decide)]; omega)⟩ (by rw [show Xb 46 0 (5 * t + j) = Xa 46 0 (5 * t + (j + 1)) from (by rw [hGXb 46 0 (5 * t + j) (show 4600 ∉ [5600] by first | exact nlm_ni rfl | decide), hX36, u3_k _ _ _ _ (by first | exact Nat.ne_of_beq_eq_false rfl | decide), hX33, u3_k _ _ _ _ (by first | exact Nat.ne_of_beq_eq_false rfl | decide)]; rw [hVX30, Int.add_assoc]), show Xb 46 0 (5 * t + (j + 1)) = Xa 46 0 (5 * t + (j + 1)) from (by rw [hGXb 46 0 (5 * t + (j + 1)) (show 4600 ∉ [5600] by first | exact nlm_ni rfl | decide), hX36, u3_k _ _ _ _ (by first | exact Nat.ne_of_beq_eq_false rfl | decide), hX33, u3_k _ _ _ _ (by first | exact Nat.ne_of_beq_eq_false rfl | decide), hX30, u3_j _ _ _ _ (by omega), hX27, u3_k _ _ _ _ (by first | exact Nat.ne_of_beq_eq_false rfl | decide)])])))) ((by first | exact DrI.no hDb (fun q => by omega) hX54 | exact DrI.yes (v := (Xb 56 0 (((5 * x) + j) + 1))) hDb ⟨by omega, by omega⟩ ⟨by omega, by omega⟩ (by omega) (by omega) hX54 rfl)) hw hS (lv_sub hl [1, 2, 3, 4, 0] rfl)
                have q57 : Frm [4500, 4600, 4700, 4800] Xa X27 := by rw [hX27]; exact Frm.set Frm.rf (show 4500 ∈ [4500, 4600, 4700, 4800] by first | exact nlm_in rfl | decide)
                have q58 : Frm [4500, 4600, 4700, 4800] Xa X30 := by rw [hX30]; exact Frm.set q57 (show 4600 ∈ [4500, 4600, 4700, 4800] by first | exact nlm_in rfl | decide)
                have q59 : Frm [4500, 4600, 4700, 4800] Xa X33 := by rw [hX33]; exact Frm.set q58 (show 4700 ∈ [4500, 4600, 4700, 4800] by first | exact nlm_in rfl | decide)
                have q60 : Frm [4500, 4600, 4700, 4800] Xa X36 := by rw [hX36]; exact Frm.set q59 (show 4800 ∈ [4500, 4600, 4700, 4800] by first | exact nlm_in rfl | decide)
                exact lp144 (30 - 0 : Int).toNat.succ 0 X36 _ _ _ (by omega) hRX36 Frm.rf (by omega) (Fld.in_drop hMIXa hRXa (by rw [hGXa 40 0 20 (show 4021 ∉ [4500, 4600, 4700, 4800, 5600] by first | exact nlm_ni rfl | decide), hX1, u3_j _ _ _ _ (by decide)]; omega) (by omega) ⟨by omega, (by rw [hGXa 44 0 t (show 4400 ∉ [4500, 4600, 4700, 4800, 5600] by first | exact nlm_ni rfl | decide), hX1, u3_k _ _ _ _ (by first | exact Nat.ne_of_beq_eq_false rfl | decide)]; omega)⟩ q60 (fun q hq => ⟨(by rw [hX36, u3_k _ _ _ _ (by first | exact Nat.ne_of_beq_eq_false rfl | decide), hX33, u3_k _ _ _ _ (by first | exact Nat.ne_of_beq_eq_false rfl | decide), hX30, u3_j _ _ _ _ hq, hX27, u3_k _ _ _ _ (by first | exact Nat.ne_of_beq_eq_false rfl | decide)]), (by rw [hX36, u3_k _ _ _ _ (by first | exact Nat.ne_of_beq_eq_false rfl | decide), hX33, u3_j _ _ _ _ hq, hX30, u3_k _ _ _ _ (by first | exact Nat.ne_of_beq_eq_false rfl | decide), hX27, u3_k _ _ _ _ (by first | exact Nat.ne_of_beq_eq_false rfl | decide)])⟩) ⟨(by rw [hX36, u3_k _ _ _ _ (by first | exact Nat.ne_of_beq_eq_false rfl | decide), hX33, u3_k _ _ _ _ (by first | exact Nat.ne_of_beq_eq_false rfl | decide)]; rw [hVX30, Int.add_assoc]), (by rw [hX36, u3_k _ _ _ _ (by first | exact Nat.ne_of_beq_eq_false rfl | decide)]; rw [hVX33, Int.add_assoc])⟩) (DrI.of hDa (fun p => (by rw [hX36, u3_k _ _ _ _ (by first | exact Nat.ne_of_beq_eq_false rfl | decide), hX33, u3_k _ _ _ _ (by first | exact Nat.ne_of_beq_eq_false rfl | decide), hX30, u3_k _ _ _ _ (by first | exact Nat.ne_of_beq_eq_false rfl | decide), hX27, u3_k _ _ _ _ (by first | exact Nat.ne_of_beq_eq_false rfl | decide)]))) hw hS (lv_sub hl [1, 2, 3, 4, 0] rfl)
          have hMq61 : MInv X1 := minv_frm hMI q900065 (by decide)
          exact lp41 (5 - k : Int).toNat.succ k X1 _ _ _ (by omega) hRX1 Frm.rf (by omega) (hMq61) (Sh.in_ (by rw [hX1, u3_k _ _ _ _ (by first | exact Nat.ne_of_beq_eq_false rfl | decide)])) (Sh.in_ (by rw [hX1, u3_k _ _ _ _ (by first | exact Nat.ne_of_beq_eq_false rfl | decide)])) (Sh.in_ (by rw [hX1, u3_k _ _ _ _ (by first | exact Nat.ne_of_beq_eq_false rfl | decide)])) (Sh.in_ (by rw [hX1, u3_k _ _ _ _ (by first | exact Nat.ne_of_beq_eq_false rfl | decide)])) (DrI.in_ (fun p => (by rw [hX1, u3_k _ _ _ _ (by first | exact Nat.ne_of_beq_eq_false rfl | decide)]))) hw hS (lv_sub hl [1, 2, 3, 0] rfl)
        · refine lv_bipush (v := jI (-3)) hx hb dX9_drop_36 (by decide) ?_
          rw [hQ9]
          refine ret_i (mc := 0) (ms := 0) hx hb hr hlocks hw hS (by first | exact Nat.le_of_ble_eq_true rfl | omega) (by first | exact Nat.le_of_ble_eq_true rfl | omega) dX9_drop_38 ?_
          have hMq63 : MInv X1 := minv_frm hMI q900065 (by decide)
          have e65 : X1 44 0 t = X 44 0 t := (by rw [hX1, u3_k _ _ _ _ (by first | exact Nat.ne_of_beq_eq_false rfl | decide)])
          exact ⟨X1, rfl, hRX1, hFX1, hMq63, by omega, (by (try delta Hid at *); first | exact Or.inr (Or.inl ⟨by omega, by omega, by omega, by omega, by omega, by omega, by omega⟩) | exact Or.inr (Or.inr ((⟨by omega, by omega, by omega, by omega, by omega, by omega, by omega⟩))) | omega), fun h => (by exfalso; omega), fun _ y => ⟨(by rw [hX1, u3_k _ _ _ _ (by first | exact Nat.ne_of_beq_eq_false rfl | decide)]), (by rw [hX1, u3_k _ _ _ _ (by first | exact Nat.ne_of_beq_eq_false rfl | decide)]), (by rw [hX1, u3_k _ _ _ _ (by first | exact Nat.ne_of_beq_eq_false rfl | decide)]), (by rw [hX1, u3_k _ _ _ _ (by first | exact Nat.ne_of_beq_eq_false rfl | decide)])⟩, fun y h => (by rw [hX1, u3_k _ _ _ _ (by first | exact Nat.ne_of_beq_eq_false rfl | decide)]), fun q => (by exfalso; omega), fun _ => q900065⟩
      · refine lv_iconst (v := jI (-1)) hx hb dX9_drop_27 rfl ?_
        rw [hQ9]
        refine ret_i (mc := 0) (ms := 0) hx hb hr hlocks hw hS (by first | exact Nat.le_of_ble_eq_true rfl | omega) (by first | exact Nat.le_of_ble_eq_true rfl | omega) dX9_drop_28 ?_
        have hMq67 : MInv X1 := minv_frm hMI q900065 (by decide)
        have e69 : X1 44 0 t = X 44 0 t := (by rw [hX1, u3_k _ _ _ _ (by first | exact Nat.ne_of_beq_eq_false rfl | decide)])
        exact ⟨X1, rfl, hRX1, hFX1, hMq67, by omega, (by (try delta Hid at *); first | exact Or.inl ⟨(fun q => by omega), by omega, by omega⟩ | exact Or.inr (Or.inr ((⟨by omega, by omega, by omega, by omega, by omega, by omega, by omega⟩))) | omega), fun h => (by exfalso; omega), fun _ y => ⟨(by rw [hX1, u3_k _ _ _ _ (by first | exact Nat.ne_of_beq_eq_false rfl | decide)]), (by rw [hX1, u3_k _ _ _ _ (by first | exact Nat.ne_of_beq_eq_false rfl | decide)]), (by rw [hX1, u3_k _ _ _ _ (by first | exact Nat.ne_of_beq_eq_false rfl | decide)]), (by rw [hX1, u3_k _ _ _ _ (by first | exact Nat.ne_of_beq_eq_false rfl | decide)])⟩, fun y h => (by rw [hX1, u3_k _ _ _ _ (by first | exact Nat.ne_of_beq_eq_false rfl | decide)]), fun q => (by exfalso; omega), fun _ => q900065⟩
  · subst ez2
    refine x_if_eqT (tgt := 27) hx hb (by omega) (by decide) dX9_drop_10 (by decide) ?_
    refine lv_iconst (v := jI (-1)) hx hb dX9_drop_27 rfl ?_
    rw [hQ9]
    refine ret_i (mc := 0) (ms := 0) hx hb hr hlocks hw hS (by first | exact Nat.le_of_ble_eq_true rfl | omega) (by first | exact Nat.le_of_ble_eq_true rfl | omega) dX9_drop_28 ?_
    have hMq71 : MInv X1 := minv_frm hMI q900065 (by decide)
    have e73 : X1 44 0 t = X 44 0 t := (by rw [hX1, u3_k _ _ _ _ (by first | exact Nat.ne_of_beq_eq_false rfl | decide)])
    exact ⟨X1, rfl, hRX1, hFX1, hMq71, by omega, (by (try delta Hid at *); first | exact Or.inl ⟨(fun q => by omega), by omega, by omega⟩ | exact Or.inr (Or.inr ((⟨by omega, by omega, by omega, by omega, by omega, by omega, by omega⟩))) | omega), fun h => (by exfalso; omega), fun _ y => ⟨(by rw [hX1, u3_k _ _ _ _ (by first | exact Nat.ne_of_beq_eq_false rfl | decide)]), (by rw [hX1, u3_k _ _ _ _ (by first | exact Nat.ne_of_beq_eq_false rfl | decide)]), (by rw [hX1, u3_k _ _ _ _ (by first | exact Nat.ne_of_beq_eq_false rfl | decide)]), (by rw [hX1, u3_k _ _ _ _ (by first | exact Nat.ne_of_beq_eq_false rfl | decide)])⟩, fun y h => (by rw [hX1, u3_k _ _ _ _ (by first | exact Nat.ne_of_beq_eq_false rfl | decide)]), fun q => (by exfalso; omega), fun _ => q900065⟩
end
section
set_option maxHeartbeats 4000000 in
set_option maxRecDepth 100000 in
theorem c_X9_newRow (l : Launch) (D : va_G) (tc : Nat → ClassId) (base : Nat) (ad : Nat → Int → Nat) (cnt : Nat → Int) (X : Nat → Int → Int → Int) (Y : Nat → Int → Int → Option Int) (ln : Int → Int) (hR : Rng X) (hFx : Fx cnt) (hMI : MInv X) (lane n : Int) (hlane : 0 ≤ lane ∧ lane ≤ 5) (hn : 0 ≤ n ∧ n ≤ 12) : KI l D tc base yX9_newRow wsX9_newRow ({ frames := 1, cells := 0, slots := 0, locals := 22 } : Room) [.ref (ad 40 0), .int (jI lane), .int (jI n)] (ad, cnt, X, Y, ln) 0 0 (fun z u => ∃ X1 : Nat → Int → Int → Int, u = (ad, cnt, X1, Y, ln) ∧ Rng X1 ∧ Frm [6000, 5700, 5800, 5900] X X1 ∧ MInv X1 ∧ (0 ≤ z ∧ z ≤ 399) ∧ nwM X X1 lane n z) := by
  refine K_of (cc := cX9_newRow) (maxL := 5) (ret := (some .int)) (by decide) rfl (Nat.le_of_ble_eq_true rfl) ?_
  intro p e s m below meth c ls hx hb hr hml hown hts hlocks hl hK hw hS
  have hown : s.vm.findClass RX9 = some m.cls := hown
  obtain ⟨av9, hav9⟩ : ∃ a9 : Array Value, a9 = ([.ref (ad 40 0), .int (jI lane), .int (jI n)] : List Value).toArray := ⟨_, rfl⟩
  rw [← hav9] at hts ⊢
  obtain ⟨Q9, hQ9⟩ : ∃ q9Q : State → Prop, q9Q = MQ below (QI D tc base (fun z u => ∃ X1 : Nat → Int → Int → Int, u = (ad, cnt, X1, Y, ln) ∧ Rng X1 ∧ Frm [6000, 5700, 5800, 5900] X X1 ∧ MInv X1 ∧ (0 ≤ z ∧ z ≤ 399) ∧ nwM X X1 lane n z)) av9 s 0 0 (frA base) := ⟨_, rfl⟩
  rw [← hQ9]
  have hi9 : ∀ w ∈ wsX90, w ∈ wsX9_newRow := fun w h => List.mem_cons_of_mem _ (List.mem_append_right _ h)
  have hf9 : fctx s m _ RX9 wsX9_newRow D tc RX9 TX9 51 9 := ⟨hts, hi9, hown, hK.1, rfl⟩
  have lk13 := hts (.fieldLink RX9 13 (TX9 3).1 (TX9 3).2.1 (TX9 3).2.2.1) (gj_X9_newRow_0 _ (gp_1 (gp_1 gp_h)))
  have lk45 := hts (.fieldLink RX9 45 (TX9 14).1 (TX9 14).2.1 (TX9 14).2.2.1) (gj_X9_newRow_0 _ (gp_1 (gp_1 (gp_1 gp_h))))
  have lk48 := hts (.fieldLink RX9 48 (TX9 15).1 (TX9 15).2.1 (TX9 15).2.2.1) (gj_X9_newRow_0 _ (gp_4 gp_h))
  have lk51 := hts (.fieldLink RX9 51 (TX9 16).1 (TX9 16).2.1 (TX9 16).2.2.1) (gj_X9_newRow_0 _ (gp_4 (gp_1 (gp_1 (gp_1 gp_h)))))
  have lk54 := hts (.fieldLink RX9 54 (TX9 17).1 (TX9 17).2.1 (TX9 17).2.2.1) (gj_X9_newRow_0 _ (gp_4 (gp_4 gp_h)))
  have lk57 := hts (.fieldLink RX9 57 (TX9 18).1 (TX9 18).2.1 (TX9 18).2.2.1) (gj_X9_newRow_0 _ (gp_4 (gp_4 (gp_1 gp_h))))
  have lk60 := hts (.fieldLink RX9 60 (TX9 19).1 (TX9 19).2.1 (TX9 19).2.2.1) (gj_X9_newRow_0 _ (gp_h))
  have lk72 := hts (.fieldLink RX9 72 (TX9 25).1 (TX9 25).2.1 (TX9 25).2.2.1) (gj_X9_newRow_0 _ (gp_4 (gp_1 (gp_1 gp_h))))
  have lk151 := hts (.fieldLink RX9 151 (TX9 13).1 (TX9 13).2.1 (TX9 13).2.2.1) (gj_X9_newRow_0 _ (gp_1 gp_h))
  have lk173 := hts (.fieldLink RX9 173 (TX9 22).1 (TX9 22).2.1 (TX9 22).2.2.1) (gj_X9_newRow_0 _ (gp_4 (gp_1 gp_h)))
  have hc40 : cnt 40 = 1 := hFx.at 40 1 (by decide)
  have hc44 : cnt 44 = 1 := hFx.at 44 1 (by decide)
  have hc55 : cnt 55 = 1 := hFx.at 55 1 (by decide)
  have hc56 : cnt 56 = 1 := hFx.at 56 1 (by decide)
  have hc57 : cnt 57 = 1 := hFx.at 57 1 (by decide)
  have hc58 : cnt 58 = 1 := hFx.at 58 1 (by decide)
  have hc59 : cnt 59 = 1 := hFx.at 59 1 (by decide)
  have hc60 : cnt 60 = 1 := hFx.at 60 1 (by decide)
  have hc66 : cnt 66 = 1 := hFx.at 66 1 (by decide)
  have hl : lv_has ls 5 [(0, .ref (ad 40 0)), (1, .int (jI lane)), (2, .int (jI n))] := hl
  have fstypes : 0 ≤ X 40 0 2 ∧ X 40 0 2 ≤ 8 := hR 40 0 2
  have fsthings : 0 ≤ X 40 0 13 ∧ X 40 0 13 ≤ 30 := hR 40 0 13
  have fsmarks : 0 ≤ X 40 0 20 ∧ X 40 0 20 ≤ 4 := hR 40 0 20
  have fsnotes : 0 ≤ X 40 0 22 ∧ X 40 0 22 ≤ 80 := hR 40 0 22
  refine lv_iconst (v := jI 0) hx hb dX9_newRow_0 rfl ?_
  refine lv_istore_n (lv' := [(3, .int (jI 0)), (0, .ref (ad 40 0)), (1, .int (jI lane)), (2, .int (jI n))]) hx hb dX9_newRow_1 rfl hl (by decide) rfl (fun ls hl => ?_)
  have lp2 : ∀ (nn : Nat) (k : Int) (Xa : Nat → Int → Int → Int) (H : Heap) (locs : List Loc) (ls : Array Slot), (400 - k) < (nn : Int) → (Rng Xa) → (Frm [6000] X Xa) → (0 ≤ k ∧ k ≤ 400) → (∀ j, 0 ≤ j → j < k → Xa 60 0 j = 0) → wd D tc base (ad, cnt, Xa, Y, ln) H → va_S (frA base) s.heap H locs → lv_has ls 5 [(0, .ref (ad 40 0)), (1, .int (jI lane)), (2, .int (jI n)), (3, .int (jI k))] → W p l e ({ frames := 1, cells := 0, slots := 0, locals := 22 } : Room) s m av9 below meth c H locs 0 0 Q9 (F0 m 2 ls []) := by
    intro nn
    induction nn with
    | zero => intro k Xa H locs ls hm hRXa hGXa hk hz hw hS hl; exfalso; omega
    | succ nn ih2 =>
      intro k Xa H locs ls hm hRXa hGXa hk hz hw hS hl
      have hFXa : Frm [6000, 5700, 5800, 5900] X Xa := Frm.tr Frm.rf (Frm.mono hGXa (by first | exact nls_of rfl | decide))
      refine lv_iload_n hx hb dX9_newRow_2 rfl (lv_at hl 3 rfl) ?_
      refine lv_sipush (v := jI 400) hx hb dX9_newRow_3 (by decide) ?_
      refine x_icmp_ge (tgt := 22) hx hb (by omega) (by omega) dX9_newRow_6 (by decide) (fun c1 => ?_) (fun c1 => ?_)
      · refine lv_iconst (v := jI 0) hx hb dX9_newRow_22 rfl ?_
        refine lv_istore_n (lv' := [(3, .int (jI 0)), (0, .ref (ad 40 0)), (1, .int (jI lane)), (2, .int (jI n))]) hx hb dX9_newRow_23 rfl hl (by decide) rfl (fun ls hl => ?_)
        have lp24 : ∀ (nn : Nat) (x : Int) (Xb : Nat → Int → Int → Int) (H : Heap) (locs : List Loc) (ls : Array Slot), (30 - x) < (nn : Int) → (Rng Xb) → (Frm [6000] Xa Xb) → (0 ≤ x ∧ x ≤ 30) → (Ucov Xb (5 * x)) → (∀ y j, 0 ≤ y → y < x → 0 ≤ j → j < X 44 0 (X 55 0 y) → 3 ≤ X 46 0 (5 * X 55 0 y + j) → 0 ≤ X 56 0 (5 * y + j) → Xb 60 0 (X 56 0 (5 * y + j)) = 1) → wd D tc base (ad, cnt, Xb, Y, ln) H → va_S (frA base) s.heap H locs → lv_has ls 5 [(0, .ref (ad 40 0)), (1, .int (jI lane)), (2, .int (jI n)), (3, .int (jI x))] → W p l e ({ frames := 1, cells := 0, slots := 0, locals := 22 } : Room) s m av9 below meth c H locs 0 0 Q9 (F0 m 24 ls []) := by
          intro nn
          induction nn with
          | zero => intro x Xb H locs ls hm hRXb hGXb hx3 hU hPb hw hS hl; exfalso; omega
          | succ nn ih24 =>
            intro x Xb H locs ls hm hRXb hGXb hx3 hU hPb hw hS hl
            have hFXb : Frm [6000, 5700, 5800, 5900] X Xb := Frm.tr hFXa (Frm.mono hGXb (by first | exact nls_of rfl | decide))
            refine lv_iload_n hx hb dX9_newRow_24 rfl (lv_at hl 3 rfl) ?_
            refine lv_aload_n hx hb dX9_newRow_25 rfl (lv_at hl 0 rfl) ?_
            refine x_geti (jz := 13) hx hb hf9 hw (by first | exact Int.le_refl 0 | omega) (by first | exact zlt hc40 | omega) sl_40_13 rfl lk151 dX9_newRow_26 ?_
            have e2 : Xb 40 0 13 = X 40 0 13 := by rw [hGXb 40 0 13 (show 4014 ∉ [6000] by first | exact nlm_ni rfl | decide), hGXa 40 0 13 (show 4014 ∉ [6000] by first | exact nlm_ni rfl | decide)]
            rw [e2]
            have f3 : 0 ≤ X 40 0 13 ∧ X 40 0 13 ≤ 30 := hR 40 0 13
            refine x_icmp_ge (tgt := 108) hx hb (by omega) (by omega) dX9_newRow_29 (by decide) (fun c4 => ?_) (fun c4 => ?_)
            · refine lv_iconst (v := jI 0) hx hb dX9_newRow_108 rfl ?_
              refine lv_istore_n (lv' := [(3, .int (jI 0)), (0, .ref (ad 40 0)), (1, .int (jI lane)), (2, .int (jI n))]) hx hb dX9_newRow_109 rfl hl (by decide) rfl (fun ls hl => ?_)
              have lp110 : ∀ (nn : Nat) (k : Int) (Xd : Nat → Int → Int → Int) (H : Heap) (locs : List Loc) (ls : Array Slot), (80 - k) < (nn : Int) → (Rng Xd) → (Frm [6000] Xb Xd) → (0 ≤ k ∧ k ≤ 80) → (Ucov Xd (150 + k)) → (∀ y j, 0 ≤ y → y < X 40 0 13 → 0 ≤ j → j < X 44 0 (X 55 0 y) → 3 ≤ X 46 0 (5 * X 55 0 y + j) → 0 ≤ X 56 0 (5 * y + j) → Xd 60 0 (X 56 0 (5 * y + j)) = 1) → (∀ m, 0 ≤ m → m < k → 0 ≤ X 66 0 m → Xd 60 0 (X 66 0 m) = 1) → wd D tc base (ad, cnt, Xd, Y, ln) H → va_S (frA base) s.heap H locs → lv_has ls 5 [(0, .ref (ad 40 0)), (1, .int (jI lane)), (2, .int (jI n)), (3, .int (jI k))] → W p l e ({ frames := 1, cells := 0, slots := 0, locals := 22 } : Room) s m av9 below meth c H locs 0 0 Q9 (F0 m 110 ls []) := by
                intro nn
                induction nn with
                | zero => intro k Xd H locs ls hm hRXd hGXd hk hU hPd hNd hw hS hl; exfalso; omega
                | succ nn ih110 =>
                  intro k Xd H locs ls hm hRXd hGXd hk hU hPd hNd hw hS hl
                  have hFXd : Frm [6000, 5700, 5800, 5900] X Xd := Frm.tr hFXb (Frm.mono hGXd (by first | exact nls_of rfl | decide))
                  refine lv_iload_n hx hb dX9_newRow_110 rfl (lv_at hl 3 rfl) ?_
                  refine lv_aload_n hx hb dX9_newRow_111 rfl (lv_at hl 0 rfl) ?_
                  refine x_geti (jz := 22) hx hb hf9 hw (by first | exact Int.le_refl 0 | omega) (by first | exact zlt hc40 | omega) sl_40_22 rfl lk173 dX9_newRow_112 ?_
                  have e5 : Xd 40 0 22 = X 40 0 22 := by rw [hGXd 40 0 22 (show 4023 ∉ [6000] by first | exact nlm_ni rfl | decide), hGXb 40 0 22 (show 4023 ∉ [6000] by first | exact nlm_ni rfl | decide), hGXa 40 0 22 (show 4023 ∉ [6000] by first | exact nlm_ni rfl | decide)]
                  rw [e5]
                  have f6 : 0 ≤ X 40 0 22 ∧ X 40 0 22 ≤ 80 := hR 40 0 22
                  refine x_icmp_ge (tgt := 145) hx hb (by omega) (by omega) dX9_newRow_115 (by decide) (fun c7 => ?_) (fun c7 => ?_)
                  · refine lv_iconst (v := jI 0) hx hb dX9_newRow_145 rfl ?_
                    refine lv_istore_n (lv' := [(3, .int (jI 0)), (0, .ref (ad 40 0)), (1, .int (jI lane)), (2, .int (jI n))]) hx hb dX9_newRow_146 rfl hl (by decide) rfl (fun ls hl => ?_)
                    have lp147 : ∀ (nn : Nat) (r : Int) (H : Heap) (locs : List Loc) (ls : Array Slot), (230 - r) < (nn : Int) → (0 ≤ r ∧ r ≤ 230) → (∀ j, 0 ≤ j → j < r → Xd 60 0 j = 1) → wd D tc base (ad, cnt, Xd, Y, ln) H → va_S (frA base) s.heap H locs → lv_has ls 5 [(0, .ref (ad 40 0)), (1, .int (jI lane)), (2, .int (jI n)), (3, .int (jI r))] → W p l e ({ frames := 1, cells := 0, slots := 0, locals := 22 } : Room) s m av9 below meth c H locs 0 0 Q9 (F0 m 147 ls []) := by
                      intro nn
                      induction nn with
                      | zero => intro r H locs ls hm hr0 hu hw hS hl; exfalso; omega
                      | succ nn ih147 =>
                        intro r H locs ls hm hr0 hu hw hS hl
                        refine lv_aload_n hx hb dX9_newRow_147 rfl (lv_at hl 0 rfl) ?_
                        refine x_geto hx hb hf9 hw (by first | exact Int.le_refl 0 | omega) (by first | exact zlt hc40 | omega) sl_40_19 lk60 dX9_newRow_148 ?_
                        refine lv_iload_n hx hb dX9_newRow_151 rfl (lv_at hl 3 rfl) ?_
                        refine x_zald hx hb hK.1 hw (by first | exact Int.le_refl 0 | omega) (by first | exact zlt hc60 | omega) ar_60 (len_E ar_60 (by first | exact Nat.ne_of_beq_eq_false rfl | decide)) (by omega) (by omega) (by omega) dX9_newRow_152 ?_
                        have f8 : 0 ≤ Xd 60 0 r ∧ Xd 60 0 r ≤ 1 := hRXd 60 0 r
                        refine x_if_eq (tgt := 162) hx hb (by omega) dX9_newRow_153 (by decide) (fun c9 => ?_) (fun c9 => ?_)
                        · refine lv_aload_n hx hb dX9_newRow_162 rfl (lv_at hl 0 rfl) ?_
                          refine x_geto hx hb hf9 hw (by first | exact Int.le_refl 0 | omega) (by first | exact zlt hc40 | omega) sl_40_16 lk51 dX9_newRow_163 ?_
                          refine lv_iload_n hx hb dX9_newRow_166 rfl (lv_at hl 3 rfl) ?_
                          refine lv_iload_n hx hb dX9_newRow_167 rfl (lv_at hl 1 rfl) ?_
                          refine x_iast hx hb hK.1 hw hS (by first | exact Int.le_refl 0 | omega) (by first | exact zlt hc57 | omega) ar_57 (len_E ar_57 (by first | exact Nat.ne_of_beq_eq_false rfl | decide)) (by omega) (by omega) (by omega) dX9_newRow_168 (fun H locs hw hS => ?_)
                          obtain ⟨X10, hX10⟩ : ∃ Xq, Xq = u3 Xd 57 0 r lane := ⟨_, rfl⟩
                          rw [← hX10] at hw
                          have hRX10 : Rng X10 := by rw [hX10]; exact rng_set hRXd (show 0 ≤ lane ∧ lane ≤ 5 by omega)
                          have hVX10 : X10 57 0 r = lane := by rw [hX10]; exact u3_s _ _ _ _ _
                          have hFX10 : Frm [6000, 5700, 5800, 5900] X X10 := by rw [hX10]; exact Frm.set hFXd (show 5700 ∈ [6000, 5700, 5800, 5900] by first | exact nlm_in rfl | decide)
                          refine lv_aload_n hx hb dX9_newRow_169 rfl (lv_at hl 0 rfl) ?_
                          refine x_geto hx hb hf9 hw (by first | exact Int.le_refl 0 | omega) (by first | exact zlt hc40 | omega) sl_40_17 lk54 dX9_newRow_170 ?_
                          refine lv_iload_n hx hb dX9_newRow_173 rfl (lv_at hl 3 rfl) ?_
                          refine lv_iload_n hx hb dX9_newRow_174 rfl (lv_at hl 2 rfl) ?_
                          refine x_iast hx hb hK.1 hw hS (by first | exact Int.le_refl 0 | omega) (by first | exact zlt hc58 | omega) ar_58 (len_E ar_58 (by first | exact Nat.ne_of_beq_eq_false rfl | decide)) (by omega) (by omega) (by omega) dX9_newRow_175 (fun H locs hw hS => ?_)
                          obtain ⟨X11, hX11⟩ : ∃ Xq, Xq = u3 X10 58 0 r n := ⟨_, rfl⟩
                          rw [← hX11] at hw
                          have hRX11 : Rng X11 := by rw [hX11]; exact rng_set hRX10 (show 0 ≤ n ∧ n ≤ 12 by omega)
                          have hVX11 : X11 58 0 r = n := by rw [hX11]; exact u3_s _ _ _ _ _
                          have hFX11 : Frm [6000, 5700, 5800, 5900] X X11 := by rw [hX11]; exact Frm.set hFX10 (show 5800 ∈ [6000, 5700, 5800, 5900] by first | exact nlm_in rfl | decide)
                          refine lv_iconst (v := jI 0) hx hb dX9_newRow_176 rfl ?_
                          refine lv_istore (lv' := [(4, .int (jI 0)), (0, .ref (ad 40 0)), (1, .int (jI lane)), (2, .int (jI n)), (3, .int (jI r))]) hx hb dX9_newRow_177 hl (by decide) rfl (fun ls hl => ?_)
                          have lp179 : ∀ (nn : Nat) (k : Int) (Xe : Nat → Int → Int → Int) (H : Heap) (locs : List Loc) (ls : Array Slot), (12 - k) < (nn : Int) → (Rng Xe) → (Frm [5900] X11 Xe) → (0 ≤ k ∧ k ≤ 12) → (∀ j, 0 ≤ j → j < k → Xe 59 0 (12 * r + j) = 0) → (∀ p, ¬ (12 * r ≤ p ∧ p < 12 * r + 12) → Xe 59 0 p = X 59 0 p) → wd D tc base (ad, cnt, Xe, Y, ln) H → va_S (frA base) s.heap H locs → lv_has ls 5 [(0, .ref (ad 40 0)), (1, .int (jI lane)), (2, .int (jI n)), (3, .int (jI r)), (4, .int (jI k))] → W p l e ({ frames := 1, cells := 0, slots := 0, locals := 22 } : Room) s m av9 below meth c H locs 0 0 Q9 (F0 m 179 ls []) := by
                            intro nn
                            induction nn with
                            | zero => intro k Xe H locs ls hm hRXe hGXe hk hi12 hio hw hS hl; exfalso; omega
                            | succ nn ih179 =>
                              intro k Xe H locs ls hm hRXe hGXe hk hi12 hio hw hS hl
                              have hFXe : Frm [6000, 5700, 5800, 5900] X Xe := Frm.tr hFX11 (Frm.mono hGXe (by first | exact nls_of rfl | decide))
                              refine lv_iload hx hb dX9_newRow_179 (lv_at hl 4 rfl) ?_
                              refine lv_bipush (v := jI 12) hx hb dX9_newRow_181 (by decide) ?_
                              refine x_icmp_ge (tgt := 205) hx hb (by omega) (by omega) dX9_newRow_183 (by decide) (fun c12 => ?_) (fun c12 => ?_)
                              · refine lv_iload_n hx hb dX9_newRow_205 rfl (lv_at hl 3 rfl) ?_
                                rw [hQ9]
                                refine ret_i (mc := 0) (ms := 0) hx hb hr hlocks hw hS (by first | exact Nat.le_of_ble_eq_true rfl | omega) (by first | exact Nat.le_of_ble_eq_true rfl | omega) dX9_newRow_206 ?_
                                have q14 : Frm [5700, 5800, 5900, 6000] X Xa := Frm.tr Frm.rf (Frm.mono hGXa (by first | exact nls_of rfl | decide))
                                have q15 : Frm [5700, 5800, 5900, 6000] X Xb := Frm.tr q14 (Frm.mono hGXb (by first | exact nls_of rfl | decide))
                                have q16 : Frm [5700, 5800, 5900, 6000] X Xd := Frm.tr q15 (Frm.mono hGXd (by first | exact nls_of rfl | decide))
                                have q17 : Frm [5700, 5800, 5900, 6000] X X10 := by rw [hX10]; exact Frm.set q16 (show 5700 ∈ [5700, 5800, 5900, 6000] by first | exact nlm_in rfl | decide)
                                have q18 : Frm [5700, 5800, 5900, 6000] X X11 := by rw [hX11]; exact Frm.set q17 (show 5800 ∈ [5700, 5800, 5900, 6000] by first | exact nlm_in rfl | decide)
                                have q19 : Frm [5700, 5800, 5900, 6000] X Xe := Frm.tr q18 (Frm.mono hGXe (by first | exact nls_of rfl | decide))
                                have hMq13 : MInv Xe := minv_frm hMI q19 (by decide)
                                exact ⟨Xe, rfl, hRXe, hFXe, hMq13, by omega, ⟨fun y j a b c d l q => (by have h9 := hPd y j a (by omega) c d l (by omega); rw [q] at h9; omega), fun m a b q => (by have h9 := hNd m a (by omega) (by omega); rw [q] at h9; omega), (by rw [hGXe 57 0 r (show 5700 ∉ [5900] by first | exact nlm_ni rfl | decide), hX11, u3_k _ _ _ _ (by first | exact Nat.ne_of_beq_eq_false rfl | decide)]; exact hVX10), (by rw [hGXe 58 0 r (show 5800 ∉ [5900] by first | exact nlm_ni rfl | decide)]; exact hVX11), fun y hy => ⟨(by rw [hGXe 57 0 y (show 5700 ∉ [5900] by first | exact nlm_ni rfl | decide), hX11, u3_k _ _ _ _ (by first | exact Nat.ne_of_beq_eq_false rfl | decide), hX10, u3_j _ _ _ _ hy, hGXd 57 0 y (show 5700 ∉ [6000] by first | exact nlm_ni rfl | decide), hGXb 57 0 y (show 5700 ∉ [6000] by first | exact nlm_ni rfl | decide), hGXa 57 0 y (show 5700 ∉ [6000] by first | exact nlm_ni rfl | decide)]), (by rw [hGXe 58 0 y (show 5800 ∉ [5900] by first | exact nlm_ni rfl | decide), hX11, u3_j _ _ _ _ hy, hX10, u3_k _ _ _ _ (by first | exact Nat.ne_of_beq_eq_false rfl | decide), hGXd 58 0 y (show 5800 ∉ [6000] by first | exact nlm_ni rfl | decide), hGXb 58 0 y (show 5800 ∉ [6000] by first | exact nlm_ni rfl | decide), hGXa 58 0 y (show 5800 ∉ [6000] by first | exact nlm_ni rfl | decide)])⟩, fun j a b => hi12 j a (by omega), fun p hp9 => hio p hp9⟩⟩
                              · refine lv_aload_n hx hb dX9_newRow_186 rfl (lv_at hl 0 rfl) ?_
                                refine x_geto hx hb hf9 hw (by first | exact Int.le_refl 0 | omega) (by first | exact zlt hc40 | omega) sl_40_18 lk57 dX9_newRow_187 ?_
                                refine lv_bipush (v := jI 12) hx hb dX9_newRow_190 (by decide) ?_
                                refine lv_iload_n hx hb dX9_newRow_192 rfl (lv_at hl 3 rfl) ?_
                                refine x_imul hx hb dX9_newRow_193 ?_
                                refine lv_iload hx hb dX9_newRow_194 (lv_at hl 4 rfl) ?_
                                refine x_iadd hx hb dX9_newRow_196 ?_
                                refine lv_lconst (v := jL 0) hx hb dX9_newRow_197 (by decide) ?_
                                refine x_last hx hb hK.1 hw hS (by first | exact Int.le_refl 0 | omega) (by first | exact zlt hc59 | omega) ar_59 (len_E ar_59 (by first | exact Nat.ne_of_beq_eq_false rfl | decide)) (by omega) (by omega) (by omega) dX9_newRow_198 (fun H locs hw hS => ?_)
                                obtain ⟨X20, hX20⟩ : ∃ Xq, Xq = u3 Xe 59 0 ((12 * r) + k) 0 := ⟨_, rfl⟩
                                rw [← hX20] at hw
                                have hRX20 : Rng X20 := by rw [hX20]; exact rng_set hRXe (show (-9223372036854775808) ≤ 0 ∧ 0 ≤ 9223372036854775807 by omega)
                                have hVX20 : X20 59 0 ((12 * r) + k) = 0 := by rw [hX20]; exact u3_s _ _ _ _ _
                                have hFX20 : Frm [6000, 5700, 5800, 5900] X X20 := by rw [hX20]; exact Frm.set hFXe (show 5900 ∈ [6000, 5700, 5800, 5900] by first | exact nlm_in rfl | decide)
                                refine lv_iinc (v := jI (k + 1)) (lv' := [(4, .int (jI (k + 1))), (0, .ref (ad 40 0)), (1, .int (jI lane)), (2, .int (jI n)), (3, .int (jI r))]) hx hb dX9_newRow_199 hl (k := 4) rfl (jI_add _ _) (by decide) rfl (fun ls hl => ?_)
                                refine lv_goto (tgt := 179) hx hb dX9_newRow_202 (by decide) ?_
                                have q21 : Frm [5900] X11 Xe := Frm.tr Frm.rf (Frm.mono hGXe (by first | exact nls_of rfl | decide))
                                have q22 : Frm [5900] X11 X20 := by rw [hX20]; exact Frm.set q21 (show 5900 ∈ [5900] by first | exact nlm_in rfl | decide)
                                exact ih179 (k + 1) X20 _ _ _ (by omega) hRX20 q22 (by omega) (fun j a b => if hj : j = k then (by rw [hj]; exact hVX20) else (by rw [hX20, u3_j _ _ _ _ (by omega)]; exact hi12 j a (by omega))) (fun p hp9 => (by rw [hX20, u3_j _ _ _ _ (by omega)]; exact hio p hp9)) hw hS (lv_sub hl [1, 2, 3, 4, 0] rfl)
                          exact lp179 (12 - 0 : Int).toNat.succ 0 X11 _ _ _ (by omega) hRX11 Frm.rf (by omega) (fun j a b => by omega) (fun p _ => (by rw [hX11, u3_k _ _ _ _ (by first | exact Nat.ne_of_beq_eq_false rfl | decide), hX10, u3_k _ _ _ _ (by first | exact Nat.ne_of_beq_eq_false rfl | decide), hGXd 59 0 p (show 5900 ∉ [6000] by first | exact nlm_ni rfl | decide), hGXb 59 0 p (show 5900 ∉ [6000] by first | exact nlm_ni rfl | decide), hGXa 59 0 p (show 5900 ∉ [6000] by first | exact nlm_ni rfl | decide)])) hw hS (lv_sub hl [1, 2, 3, 4, 0] rfl)
                        · refine lv_iinc (v := jI (r + 1)) (lv' := [(3, .int (jI (r + 1))), (0, .ref (ad 40 0)), (1, .int (jI lane)), (2, .int (jI n))]) hx hb dX9_newRow_156 hl (k := 3) rfl (jI_add _ _) (by decide) rfl (fun ls hl => ?_)
                          refine lv_goto (tgt := 147) hx hb dX9_newRow_159 (by decide) ?_
                          exact ih147 (r + 1) _ _ _ (by omega) (by have := hU.fin (r := r + 1) (by omega) (fun j a b => if hj : j = r then (by rw [hj]; omega) else hu j a (by omega)); omega) (fun j a b => if hj : j = r then (by rw [hj]; omega) else hu j a (by omega)) hw hS (lv_sub hl [1, 2, 3, 0] rfl)
                    exact lp147 (230 - 0 : Int).toNat.succ 0 _ _ _ (by omega) (by omega) (fun j a b => by omega) hw hS (lv_sub hl [1, 2, 3, 0] rfl)
                  · refine lv_aload_n hx hb dX9_newRow_118 rfl (lv_at hl 0 rfl) ?_
                    refine x_geto hx hb hf9 hw (by first | exact Int.le_refl 0 | omega) (by first | exact zlt hc40 | omega) sl_40_25 lk72 dX9_newRow_119 ?_
                    refine lv_iload_n hx hb dX9_newRow_122 rfl (lv_at hl 3 rfl) ?_
                    refine x_iald hx hb hK.1 hw (by first | exact Int.le_refl 0 | omega) (by first | exact zlt hc66 | omega) ar_66 (len_E ar_66 (by first | exact Nat.ne_of_beq_eq_false rfl | decide)) (by omega) (by omega) (by omega) dX9_newRow_123 ?_
                    have e23 : ∀ p9 q9 : Int, Xd 66 p9 q9 = X 66 p9 q9 := fun p9 q9 => by rw [hGXd 66 p9 q9 (show 6600 ∉ [6000] by first | exact nlm_ni rfl | decide), hGXb 66 p9 q9 (show 6600 ∉ [6000] by first | exact nlm_ni rfl | decide), hGXa 66 p9 q9 (show 6600 ∉ [6000] by first | exact nlm_ni rfl | decide)]
                    rw [e23 0 k]
                    have f24 : (-1) ≤ X 66 0 k ∧ X 66 0 k ≤ 399 := hR 66 0 k
                    have q900066 : Frm [6000] Xb Xd := Frm.tr Frm.rf (Frm.mono hGXd (by first | exact nls_of rfl | decide))
                    refine x_if_lt (tgt := 139) hx hb (by omega) dX9_newRow_124 (by decide) (fun c25 => ?_) (fun c25 => ?_)
                    · refine lv_iinc (v := jI (k + 1)) (lv' := [(3, .int (jI (k + 1))), (0, .ref (ad 40 0)), (1, .int (jI lane)), (2, .int (jI n))]) hx hb dX9_newRow_139 hl (k := 3) rfl (jI_add _ _) (by decide) rfl (fun ls hl => ?_)
                      refine lv_goto (tgt := 110) hx hb dX9_newRow_142 (by decide) ?_
                      exact ih110 (k + 1) Xd _ _ _ (by omega) hRXd q900066 (by omega) (hU.mono (by omega)) (fun y j a b c d l v => hPd y j a b c d l v) (fun m a b v => if hm9 : m = k then (by rw [hm9] at v; exfalso; omega) else hNd m a (by omega) v) hw hS (lv_sub hl [1, 2, 3, 0] rfl)
                    · refine lv_aload_n hx hb dX9_newRow_127 rfl (lv_at hl 0 rfl) ?_
                      refine x_geto hx hb hf9 hw (by first | exact Int.le_refl 0 | omega) (by first | exact zlt hc40 | omega) sl_40_19 lk60 dX9_newRow_128 ?_
                      refine lv_aload_n hx hb dX9_newRow_131 rfl (lv_at hl 0 rfl) ?_
                      refine x_geto hx hb hf9 hw (by first | exact Int.le_refl 0 | omega) (by first | exact zlt hc40 | omega) sl_40_25 lk72 dX9_newRow_132 ?_
                      refine lv_iload_n hx hb dX9_newRow_135 rfl (lv_at hl 3 rfl) ?_
                      refine x_iald hx hb hK.1 hw (by first | exact Int.le_refl 0 | omega) (by first | exact zlt hc66 | omega) ar_66 (len_E ar_66 (by first | exact Nat.ne_of_beq_eq_false rfl | decide)) (by omega) (by omega) (by omega) dX9_newRow_136 ?_
                      have e27 : ∀ p9 q9 : Int, Xd 66 p9 q9 = X 66 p9 q9 := fun p9 q9 => by rw [hGXd 66 p9 q9 (show 6600 ∉ [6000] by first | exact nlm_ni rfl | decide), hGXb 66 p9 q9 (show 6600 ∉ [6000] by first | exact nlm_ni rfl | decide), hGXa 66 p9 q9 (show 6600 ∉ [6000] by first | exact nlm_ni rfl | decide)]
                      rw [e27 0 k]
                      have f28 : (-1) ≤ X 66 0 k ∧ X 66 0 k ≤ 399 := hR 66 0 k
                      refine lv_iconst (v := jI 1) hx hb dX9_newRow_137 rfl ?_
                      refine x_zast hx hb hK.1 hw hS (by first | exact Int.le_refl 0 | omega) (by first | exact zlt hc60 | omega) ar_60 (len_E ar_60 (by first | exact Nat.ne_of_beq_eq_false rfl | decide)) (by omega) (by omega) (by omega) (by omega) (by omega) dX9_newRow_138 (fun H locs hw hS => ?_)
                      obtain ⟨X29, hX29⟩ : ∃ Xq, Xq = u3 Xd 60 0 (X 66 0 k) 1 := ⟨_, rfl⟩
                      rw [← hX29] at hw
                      have hRX29 : Rng X29 := by rw [hX29]; exact rng_set hRXd (show 0 ≤ 1 ∧ 1 ≤ 1 by omega)
                      have hVX29 : X29 60 0 (X 66 0 k) = 1 := by rw [hX29]; exact u3_s _ _ _ _ _
                      have hFX29 : Frm [6000, 5700, 5800, 5900] X X29 := by rw [hX29]; exact Frm.set hFXd (show 6000 ∈ [6000, 5700, 5800, 5900] by first | exact nlm_in rfl | decide)
                      refine lv_iinc (v := jI (k + 1)) (lv' := [(3, .int (jI (k + 1))), (0, .ref (ad 40 0)), (1, .int (jI lane)), (2, .int (jI n))]) hx hb dX9_newRow_139 hl (k := 3) rfl (jI_add _ _) (by decide) rfl (fun ls hl => ?_)
                      refine lv_goto (tgt := 110) hx hb dX9_newRow_142 (by decide) ?_
                      have q31 : Frm [6000] Xb X29 := by rw [hX29]; exact Frm.set q900066 (show 6000 ∈ [6000] by first | exact nlm_in rfl | decide)
                      exact ih110 (k + 1) X29 _ _ _ (by omega) hRX29 q31 (by omega) (by rw [hX29]; exact (hU.set).mono (by omega)) (fun y j a b c d l v => (by rw [hX29]; exact us1 (hPd y j a b c d l v))) (fun m a b v => if hm9 : m = k then (by rw [hm9, hX29]; exact u3_s _ _ _ _ _) else (by rw [hX29]; exact us1 (hNd m a (by omega) v))) hw hS (lv_sub hl [1, 2, 3, 0] rfl)
              exact lp110 (80 - 0 : Int).toNat.succ 0 Xb _ _ _ (by omega) hRXb Frm.rf (by omega) (hU.mono (by omega)) (fun y j a b c d l v => hPb y j a (by omega) c d l v) (fun m a b => by omega) hw hS (lv_sub hl [1, 2, 3, 0] rfl)
            · refine lv_iconst (v := jI 0) hx hb dX9_newRow_32 rfl ?_
              refine lv_istore (lv' := [(4, .int (jI 0)), (0, .ref (ad 40 0)), (1, .int (jI lane)), (2, .int (jI n)), (3, .int (jI x))]) hx hb dX9_newRow_33 hl (by decide) rfl (fun ls hl => ?_)
              have lp35 : ∀ (nn : Nat) (k : Int) (Xc : Nat → Int → Int → Int) (H : Heap) (locs : List Loc) (ls : Array Slot), (5 - k) < (nn : Int) → (Rng Xc) → (Frm [6000] Xb Xc) → (0 ≤ k ∧ k ≤ 5) → (Ucov Xc (5 * x + k)) → (∀ y j, 0 ≤ y → y < x → 0 ≤ j → j < X 44 0 (X 55 0 y) → 3 ≤ X 46 0 (5 * X 55 0 y + j) → 0 ≤ X 56 0 (5 * y + j) → Xc 60 0 (X 56 0 (5 * y + j)) = 1) → (∀ j, 0 ≤ j → j < k → 3 ≤ X 46 0 (5 * X 55 0 x + j) → 0 ≤ X 56 0 (5 * x + j) → Xc 60 0 (X 56 0 (5 * x + j)) = 1) → wd D tc base (ad, cnt, Xc, Y, ln) H → va_S (frA base) s.heap H locs → lv_has ls 5 [(0, .ref (ad 40 0)), (1, .int (jI lane)), (2, .int (jI n)), (3, .int (jI x)), (4, .int (jI k))] → W p l e ({ frames := 1, cells := 0, slots := 0, locals := 22 } : Room) s m av9 below meth c H locs 0 0 Q9 (F0 m 35 ls []) := by
                intro nn
                induction nn with
                | zero => intro k Xc H locs ls hm hRXc hGXc hk hU hPc hQc hw hS hl; exfalso; omega
                | succ nn ih35 =>
                  intro k Xc H locs ls hm hRXc hGXc hk hU hPc hQc hw hS hl
                  have hFXc : Frm [6000, 5700, 5800, 5900] X Xc := Frm.tr hFXb (Frm.mono hGXc (by first | exact nls_of rfl | decide))
                  refine lv_iload hx hb dX9_newRow_35 (lv_at hl 4 rfl) ?_
                  refine lv_aload_n hx hb dX9_newRow_37 rfl (lv_at hl 0 rfl) ?_
                  refine x_geto hx hb hf9 hw (by first | exact Int.le_refl 0 | omega) (by first | exact zlt hc40 | omega) sl_40_3 lk13 dX9_newRow_38 ?_
                  refine lv_aload_n hx hb dX9_newRow_41 rfl (lv_at hl 0 rfl) ?_
                  refine x_geto hx hb hf9 hw (by first | exact Int.le_refl 0 | omega) (by first | exact zlt hc40 | omega) sl_40_14 lk45 dX9_newRow_42 ?_
                  refine lv_iload_n hx hb dX9_newRow_45 rfl (lv_at hl 3 rfl) ?_
                  refine x_iald hx hb hK.1 hw (by first | exact Int.le_refl 0 | omega) (by first | exact zlt hc55 | omega) ar_55 (len_E ar_55 (by first | exact Nat.ne_of_beq_eq_false rfl | decide)) (by omega) (by omega) (by omega) dX9_newRow_46 ?_
                  have e32 : ∀ p9 q9 : Int, Xc 55 p9 q9 = X 55 p9 q9 := fun p9 q9 => by rw [hGXc 55 p9 q9 (show 5500 ∉ [6000] by first | exact nlm_ni rfl | decide), hGXb 55 p9 q9 (show 5500 ∉ [6000] by first | exact nlm_ni rfl | decide), hGXa 55 p9 q9 (show 5500 ∉ [6000] by first | exact nlm_ni rfl | decide)]
                  rw [e32 0 x]
                  have f33 : 0 ≤ X 55 0 x ∧ X 55 0 x ≤ 7 := hR 55 0 x
                  refine x_iald hx hb hK.1 hw (by first | exact Int.le_refl 0 | omega) (by first | exact zlt hc44 | omega) ar_44 (len_E ar_44 (by first | exact Nat.ne_of_beq_eq_false rfl | decide)) (by omega) (by omega) (by omega) dX9_newRow_47 ?_
                  have e34 : ∀ p9 q9 : Int, Xc 44 p9 q9 = X 44 p9 q9 := fun p9 q9 => by rw [hGXc 44 p9 q9 (show 4400 ∉ [6000] by first | exact nlm_ni rfl | decide), hGXb 44 p9 q9 (show 4400 ∉ [6000] by first | exact nlm_ni rfl | decide), hGXa 44 p9 q9 (show 4400 ∉ [6000] by first | exact nlm_ni rfl | decide)]
                  rw [e34 0 (X 55 0 x)]
                  have f35 : 0 ≤ X 44 0 (X 55 0 x) ∧ X 44 0 (X 55 0 x) ≤ 5 := hR 44 0 (X 55 0 x)
                  refine x_icmp_ge (tgt := 102) hx hb (by omega) (by omega) dX9_newRow_48 (by decide) (fun c36 => ?_) (fun c36 => ?_)
                  · refine lv_iinc (v := jI (x + 1)) (lv' := [(3, .int (jI (x + 1))), (0, .ref (ad 40 0)), (1, .int (jI lane)), (2, .int (jI n)), (4, .int (jI k))]) hx hb dX9_newRow_102 hl (k := 3) rfl (jI_add _ _) (by decide) rfl (fun ls hl => ?_)
                    refine lv_goto (tgt := 24) hx hb dX9_newRow_105 (by decide) ?_
                    have q37 : Frm [6000] Xa Xb := Frm.tr Frm.rf (Frm.mono hGXb (by first | exact nls_of rfl | decide))
                    have q38 : Frm [6000] Xa Xc := Frm.tr q37 (Frm.mono hGXc (by first | exact nls_of rfl | decide))
                    exact ih24 (x + 1) Xc _ _ _ (by omega) hRXc q38 (by omega) (hU.mono (by omega)) (fun y j a b c d l v => if hy : y = x then (by rw [hy] at d l v ⊢; exact hQc j c (by omega) l v) else hPc y j a (by omega) c d l v) hw hS (lv_sub hl [1, 2, 3, 0] rfl)
                  · refine lv_aload_n hx hb dX9_newRow_51 rfl (lv_at hl 0 rfl) ?_
                    refine lv_iload_n hx hb dX9_newRow_52 rfl (lv_at hl 3 rfl) ?_
                    refine lv_iload hx hb dX9_newRow_53 (lv_at hl 4 rfl) ?_
                    refine gos_i (run_V (As := [.int (jI x), .int (jI k)]) (rest := []) hx hb hml hown hts (c_X9_lane l D tc base ad cnt Xc Y ln hRXc hFx x k (by omega) (by omega)) (cwV 2 hts gX9_newRow_X9_lane rfl rfl rfl (by first | exact hd_X9_lane | decide +kernel) ⟨Nat.le_of_ble_eq_true rfl, Nat.le_of_ble_eq_true rfl⟩) hK hw (by first | exact Int.le_refl 0 | omega) (by first | exact zlt hc40 | omega) sl_40_0 rfl rfl hl.1 rfl (Nat.le_of_ble_eq_true rfl) dX9_newRow_55 ⟨Nat.le_of_ble_eq_true rfl, Nat.le_of_ble_eq_true rfl⟩) hS (fun z39 u40 H locs p41 hw hS => ?_)
                    obtain ⟨eu40, p41⟩ := p41
                    subst eu40
                    have e42 : ∀ j : Int, Xc 55 0 j = X 55 0 j := fun j => by rw [hGXc 55 0 j (show 5500 ∉ [6000] by first | exact nlm_ni rfl | decide), hGXb 55 0 j (show 5500 ∉ [6000] by first | exact nlm_ni rfl | decide), hGXa 55 0 j (show 5500 ∉ [6000] by first | exact nlm_ni rfl | decide)]
                    have e43 : ∀ j : Int, Xc 46 0 j = X 46 0 j := fun j => by rw [hGXc 46 0 j (show 4600 ∉ [6000] by first | exact nlm_ni rfl | decide), hGXb 46 0 j (show 4600 ∉ [6000] by first | exact nlm_ni rfl | decide), hGXa 46 0 j (show 4600 ∉ [6000] by first | exact nlm_ni rfl | decide)]
                    simp only [e42, e43] at p41
                    refine lv_iconst (v := jI 3) hx hb dX9_newRow_58 rfl ?_
                    have q900067 : Frm [6000] Xb Xc := Frm.tr Frm.rf (Frm.mono hGXc (by first | exact nls_of rfl | decide))
                    refine x_icmp_lt (tgt := 96) hx hb (by omega) (by omega) dX9_newRow_59 (by decide) (fun c44 => ?_) (fun c44 => ?_)
                    · refine lv_iinc (v := jI (k + 1)) (lv' := [(4, .int (jI (k + 1))), (0, .ref (ad 40 0)), (1, .int (jI lane)), (2, .int (jI n)), (3, .int (jI x))]) hx hb dX9_newRow_96 hl (k := 4) rfl (jI_add _ _) (by decide) rfl (fun ls hl => ?_)
                      refine lv_goto (tgt := 35) hx hb dX9_newRow_99 (by decide) ?_
                      exact ih35 (k + 1) Xc _ _ _ (by omega) hRXc q900067 (by omega) (hU.mono (by omega)) (fun y j a b c d l v => hPc y j a b c d l v) (fun j a b l v => if hj : j = k then (by rw [hj] at l v; exfalso; omega) else hQc j a (by omega) l v) hw hS (lv_sub hl [1, 2, 3, 4, 0] rfl)
                    · refine lv_aload_n hx hb dX9_newRow_62 rfl (lv_at hl 0 rfl) ?_
                      refine x_geto hx hb hf9 hw (by first | exact Int.le_refl 0 | omega) (by first | exact zlt hc40 | omega) sl_40_15 lk48 dX9_newRow_63 ?_
                      refine lv_iconst (v := jI 5) hx hb dX9_newRow_66 rfl ?_
                      refine lv_iload_n hx hb dX9_newRow_67 rfl (lv_at hl 3 rfl) ?_
                      refine x_imul hx hb dX9_newRow_68 ?_
                      refine lv_iload hx hb dX9_newRow_69 (lv_at hl 4 rfl) ?_
                      refine x_iadd hx hb dX9_newRow_71 ?_
                      obtain ⟨hy1, hy2, hy3⟩ := hMI.1 x k (by omega) (by omega) (by omega) (by omega)
                      refine x_lald hx hb hK.1 hw (by first | exact Int.le_refl 0 | omega) (by first | exact zlt hc56 | omega) ar_56 (len_E ar_56 (by first | exact Nat.ne_of_beq_eq_false rfl | decide)) (by omega) (by omega) (by omega) dX9_newRow_72 ?_
                      have e46 : ∀ p9 q9 : Int, Xc 56 p9 q9 = X 56 p9 q9 := fun p9 q9 => by rw [hGXc 56 p9 q9 (show 5600 ∉ [6000] by first | exact nlm_ni rfl | decide), hGXb 56 p9 q9 (show 5600 ∉ [6000] by first | exact nlm_ni rfl | decide), hGXa 56 p9 q9 (show 5600 ∉ [6000] by first | exact nlm_ni rfl | decide)]
                      rw [e46 0 ((5 * x) + k)]
                      have f47 : (-9223372036854775808) ≤ X 56 0 ((5 * x) + k) ∧ X 56 0 ((5 * x) + k) ≤ 9223372036854775807 := hR 56 0 ((5 * x) + k)
                      refine lv_lconst (v := jL 0) hx hb dX9_newRow_73 (by decide) ?_
                      refine x_lcmp hx hb (by omega) (by omega) dX9_newRow_74 ?_
                      obtain ⟨z48, ez48⟩ : ∃ y : Int, y = cmpZ (X 56 0 ((5 * x) + k)) 0 := ⟨_, rfl⟩
                      rw [← ez48]
                      have gz48 : (z48 < 0 ↔ ((X 56 0 ((5 * x) + k)) : Int) < 0) ∧ (z48 = 0 ↔ ((X 56 0 ((5 * x) + k)) : Int) = 0) ∧ -1 ≤ z48 ∧ z48 ≤ 1 := by rw [ez48]; exact ⟨cmpZ_lt, cmpZ_eq, (cmpZ_r _ _).1, (cmpZ_r _ _).2⟩
                      clear ez48
                      refine x_if_lt (tgt := 96) hx hb (by omega) dX9_newRow_75 (by decide) (fun c49 => ?_) (fun c49 => ?_)
                      · replace c49 := cz_ltT gz48 c49
                        clear gz48
                        refine lv_iinc (v := jI (k + 1)) (lv' := [(4, .int (jI (k + 1))), (0, .ref (ad 40 0)), (1, .int (jI lane)), (2, .int (jI n)), (3, .int (jI x))]) hx hb dX9_newRow_96 hl (k := 4) rfl (jI_add _ _) (by decide) rfl (fun ls hl => ?_)
                        refine lv_goto (tgt := 35) hx hb dX9_newRow_99 (by decide) ?_
                        exact ih35 (k + 1) Xc _ _ _ (by omega) hRXc q900067 (by omega) (hU.mono (by omega)) (fun y j a b c d l v => hPc y j a b c d l v) (fun j a b l v => if hj : j = k then (by rw [hj] at l v; exfalso; omega) else hQc j a (by omega) l v) hw hS (lv_sub hl [1, 2, 3, 4, 0] rfl)
                      · replace c49 := cz_ltF gz48 c49
                        clear gz48
                        refine lv_aload_n hx hb dX9_newRow_78 rfl (lv_at hl 0 rfl) ?_
                        refine x_geto hx hb hf9 hw (by first | exact Int.le_refl 0 | omega) (by first | exact zlt hc40 | omega) sl_40_19 lk60 dX9_newRow_79 ?_
                        refine lv_aload_n hx hb dX9_newRow_82 rfl (lv_at hl 0 rfl) ?_
                        refine x_geto hx hb hf9 hw (by first | exact Int.le_refl 0 | omega) (by first | exact zlt hc40 | omega) sl_40_15 lk48 dX9_newRow_83 ?_
                        refine lv_iconst (v := jI 5) hx hb dX9_newRow_86 rfl ?_
                        refine lv_iload_n hx hb dX9_newRow_87 rfl (lv_at hl 3 rfl) ?_
                        refine x_imul hx hb dX9_newRow_88 ?_
                        refine lv_iload hx hb dX9_newRow_89 (lv_at hl 4 rfl) ?_
                        refine x_iadd hx hb dX9_newRow_91 ?_
                        skip
                        refine x_lald hx hb hK.1 hw (by first | exact Int.le_refl 0 | omega) (by first | exact zlt hc56 | omega) ar_56 (len_E ar_56 (by first | exact Nat.ne_of_beq_eq_false rfl | decide)) (by omega) (by omega) (by omega) dX9_newRow_92 ?_
                        have e51 : ∀ p9 q9 : Int, Xc 56 p9 q9 = X 56 p9 q9 := fun p9 q9 => by rw [hGXc 56 p9 q9 (show 5600 ∉ [6000] by first | exact nlm_ni rfl | decide), hGXb 56 p9 q9 (show 5600 ∉ [6000] by first | exact nlm_ni rfl | decide), hGXa 56 p9 q9 (show 5600 ∉ [6000] by first | exact nlm_ni rfl | decide)]
                        rw [e51 0 ((5 * x) + k)]
                        have f52 : (-9223372036854775808) ≤ X 56 0 ((5 * x) + k) ∧ X 56 0 ((5 * x) + k) ≤ 9223372036854775807 := hR 56 0 ((5 * x) + k)
                        refine x_l2i hx hb dX9_newRow_93 ?_
                        refine lv_iconst (v := jI 1) hx hb dX9_newRow_94 rfl ?_
                        refine x_zast hx hb hK.1 hw hS (by first | exact Int.le_refl 0 | omega) (by first | exact zlt hc60 | omega) ar_60 (len_E ar_60 (by first | exact Nat.ne_of_beq_eq_false rfl | decide)) (by omega) (by omega) (by omega) (by omega) (by omega) dX9_newRow_95 (fun H locs hw hS => ?_)
                        obtain ⟨X53, hX53⟩ : ∃ Xq, Xq = u3 Xc 60 0 (X 56 0 ((5 * x) + k)) 1 := ⟨_, rfl⟩
                        rw [← hX53] at hw
                        have hRX53 : Rng X53 := by rw [hX53]; exact rng_set hRXc (show 0 ≤ 1 ∧ 1 ≤ 1 by omega)
                        have hVX53 : X53 60 0 (X 56 0 ((5 * x) + k)) = 1 := by rw [hX53]; exact u3_s _ _ _ _ _
                        have hFX53 : Frm [6000, 5700, 5800, 5900] X X53 := by rw [hX53]; exact Frm.set hFXc (show 6000 ∈ [6000, 5700, 5800, 5900] by first | exact nlm_in rfl | decide)
                        refine lv_iinc (v := jI (k + 1)) (lv' := [(4, .int (jI (k + 1))), (0, .ref (ad 40 0)), (1, .int (jI lane)), (2, .int (jI n)), (3, .int (jI x))]) hx hb dX9_newRow_96 hl (k := 4) rfl (jI_add _ _) (by decide) rfl (fun ls hl => ?_)
                        refine lv_goto (tgt := 35) hx hb dX9_newRow_99 (by decide) ?_
                        have q55 : Frm [6000] Xb X53 := by rw [hX53]; exact Frm.set q900067 (show 6000 ∈ [6000] by first | exact nlm_in rfl | decide)
                        exact ih35 (k + 1) X53 _ _ _ (by omega) hRX53 q55 (by omega) (by rw [hX53]; exact (hU.set).mono (by omega)) (fun y j a b c d l v => (by rw [hX53]; exact us1 (hPc y j a b c d l v))) (fun j a b l v => if hj : j = k then (by rw [hj, hX53]; exact u3_s _ _ _ _ _) else (by rw [hX53]; exact us1 (hQc j a (by omega) l v))) hw hS (lv_sub hl [1, 2, 3, 4, 0] rfl)
              exact lp35 (5 - 0 : Int).toNat.succ 0 Xb _ _ _ (by omega) hRXb Frm.rf (by omega) (hU.mono (by omega)) (hPb) (fun j a b => by omega) hw hS (lv_sub hl [1, 2, 3, 4, 0] rfl)
        exact lp24 (30 - 0 : Int).toNat.succ 0 Xa _ _ _ (by omega) hRXa Frm.rf (by omega) (⟨[], by simp, fun j a b e => absurd (hz j a (by omega)) (by omega)⟩) (fun y j a b => by omega) hw hS (lv_sub hl [1, 2, 3, 0] rfl)
      · refine lv_aload_n hx hb dX9_newRow_9 rfl (lv_at hl 0 rfl) ?_
        refine x_geto hx hb hf9 hw (by first | exact Int.le_refl 0 | omega) (by first | exact zlt hc40 | omega) sl_40_19 lk60 dX9_newRow_10 ?_
        refine lv_iload_n hx hb dX9_newRow_13 rfl (lv_at hl 3 rfl) ?_
        refine lv_iconst (v := jI 0) hx hb dX9_newRow_14 rfl ?_
        refine x_zast hx hb hK.1 hw hS (by first | exact Int.le_refl 0 | omega) (by first | exact zlt hc60 | omega) ar_60 (len_E ar_60 (by first | exact Nat.ne_of_beq_eq_false rfl | decide)) (by omega) (by omega) (by omega) (by omega) (by omega) dX9_newRow_15 (fun H locs hw hS => ?_)
        obtain ⟨X56, hX56⟩ : ∃ Xq, Xq = u3 Xa 60 0 k 0 := ⟨_, rfl⟩
        rw [← hX56] at hw
        have hRX56 : Rng X56 := by rw [hX56]; exact rng_set hRXa (show 0 ≤ 0 ∧ 0 ≤ 1 by omega)
        have hVX56 : X56 60 0 k = 0 := by rw [hX56]; exact u3_s _ _ _ _ _
        have hFX56 : Frm [6000, 5700, 5800, 5900] X X56 := by rw [hX56]; exact Frm.set hFXa (show 6000 ∈ [6000, 5700, 5800, 5900] by first | exact nlm_in rfl | decide)
        refine lv_iinc (v := jI (k + 1)) (lv' := [(3, .int (jI (k + 1))), (0, .ref (ad 40 0)), (1, .int (jI lane)), (2, .int (jI n))]) hx hb dX9_newRow_16 hl (k := 3) rfl (jI_add _ _) (by decide) rfl (fun ls hl => ?_)
        refine lv_goto (tgt := 2) hx hb dX9_newRow_19 (by decide) ?_
        have q57 : Frm [6000] X Xa := Frm.tr Frm.rf (Frm.mono hGXa (by first | exact nls_of rfl | decide))
        have q58 : Frm [6000] X X56 := by rw [hX56]; exact Frm.set q57 (show 6000 ∈ [6000] by first | exact nlm_in rfl | decide)
        exact ih2 (k + 1) X56 _ _ _ (by omega) hRX56 q58 (by omega) (fun j a b => if hj : j = k then (by rw [hX56, hj]; exact u3_s _ _ _ _ _) else (by rw [hX56, u3_j _ _ _ _ hj]; exact hz j a (by omega))) hw hS (lv_sub hl [1, 2, 3, 0] rfl)
  exact lp2 (400 - 0 : Int).toNat.succ 0 X _ _ _ (by omega) hR Frm.rf (by omega) (fun j a b => by omega) hw hS (lv_sub hl [1, 2, 3, 0] rfl)

set_option maxHeartbeats 4000000 in
set_option maxRecDepth 100000 in
theorem c_X9_row (l : Launch) (D : va_G) (tc : Nat → ClassId) (base : Nat) (ad : Nat → Int → Nat) (cnt : Nat → Int) (X : Nat → Int → Int → Int) (Y : Nat → Int → Int → Option Int) (ln : Int → Int) (hR : Rng X) (hFx : Fx cnt) (hMI : MInv X) (x k n : Int) (hx : -2147483648 ≤ x ∧ x ≤ 2147483647) (hk : -2147483648 ≤ k ∧ k ≤ 2147483647) (hn : -2147483648 ≤ n ∧ n ≤ 2147483647) : KI l D tc base yX9_row wsX9_row ({ frames := 2, cells := 0, slots := 0, locals := 46 } : Room) [.ref (ad 40 0), .int (jI x), .int (jI k), .int (jI n)] (ad, cnt, X, Y, ln) 0 0 (fun z u => ∃ X1 : Nat → Int → Int → Int, u = (ad, cnt, X1, Y, ln) ∧ Rng X1 ∧ Frm [4001, 6400, 6500, 6700, 6800, 6600, 4023, 5600, 6000, 5700, 5800, 5900] X X1 ∧ MInv X1 ∧ (-2147483648 ≤ z ∧ z ≤ 2147483647) ∧ ((¬ (0 ≤ x ∧ x < X 40 0 13 ∧ 0 ≤ k ∧ k < X 44 0 (X 55 0 x)) ∧ z = -1) ∨ ((0 ≤ x ∧ x < X 40 0 13 ∧ 0 ≤ k ∧ k < X 44 0 (X 55 0 x)) ∧ 12 < n ∧ z = -2) ∨ ((0 ≤ x ∧ x < X 40 0 13 ∧ 0 ≤ k ∧ k < X 44 0 (X 55 0 x)) ∧ n ≤ 12 ∧ X 46 0 (5 * X 55 0 x + k) < 3 ∧ z = -14) ∨ ((0 ≤ x ∧ x < X 40 0 13 ∧ 0 ≤ k ∧ k < X 44 0 (X 55 0 x)) ∧ n ≤ 12 ∧ 3 ≤ X 46 0 (5 * X 55 0 x + k) ∧ n < -1 ∧ z = -13) ∨ ((0 ≤ x ∧ x < X 40 0 13 ∧ 0 ≤ k ∧ k < X 44 0 (X 55 0 x)) ∧ n ≤ 12 ∧ 3 ≤ X 46 0 (5 * X 55 0 x + k) ∧ -1 ≤ n ∧ (0 < X 40 0 20 ∧ X 40 0 22 = 80) ∧ z = -4) ∨ ((0 ≤ x ∧ x < X 40 0 13 ∧ 0 ≤ k ∧ k < X 44 0 (X 55 0 x)) ∧ n ≤ 12 ∧ 3 ≤ X 46 0 (5 * X 55 0 x + k) ∧ -1 ≤ n ∧ (X 40 0 20 = 0 ∨ X 40 0 22 ≤ 79) ∧ z = 1)) ∧ (z < 0 → Frm [4001] X X1) ∧ (z = 1 → ∃ r, (eNoteM X X1 x k (if 3 ≤ X 46 0 (5 * X 55 0 x + k) then X 56 0 (5 * x + k) else -1) (-1) (X 56 0 (5 * x + k)) ∧ X1 56 0 (5 * x + k) = r ∧ ∀ p, p ≠ 5 * x + k → X1 56 0 p = X 56 0 p) ∧ ((n < 0 ∧ r = -1 ∧ X1 57 = X 57 ∧ X1 58 = X 58 ∧ X1 59 = X 59) ∨ (0 ≤ n ∧ 0 ≤ r ∧ r ≤ 399 ∧ nwM X X1 (X 46 0 (5 * X 55 0 x + k)) n r)))) := by
  refine K_of (cc := cX9_row) (maxL := 4) (ret := (some .int)) (by decide) rfl (Nat.le_of_ble_eq_true rfl) ?_
  intro p e s m below meth c ls hx hb hr hml hown hts hlocks hl hK hw hS
  have hown : s.vm.findClass RX9 = some m.cls := hown
  obtain ⟨av9, hav9⟩ : ∃ a9 : Array Value, a9 = ([.ref (ad 40 0), .int (jI x), .int (jI k), .int (jI n)] : List Value).toArray := ⟨_, rfl⟩
  rw [← hav9] at hts ⊢
  obtain ⟨Q9, hQ9⟩ : ∃ q9Q : State → Prop, q9Q = MQ below (QI D tc base (fun z u => ∃ X1 : Nat → Int → Int → Int, u = (ad, cnt, X1, Y, ln) ∧ Rng X1 ∧ Frm [4001, 6400, 6500, 6700, 6800, 6600, 4023, 5600, 6000, 5700, 5800, 5900] X X1 ∧ MInv X1 ∧ (-2147483648 ≤ z ∧ z ≤ 2147483647) ∧ ((¬ (0 ≤ x ∧ x < X 40 0 13 ∧ 0 ≤ k ∧ k < X 44 0 (X 55 0 x)) ∧ z = -1) ∨ ((0 ≤ x ∧ x < X 40 0 13 ∧ 0 ≤ k ∧ k < X 44 0 (X 55 0 x)) ∧ 12 < n ∧ z = -2) ∨ ((0 ≤ x ∧ x < X 40 0 13 ∧ 0 ≤ k ∧ k < X 44 0 (X 55 0 x)) ∧ n ≤ 12 ∧ X 46 0 (5 * X 55 0 x + k) < 3 ∧ z = -14) ∨ ((0 ≤ x ∧ x < X 40 0 13 ∧ 0 ≤ k ∧ k < X 44 0 (X 55 0 x)) ∧ n ≤ 12 ∧ 3 ≤ X 46 0 (5 * X 55 0 x + k) ∧ n < -1 ∧ z = -13) ∨ ((0 ≤ x ∧ x < X 40 0 13 ∧ 0 ≤ k ∧ k < X 44 0 (X 55 0 x)) ∧ n ≤ 12 ∧ 3 ≤ X 46 0 (5 * X 55 0 x + k) ∧ -1 ≤ n ∧ (0 < X 40 0 20 ∧ X 40 0 22 = 80) ∧ z = -4) ∨ ((0 ≤ x ∧ x < X 40 0 13 ∧ 0 ≤ k ∧ k < X 44 0 (X 55 0 x)) ∧ n ≤ 12 ∧ 3 ≤ X 46 0 (5 * X 55 0 x + k) ∧ -1 ≤ n ∧ (X 40 0 20 = 0 ∨ X 40 0 22 ≤ 79) ∧ z = 1)) ∧ (z < 0 → Frm [4001] X X1) ∧ (z = 1 → ∃ r, (eNoteM X X1 x k (if 3 ≤ X 46 0 (5 * X 55 0 x + k) then X 56 0 (5 * x + k) else -1) (-1) (X 56 0 (5 * x + k)) ∧ X1 56 0 (5 * x + k) = r ∧ ∀ p, p ≠ 5 * x + k → X1 56 0 p = X 56 0 p) ∧ ((n < 0 ∧ r = -1 ∧ X1 57 = X 57 ∧ X1 58 = X 58 ∧ X1 59 = X 59) ∨ (0 ≤ n ∧ 0 ≤ r ∧ r ≤ 399 ∧ nwM X X1 (X 46 0 (5 * X 55 0 x + k)) n r))))) av9 s 0 0 (frA base) := ⟨_, rfl⟩
  rw [← hQ9]
  have hi9 : ∀ w ∈ wsX90, w ∈ wsX9_row := fun w h => List.mem_cons_of_mem _ (List.mem_append_right _ h)
  have hf9 : fctx s m _ RX9 wsX9_row D tc RX9 TX9 51 9 := ⟨hts, hi9, hown, hK.1, rfl⟩
  have lk145 := hts (.fieldLink RX9 145 (TX9 0).1 (TX9 0).2.1 (TX9 0).2.2.1) (gj_X9_row_0 _ (gp_h))
  have hc40 : cnt 40 = 1 := hFx.at 40 1 (by decide)
  have hl : lv_has ls 4 [(0, .ref (ad 40 0)), (1, .int (jI x)), (2, .int (jI k)), (3, .int (jI n))] := hl
  have fstypes : 0 ≤ X 40 0 2 ∧ X 40 0 2 ≤ 8 := hR 40 0 2
  have fsthings : 0 ≤ X 40 0 13 ∧ X 40 0 13 ≤ 30 := hR 40 0 13
  have fsmarks : 0 ≤ X 40 0 20 ∧ X 40 0 20 ≤ 4 := hR 40 0 20
  have fsnotes : 0 ≤ X 40 0 22 ∧ X 40 0 22 ≤ 80 := hR 40 0 22
  refine lv_aload_n hx hb dX9_row_0 rfl (lv_at hl 0 rfl) ?_
  refine lv_iconst (v := jI 0) hx hb dX9_row_1 rfl ?_
  refine x_puti (jz := 0) hx hb hf9 ⟨tyX9_ok, nmX9⟩ hw hS (by first | exact Int.le_refl 0 | omega) (by first | exact zlt hc40 | omega) sl_40_0 rfl lk145 rfl (tyX9_ok 0 (by decide)) rfl rfl dX9_row_2 (fun H locs hw hS => ?_)
  obtain ⟨X1, hX1⟩ : ∃ Xq, Xq = u3 X 40 0 0 0 := ⟨_, rfl⟩
  rw [← hX1] at hw
  have hRX1 : Rng X1 := by rw [hX1]; exact rng_set hR (show (-2147483648) ≤ 0 ∧ 0 ≤ 2147483647 by omega)
  have hVX1 : X1 40 0 0 = 0 := by rw [hX1]; exact u3_s _ _ _ _ _
  have hFX1 : Frm [4001, 6400, 6500, 6700, 6800, 6600, 4023, 5600, 6000, 5700, 5800, 5900] X X1 := by rw [hX1]; exact Frm.set Frm.rf (show 4001 ∈ [4001, 6400, 6500, 6700, 6800, 6600, 4023, 5600, 6000, 5700, 5800, 5900] by first | exact nlm_in rfl | decide)
  refine lv_aload_n hx hb dX9_row_5 rfl (lv_at hl 0 rfl) ?_
  refine lv_iload_n hx hb dX9_row_6 rfl (lv_at hl 1 rfl) ?_
  refine lv_iload_n hx hb dX9_row_7 rfl (lv_at hl 2 rfl) ?_
  refine gos_i (run_V (As := [.int (jI x), .int (jI k)]) (rest := []) hx hb hml hown hts (c_X9_isField l D tc base ad cnt X1 Y ln hRX1 hFx x k (by omega) (by omega)) (cwV 2 hts gX9_row_X9_isField rfl rfl rfl (by first | exact hd_X9_isField | decide +kernel) ⟨Nat.le_of_ble_eq_true rfl, Nat.le_of_ble_eq_true rfl⟩) hK hw (by first | exact Int.le_refl 0 | omega) (by first | exact zlt hc40 | omega) sl_40_0 rfl rfl hl.1 rfl (Nat.le_of_ble_eq_true rfl) dX9_row_8 ⟨Nat.le_of_ble_eq_true rfl, Nat.le_of_ble_eq_true rfl⟩) hS (fun z2 u3 H locs p4 hw hS => ?_)
  obtain ⟨eu3, p4⟩ := p4
  subst eu3
  have e5 : X1 40 0 13 = X 40 0 13 := by rw [hX1, u3_j _ _ _ _ (by decide)]
  have e6 : ∀ j : Int, X1 55 0 j = X 55 0 j := fun j => by rw [hX1, u3_k _ _ _ _ (by first | exact Nat.ne_of_beq_eq_false rfl | decide)]
  have e7 : ∀ j : Int, X1 44 0 j = X 44 0 j := fun j => by rw [hX1, u3_k _ _ _ _ (by first | exact Nat.ne_of_beq_eq_false rfl | decide)]
  simp only [e5, e6, e7] at p4
  have q900072 : Frm [4001] X X1 := by rw [hX1]; exact Frm.set Frm.rf (show 4001 ∈ [4001] by first | exact nlm_in rfl | decide)
  rcases p4 with ⟨ez2, p4⟩ | ⟨ez2, p4⟩
  · subst ez2
    refine x_if_neT (tgt := 16) hx hb (by omega) (by decide) dX9_row_11 (by decide) ?_
    refine lv_iload_n hx hb dX9_row_16 rfl (lv_at hl 3 rfl) ?_
    refine lv_bipush (v := jI 12) hx hb dX9_row_17 (by decide) ?_
    refine x_icmp_le (tgt := 25) hx hb (by omega) (by omega) dX9_row_19 (by decide) (fun c8 => ?_) (fun c8 => ?_)
    · refine lv_aload_n hx hb dX9_row_25 rfl (lv_at hl 0 rfl) ?_
      refine lv_iload_n hx hb dX9_row_26 rfl (lv_at hl 1 rfl) ?_
      refine lv_iload_n hx hb dX9_row_27 rfl (lv_at hl 2 rfl) ?_
      refine gos_i (run_V (As := [.int (jI x), .int (jI k)]) (rest := []) hx hb hml hown hts (c_X9_lane l D tc base ad cnt X1 Y ln hRX1 hFx x k (by omega) (by omega)) (cwV 2 hts gX9_row_X9_lane rfl rfl rfl (by first | exact hd_X9_lane | decide +kernel) ⟨Nat.le_of_ble_eq_true rfl, Nat.le_of_ble_eq_true rfl⟩) hK hw (by first | exact Int.le_refl 0 | omega) (by first | exact zlt hc40 | omega) sl_40_0 rfl rfl hl.1 rfl (Nat.le_of_ble_eq_true rfl) dX9_row_28 ⟨Nat.le_of_ble_eq_true rfl, Nat.le_of_ble_eq_true rfl⟩) hS (fun z9 u10 H locs p11 hw hS => ?_)
      obtain ⟨eu10, p11⟩ := p11
      subst eu10
      have e12 : ∀ j : Int, X1 55 0 j = X 55 0 j := fun j => by rw [hX1, u3_k _ _ _ _ (by first | exact Nat.ne_of_beq_eq_false rfl | decide)]
      have e13 : ∀ j : Int, X1 46 0 j = X 46 0 j := fun j => by rw [hX1, u3_k _ _ _ _ (by first | exact Nat.ne_of_beq_eq_false rfl | decide)]
      simp only [e12, e13] at p11
      refine lv_iconst (v := jI 3) hx hb dX9_row_31 rfl ?_
      refine x_icmp_ge (tgt := 38) hx hb (by omega) (by omega) dX9_row_32 (by decide) (fun c14 => ?_) (fun c14 => ?_)
      · refine lv_iload_n hx hb dX9_row_38 rfl (lv_at hl 3 rfl) ?_
        refine lv_iconst (v := jI (-1)) hx hb dX9_row_39 rfl ?_
        refine x_icmp_ge (tgt := 46) hx hb (by omega) (by omega) dX9_row_40 (by decide) (fun c15 => ?_) (fun c15 => ?_)
        · refine lv_aload_n hx hb dX9_row_46 rfl (lv_at hl 0 rfl) ?_
          refine gos_i (run_V (As := []) (rest := []) hx hb hml hown hts (c_X9_isFull l D tc base ad cnt X1 Y ln hRX1 hFx) (cwV 0 hts gX9_row_X9_isFull rfl rfl rfl (by first | exact hd_X9_isFull | decide +kernel) ⟨Nat.le_of_ble_eq_true rfl, Nat.le_of_ble_eq_true rfl⟩) hK hw (by first | exact Int.le_refl 0 | omega) (by first | exact zlt hc40 | omega) sl_40_0 rfl rfl hl.1 rfl (Nat.le_of_ble_eq_true rfl) dX9_row_47 ⟨Nat.le_of_ble_eq_true rfl, Nat.le_of_ble_eq_true rfl⟩) hS (fun z16 u17 H locs p18 hw hS => ?_)
          obtain ⟨eu17, p18⟩ := p18
          subst eu17
          have e19 : X1 40 0 20 = X 40 0 20 := by rw [hX1, u3_j _ _ _ _ (by decide)]
          have e20 : X1 40 0 22 = X 40 0 22 := by rw [hX1, u3_j _ _ _ _ (by decide)]
          simp only [e19, e20] at p18
          rcases p18 with ⟨ez16, p18⟩ | ⟨ez16, p18⟩
          · subst ez16
            refine x_if_eqF (tgt := 56) hx hb (by omega) (by decide) dX9_row_50 (by decide) ?_
            refine lv_bipush (v := jI (-4)) hx hb dX9_row_53 (by decide) ?_
            rw [hQ9]
            refine ret_i (mc := 0) (ms := 0) hx hb hr hlocks hw hS (by first | exact Nat.le_of_ble_eq_true rfl | omega) (by first | exact Nat.le_of_ble_eq_true rfl | omega) dX9_row_55 ?_
            have hMq21 : MInv X1 := minv_frm hMI q900072 (by decide)
            exact ⟨X1, rfl, hRX1, hFX1, hMq21, by omega, (by (try delta Hid at *); exact Or.inr (Or.inr (Or.inr (Or.inr (Or.inl ⟨(by omega), by omega, by omega, by omega, (by omega), by omega⟩))))), fun _ => q900072, fun q => (by exfalso; omega)⟩
          · subst ez16
            refine x_if_eqT (tgt := 56) hx hb (by omega) (by decide) dX9_row_50 (by decide) ?_
            refine lv_aload_n hx hb dX9_row_56 rfl (lv_at hl 0 rfl) ?_
            refine lv_iload_n hx hb dX9_row_57 rfl (lv_at hl 1 rfl) ?_
            refine lv_iload_n hx hb dX9_row_58 rfl (lv_at hl 2 rfl) ?_
            refine lv_iload_n hx hb dX9_row_59 rfl (lv_at hl 3 rfl) ?_
            refine x_if_ge (tgt := 69) hx hb (by omega) dX9_row_60 (by decide) (fun c24 => ?_) (fun c24 => ?_)
            · refine lv_aload_n hx hb dX9_row_69 rfl (lv_at hl 0 rfl) ?_
              refine lv_aload_n hx hb dX9_row_70 rfl (lv_at hl 0 rfl) ?_
              refine lv_iload_n hx hb dX9_row_71 rfl (lv_at hl 1 rfl) ?_
              refine lv_iload_n hx hb dX9_row_72 rfl (lv_at hl 2 rfl) ?_
              refine gos_i (run_V (As := [.int (jI x), .int (jI k)]) (rest := [.ref (ad 40 0), .int (jI k), .int (jI x), .ref (ad 40 0)]) hx hb hml hown hts (c_X9_lane l D tc base ad cnt X1 Y ln hRX1 hFx x k (by omega) (by omega)) (cwV 2 hts gX9_row_X9_lane rfl rfl rfl (by first | exact hd_X9_lane | decide +kernel) ⟨Nat.le_of_ble_eq_true rfl, Nat.le_of_ble_eq_true rfl⟩) hK hw (by first | exact Int.le_refl 0 | omega) (by first | exact zlt hc40 | omega) sl_40_0 rfl rfl hl.1 rfl (Nat.le_of_ble_eq_true rfl) dX9_row_73 ⟨Nat.le_of_ble_eq_true rfl, Nat.le_of_ble_eq_true rfl⟩) hS (fun z25 u26 H locs p27 hw hS => ?_)
              obtain ⟨eu26, p27⟩ := p27
              subst eu26
              have e28 : ∀ j : Int, X1 55 0 j = X 55 0 j := fun j => by rw [hX1, u3_k _ _ _ _ (by first | exact Nat.ne_of_beq_eq_false rfl | decide)]
              have e29 : ∀ j : Int, X1 46 0 j = X 46 0 j := fun j => by rw [hX1, u3_k _ _ _ _ (by first | exact Nat.ne_of_beq_eq_false rfl | decide)]
              simp only [e28, e29] at p27
              refine lv_iload_n hx hb dX9_row_76 rfl (lv_at hl 3 rfl) ?_
              have hMq30 : MInv X1 := minv_frm hMI q900072 (by decide)
              refine gos_i (run_V (As := [.int (jI z25), .int (jI n)]) (rest := [.int (jI k), .int (jI x), .ref (ad 40 0)]) hx hb hml hown hts (c_X9_newRow l D tc base ad cnt X1 Y ln hRX1 hFx hMq30 z25 n (by omega) (by omega)) (cwV 2 hts gX9_row_X9_newRow rfl rfl rfl (by first | exact hd_X9_newRow | decide +kernel) ⟨Nat.le_of_ble_eq_true rfl, Nat.le_of_ble_eq_true rfl⟩) hK hw (by first | exact Int.le_refl 0 | omega) (by first | exact zlt hc40 | omega) sl_40_0 rfl rfl hl.1 rfl (Nat.le_of_ble_eq_true rfl) dX9_row_77 ⟨Nat.le_of_ble_eq_true rfl, Nat.le_of_ble_eq_true rfl⟩) hS (fun z32 u33 H locs p34 hw hS => ?_)
              obtain ⟨X35, eu33, hRX35, hG36, hMIX35, p34, hnwX35⟩ := p34
              subst eu33
              have hFX35 : Frm [4001, 6400, 6500, 6700, 6800, 6600, 4023, 5600, 6000, 5700, 5800, 5900] X X35 := Frm.tr hFX1 (Frm.mono hG36 (by first | exact nls_of rfl | decide))
              refine x_i2l hx hb (by omega) dX9_row_80 ?_
              have e37 : ∀ j : Int, X35 55 0 j = X 55 0 j := fun j => by rw [hG36 55 0 j (show 5500 ∉ [6000, 5700, 5800, 5900] by first | exact nlm_ni rfl | decide), hX1, u3_k _ _ _ _ (by first | exact Nat.ne_of_beq_eq_false rfl | decide)]
              have e38 : ∀ j : Int, X35 44 0 j = X 44 0 j := fun j => by rw [hG36 44 0 j (show 4400 ∉ [6000, 5700, 5800, 5900] by first | exact nlm_ni rfl | decide), hX1, u3_k _ _ _ _ (by first | exact Nat.ne_of_beq_eq_false rfl | decide)]
              have e39 : ∀ j : Int, X35 46 0 j = X 46 0 j := fun j => by rw [hG36 46 0 j (show 4600 ∉ [6000, 5700, 5800, 5900] by first | exact nlm_ni rfl | decide), hX1, u3_k _ _ _ _ (by first | exact Nat.ne_of_beq_eq_false rfl | decide)]
              have e40 : X35 40 0 13 = X 40 0 13 := by rw [hG36 40 0 13 (show 4014 ∉ [6000, 5700, 5800, 5900] by first | exact nlm_ni rfl | decide), hX1, u3_j _ _ _ _ (by decide)]
              have e41 : X35 40 0 20 = X 40 0 20 := by rw [hG36 40 0 20 (show 4021 ∉ [6000, 5700, 5800, 5900] by first | exact nlm_ni rfl | decide), hX1, u3_j _ _ _ _ (by decide)]
              have e42 : X35 40 0 22 = X 40 0 22 := by rw [hG36 40 0 22 (show 4023 ∉ [6000, 5700, 5800, 5900] by first | exact nlm_ni rfl | decide), hX1, u3_j _ _ _ _ (by decide)]
              refine gos_v (run_V (As := [.int (jI x), .int (jI k), .long (jL z32)]) (rest := []) hx hb hml hown hts (c_X9_becomes l D tc base ad cnt X35 Y ln hRX35 hFx hMIX35 x k z32 (by omega) (by omega) (by omega) (by simp only [e37, e38, e39, e40, e41, e42]; omega) (by simp only [e37, e38, e39, e40, e41, e42]; omega) (by unfold tyv; simp only [e37, e38, e39, e40, e41, e42]; exact ⟨fun _ => by omega, fun _ => by omega, fun _ => by omega⟩) (by simp only [e37, e38, e39, e40, e41, e42]; (try simp only [Hid] at *); omega)) (cwV 3 hts gX9_row_X9_becomes rfl rfl rfl (by first | exact hd_X9_becomes | decide +kernel) ⟨Nat.le_of_ble_eq_true rfl, Nat.le_of_ble_eq_true rfl⟩) hK hw (by first | exact Int.le_refl 0 | omega) (by first | exact zlt hc40 | omega) sl_40_0 rfl rfl hl.1 rfl (Nat.le_of_ble_eq_true rfl) dX9_row_81 ⟨Nat.le_of_ble_eq_true rfl, Nat.le_of_ble_eq_true rfl⟩) hS (fun u44 H locs p45 hw hS => ?_)
              obtain ⟨X46, eu44, hRX46, hG47, hMIX46, p45, hbnX46, hbvX46, hboX46⟩ := p45
              subst eu44
              have hFX46 : Frm [4001, 6400, 6500, 6700, 6800, 6600, 4023, 5600, 6000, 5700, 5800, 5900] X X46 := Frm.tr hFX35 (Frm.mono hG47 (by first | exact nls_of rfl | decide))
              refine lv_iconst (v := jI 1) hx hb dX9_row_84 rfl ?_
              rw [hQ9]
              refine ret_i (mc := 0) (ms := 0) hx hb hr hlocks hw hS (by first | exact Nat.le_of_ble_eq_true rfl | omega) (by first | exact Nat.le_of_ble_eq_true rfl | omega) dX9_row_85 ?_
              have q48 : Frm [4001, 5700, 5800, 5900, 6000] X X1 := by rw [hX1]; exact Frm.set Frm.rf (show 4001 ∈ [4001, 5700, 5800, 5900, 6000] by first | exact nlm_in rfl | decide)
              have q49 : Frm [4001, 5700, 5800, 5900, 6000] X X35 := Frm.tr q48 (Frm.mono hG36 (by first | exact nls_of rfl | decide))
              have e50 : ∀ j : Int, X35 46 0 j = X 46 0 j := fun j => by rw [hG36 46 0 j (show 4600 ∉ [6000, 5700, 5800, 5900] by first | exact nlm_ni rfl | decide), hX1, u3_k _ _ _ _ (by first | exact Nat.ne_of_beq_eq_false rfl | decide)]
              have e51 : ∀ j : Int, X35 55 0 j = X 55 0 j := fun j => by rw [hG36 55 0 j (show 5500 ∉ [6000, 5700, 5800, 5900] by first | exact nlm_ni rfl | decide), hX1, u3_k _ _ _ _ (by first | exact Nat.ne_of_beq_eq_false rfl | decide)]
              have e52 : ∀ j : Int, X35 56 0 j = X 56 0 j := fun j => by rw [hG36 56 0 j (show 5600 ∉ [6000, 5700, 5800, 5900] by first | exact nlm_ni rfl | decide), hX1, u3_k _ _ _ _ (by first | exact Nat.ne_of_beq_eq_false rfl | decide)]
              exact ⟨X46, rfl, hRX46, hFX46, hMIX46, by omega, (by (try delta Hid at *); exact Or.inr (Or.inr (Or.inr (Or.inr (Or.inr (⟨(by omega), by omega, by omega, by omega, (by omega), by omega⟩)))))), fun q => (by exfalso; omega), fun _ => (by simp only [e50, e51, e52] at hbnX46 hboX46; exact ⟨z32, ⟨eNoteM.from (M := [4001, 5700, 5800, 5900, 6000]) hbnX46 q49 (by decide), hbvX46, hboX46⟩, Or.inr ⟨by omega, by omega, by omega, nwM.to (nwM.from (L := [4001]) (by first | exact hnwX35 | (rw [show (X 46 0 (5 * X 55 0 x + k) : Int) = z25 by omega]; exact hnwX35) | (have h9 := hnwX35; rw [show (z25 : Int) = X 46 0 (5 * X 55 0 x + k) by omega] at h9; exact h9)) q900072 (by decide)) (Frm.arr hG47 57 (by decide +kernel) (by decide)) (Frm.arr hG47 58 (by decide +kernel) (by decide)) (Frm.arr hG47 59 (by decide +kernel) (by decide))⟩⟩)⟩
            · refine lv_ldc2 (v := jL (-1)) hx hb hown (hts (.constantLong RX9 168 (-1)) (by first | exact gj_X9_row_0 _ (gp_1 gp_h) | decide +kernel)) dX9_row_63 ?_
              refine lv_goto (tgt := 81) hx hb dX9_row_66 (by decide) ?_
              have hMq54 : MInv X1 := minv_frm hMI q900072 (by decide)
              have e56 : ∀ j : Int, X1 55 0 j = X 55 0 j := fun j => by rw [hX1, u3_k _ _ _ _ (by first | exact Nat.ne_of_beq_eq_false rfl | decide)]
              have e57 : ∀ j : Int, X1 44 0 j = X 44 0 j := fun j => by rw [hX1, u3_k _ _ _ _ (by first | exact Nat.ne_of_beq_eq_false rfl | decide)]
              have e58 : ∀ j : Int, X1 46 0 j = X 46 0 j := fun j => by rw [hX1, u3_k _ _ _ _ (by first | exact Nat.ne_of_beq_eq_false rfl | decide)]
              have e59 : X1 40 0 13 = X 40 0 13 := by rw [hX1, u3_j _ _ _ _ (by decide)]
              have e60 : X1 40 0 20 = X 40 0 20 := by rw [hX1, u3_j _ _ _ _ (by decide)]
              refine gos_v (run_V (As := [.int (jI x), .int (jI k), .long (jL (-1))]) (rest := []) hx hb hml hown hts (c_X9_becomes l D tc base ad cnt X1 Y ln hRX1 hFx hMq54 x k (-1) (by omega) (by omega) (by omega) (by simp only [e56, e57, e58, e59, e60, e20]; omega) (by simp only [e56, e57, e58, e59, e60, e20]; omega) (by unfold tyv; simp only [e56, e57, e58, e59, e60, e20]; exact ⟨fun _ => by omega, fun _ => by omega, fun _ => by omega⟩) (by simp only [e56, e57, e58, e59, e60, e20]; (try simp only [Hid] at *); omega)) (cwV 3 hts gX9_row_X9_becomes rfl rfl rfl (by first | exact hd_X9_becomes | decide +kernel) ⟨Nat.le_of_ble_eq_true rfl, Nat.le_of_ble_eq_true rfl⟩) hK hw (by first | exact Int.le_refl 0 | omega) (by first | exact zlt hc40 | omega) sl_40_0 rfl rfl hl.1 rfl (Nat.le_of_ble_eq_true rfl) dX9_row_81 ⟨Nat.le_of_ble_eq_true rfl, Nat.le_of_ble_eq_true rfl⟩) hS (fun u63 H locs p64 hw hS => ?_)
              obtain ⟨X65, eu63, hRX65, hG66, hMIX65, p64, hbnX65, hbvX65, hboX65⟩ := p64
              subst eu63
              have hFX65 : Frm [4001, 6400, 6500, 6700, 6800, 6600, 4023, 5600, 6000, 5700, 5800, 5900] X X65 := Frm.tr hFX1 (Frm.mono hG66 (by first | exact nls_of rfl | decide))
              refine lv_iconst (v := jI 1) hx hb dX9_row_84 rfl ?_
              rw [hQ9]
              refine ret_i (mc := 0) (ms := 0) hx hb hr hlocks hw hS (by first | exact Nat.le_of_ble_eq_true rfl | omega) (by first | exact Nat.le_of_ble_eq_true rfl | omega) dX9_row_85 ?_
              have e68 : ∀ j : Int, X1 46 0 j = X 46 0 j := fun j => by rw [hX1, u3_k _ _ _ _ (by first | exact Nat.ne_of_beq_eq_false rfl | decide)]
              have e69 : ∀ j : Int, X1 55 0 j = X 55 0 j := fun j => by rw [hX1, u3_k _ _ _ _ (by first | exact Nat.ne_of_beq_eq_false rfl | decide)]
              have e70 : ∀ j : Int, X1 56 0 j = X 56 0 j := fun j => by rw [hX1, u3_k _ _ _ _ (by first | exact Nat.ne_of_beq_eq_false rfl | decide)]
              have q71 : Frm [4001, 4023, 5600, 6400, 6500, 6600, 6700, 6800] X X1 := by rw [hX1]; exact Frm.set Frm.rf (show 4001 ∈ [4001, 4023, 5600, 6400, 6500, 6600, 6700, 6800] by first | exact nlm_in rfl | decide)
              have q72 : Frm [4001, 4023, 5600, 6400, 6500, 6600, 6700, 6800] X X65 := Frm.tr q71 (Frm.mono hG66 (by first | exact nls_of rfl | decide))
              exact ⟨X65, rfl, hRX65, hFX65, hMIX65, by omega, (by (try delta Hid at *); exact Or.inr (Or.inr (Or.inr (Or.inr (Or.inr (⟨(by omega), by omega, by omega, by omega, (by omega), by omega⟩)))))), fun q => (by exfalso; omega), fun _ => (by simp only [e68, e69, e70] at hbnX65 hboX65; exact ⟨-1, ⟨eNoteM.from (M := [4001]) hbnX65 q900072 (by decide), hbvX65, hboX65⟩, Or.inl ⟨by omega, rfl, Frm.arr q72 57 (by decide +kernel) (by decide), Frm.arr q72 58 (by decide +kernel) (by decide), Frm.arr q72 59 (by decide +kernel) (by decide)⟩⟩)⟩
        · refine lv_bipush (v := jI (-13)) hx hb dX9_row_43 (by decide) ?_
          rw [hQ9]
          refine ret_i (mc := 0) (ms := 0) hx hb hr hlocks hw hS (by first | exact Nat.le_of_ble_eq_true rfl | omega) (by first | exact Nat.le_of_ble_eq_true rfl | omega) dX9_row_45 ?_
          have hMq73 : MInv X1 := minv_frm hMI q900072 (by decide)
          exact ⟨X1, rfl, hRX1, hFX1, hMq73, by omega, (by (try delta Hid at *); exact Or.inr (Or.inr (Or.inr (Or.inl ⟨(by omega), by omega, by omega, by omega, by omega⟩)))), fun _ => q900072, fun q => (by exfalso; omega)⟩
      · refine lv_bipush (v := jI (-14)) hx hb dX9_row_35 (by decide) ?_
        rw [hQ9]
        refine ret_i (mc := 0) (ms := 0) hx hb hr hlocks hw hS (by first | exact Nat.le_of_ble_eq_true rfl | omega) (by first | exact Nat.le_of_ble_eq_true rfl | omega) dX9_row_37 ?_
        have hMq76 : MInv X1 := minv_frm hMI q900072 (by decide)
        exact ⟨X1, rfl, hRX1, hFX1, hMq76, by omega, (by (try delta Hid at *); exact Or.inr (Or.inr (Or.inl ⟨(by omega), by omega, by omega, by omega⟩))), fun _ => q900072, fun q => (by exfalso; omega)⟩
    · refine lv_bipush (v := jI (-2)) hx hb dX9_row_22 (by decide) ?_
      rw [hQ9]
      refine ret_i (mc := 0) (ms := 0) hx hb hr hlocks hw hS (by first | exact Nat.le_of_ble_eq_true rfl | omega) (by first | exact Nat.le_of_ble_eq_true rfl | omega) dX9_row_24 ?_
      have hMq79 : MInv X1 := minv_frm hMI q900072 (by decide)
      exact ⟨X1, rfl, hRX1, hFX1, hMq79, by omega, (by (try delta Hid at *); exact Or.inr (Or.inl ⟨(by omega), by omega, by omega⟩)), fun _ => q900072, fun q => (by exfalso; omega)⟩
  · subst ez2
    refine x_if_neF (tgt := 16) hx hb (by omega) (by decide) dX9_row_11 (by decide) ?_
    refine lv_iconst (v := jI (-1)) hx hb dX9_row_14 rfl ?_
    rw [hQ9]
    refine ret_i (mc := 0) (ms := 0) hx hb hr hlocks hw hS (by first | exact Nat.le_of_ble_eq_true rfl | omega) (by first | exact Nat.le_of_ble_eq_true rfl | omega) dX9_row_15 ?_
    have hMq82 : MInv X1 := minv_frm hMI q900072 (by decide)
    exact ⟨X1, rfl, hRX1, hFX1, hMq82, by omega, (by (try delta Hid at *); exact Or.inl ⟨(fun q => by omega), by omega⟩), fun _ => q900072, fun q => (by exfalso; omega)⟩
end
