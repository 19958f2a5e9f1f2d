def wX0 (G : lm_G) (q : Nat → Nat) (s : lm_St) : va_W := [(q 0, .inr (0, [.ref (q 1), .ref (q 2), .int (s.1 0)])), (q 1, .inl (G.2.1, 128, .inl (s.2.1 0))), (q 2, .inl (G.2.1, 7, .inl (s.2.1 1)))]
def wX1 (G : lm_G) (q : Nat → Nat) (r : Nat → Nat) (s : lm_St) : va_W := [(q 0, .inr (1, [.ref (r 0), .int (s.1 0), .int (s.1 1), .int (s.1 2)]))]
def wX2 (G : lm_G) (q : Nat → Nat) (r : Nat → Nat) (s : lm_St) : va_W := [(q 0, .inr (2, [.ref (r 0), .int (s.1 0), .int (s.1 1)]))]
def wX3 (G : lm_G) (q : Nat → Nat) (s : lm_St) : va_W := [(q 0, .inr (3, [.ref (q 1), .ref (q 2), .ref (q 3), .ref (q 4), .int (s.1 0), .int (s.1 1), .int (s.1 2), .int (s.1 3), .int (s.1 4)])), (q 1, .inl (G.2.1, 7, .inl (s.2.1 0))), (q 2, .inl (G.2.1, 7, .inl (s.2.1 1))), (q 3, .inl (G.2.1, 7, .inl (s.2.1 2))), (q 4, .inl (G.2.1, 7, .inl (s.2.1 3)))]
def wX4 (G : lm_G) (q : Nat → Nat) (s : lm_St) : va_W := [(q 0, .inr (4, [.int (s.1 0), .int (s.1 1), .int (s.1 2)]))]
def wX5 (G : lm_G) (q : Nat → Nat) (s : lm_St) : va_W := [(q 0, .inr (5, [.ref (q 1), .int (s.1 0)])), (q 1, .inl (G.2.1, 32, .inl (s.2.1 0)))]
def wX6 (G : lm_G) (q : Nat → Nat) (r : Nat → Nat) (s : lm_St) : va_W := [(q 0, .inr (6, [.ref (r 0), .ref (q 1), .ref (q 2), .int (s.1 0), .int (s.1 1), .int (s.1 2)])), (q 1, .inl (G.2.1, 4, .inl (s.2.1 0))), (q 2, .inl (G.2.1, 4, .inl (s.2.1 1)))]
def wX7 (G : lm_G) (q : Nat → Nat) (s : lm_St) : va_W := [(q 0, .inr (7, [.ref (q 1), .ref (q 2), .ref (q 3), .ref (q 4), .int (s.1 0)])), (q 1, .inl (G.2.1, 6, .inl (s.2.1 0))), (q 2, .inl (G.2.1, 6, .inl (s.2.1 1))), (q 3, .inl (G.2.1, 6, .inl (s.2.1 2))), (q 4, .inl (G.2.1, 21, .inl (s.2.1 3)))]
def wX8 (G : lm_G) (q : Nat → Nat) (r : Nat → Nat) (s : lm_St) : va_W := [(q 0, .inr (8, [.ref (r 0), .ref (r 1), .ref (r 2), .ref (r 3), .ref (r 4), .ref (r 5), .ref (r 6), .ref (r 7), .ref (r 8), .ref (r 9), .int (s.1 0), .int (s.1 1), .int (s.1 2)]))]
def wX9 (G : lm_G) (q : Nat → Nat) (s : lm_St) : va_W := [(q 0, .inr (9, [.ref (q 1), .int (s.1 0), .int (s.1 1), .int (s.1 2), .int (s.1 3), .int (s.1 4), .int (s.1 5), .int (s.1 6), .ref (q 2), .ref (q 3), .ref (q 4), .ref (q 5), .ref (q 6), .ref (q 7), .ref (q 8), .ref (q 9), .int (s.1 7), .int (s.1 8), .ref (q 10), .int (s.1 9), .ref (q 11), .int (s.1 10), .int (s.1 11), .int (s.1 12), .int (s.1 13), .int (s.1 14), .int (s.1 15), .ref (q 12), .ref (q 13), .ref (q 14), .ref (q 15), .ref (q 16), .ref (q 17), .long s.2.2])), (q 1, .inl (G.2.1, 32, .inl (s.2.1 0))), (q 2, .inl (G.2.1, 7, .inl (s.2.1 1))), (q 3, .inl (G.2.1, 7, .inl (s.2.1 2))), (q 4, .inl (G.2.1, 7, .inl (s.2.1 3))), (q 5, .inl (G.2.1, 7, .inl (s.2.1 4))), (q 6, .inl (G.2.1, 7, .inl (s.2.1 5))), (q 7, .inl (G.2.1, 7, .inl (s.2.1 6))), (q 8, .inl (G.2.1, 7, .inl (s.2.1 7))), (q 9, .inl (G.2.1, 7, .inl (s.2.1 8))), (q 10, .inl (G.2.1, 1024, .inl (s.2.1 9))), (q 11, .inl (G.2.1, 18, .inl (s.2.1 10))), (q 12, .inl (G.2.1, 7, .inl (s.2.1 11))), (q 13, .inl (G.2.1, 7, .inl (s.2.1 12))), (q 14, .inl (G.2.1, 7, .inl (s.2.1 13))), (q 15, .inl (G.2.1, 7, .inl (s.2.1 14))), (q 16, .inl (G.2.1, 7, .inl (s.2.1 15))), (q 17, .inl (G.2.1, 18, .inl (s.2.1 16)))]
def lm_r8 : Nat → Nat
  | 0 => 1
  | 1 => 2
  | 2 => 3
  | 3 => 4
  | 4 => 5
  | 5 => 6
  | 6 => 8
  | 7 => 9
  | 8 => 11
  | _ => 12
def wA8 (G : lm_G) (Q : Nat → Nat → Nat) (g : Nat → lm_St) : va_W := wX8 G (Q 0) (fun j => Q (lm_r8 j) 0) (g 0) ++ (wX5 G (Q 1) (g 1) ++ (wX3 G (Q 2) (g 2) ++ (wX3 G (Q 3) (g 3) ++ (wX7 G (Q 4) (g 4) ++ (wX7 G (Q 5) (g 5) ++ (wX6 G (Q 6) (fun _ => Q 7 0) (g 6) ++ (wX3 G (Q 7) (g 7) ++ (wX4 G (Q 8) (g 8) ++ (wX2 G (Q 9) (fun _ => Q 10 0) (g 9) ++ (wX3 G (Q 10) (g 10) ++ (wX0 G (Q 11) (g 11) ++ (wX1 G (Q 12) (fun _ => Q 13 0) (g 12) ++ (wX3 G (Q 13) (g 13))))))))))))))
