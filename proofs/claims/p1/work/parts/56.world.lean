def w11 (c0 c1 c2 c3 c4 : ClassId) (h1 : Nat) (u : Nat → Nat) : va_W := [(h1, .inr (11, [.ref (u 0), .ref (u 2), .ref (u 4), .ref (u 12), .ref (u 20), .ref (u 143), .ref (u 147), .ref (u 160), .ref (u 163), .ref (u 166), .ref (u 151), .ref (u 171), .ref (u 159)])), ((u 0), .inr (7, [.ref (u 1), .int 0, .int 0])), ((u 1), .inl (c0, 80, .inl (fun _ => 0))), ((u 2), .inr (5, [.ref (u 3), .int 0])), ((u 3), .inl (c0, 14, .inl (fun _ => 0))), ((u 4), .inr (8, [.int 0, .int 0, .ref (u 5), .ref (u 6), .ref (u 7), .ref (u 8), .ref (u 9), .ref (u 10), .ref (u 11)])), ((u 5), .inl (c0, 6, .inl (fun _ => 0))), ((u 6), .inl (c0, 6, .inl (fun _ => 0))), ((u 7), .inl (c0, 8, .inl (fun _ => 0))), ((u 8), .inl (c0, 8, .inl (fun _ => 0))), ((u 9), .inl (c0, 8, .inl (fun _ => 0))), ((u 10), .inl (c0, 8, .inl (fun _ => 0))), ((u 11), .inl (c0, 8, .inl (fun _ => 0))), ((u 12), .inr (4, [.int 0, .int 0, .int 0, .int 0, .ref (u 13), .ref (u 14), .ref (u 15), .ref (u 16), .ref (u 17), .ref (u 18), .ref (u 19)])), ((u 13), .inl (c0, 6, .inl (fun _ => 0))), ((u 14), .inl (c0, 6, .inl (fun _ => 0))), ((u 15), .inl (c1, 6, .inr (.inl (fun _ => 0)))), ((u 16), .inl (c0, 6, .inl (fun _ => 0))), ((u 17), .inl (c0, 6, .inl (fun _ => 0))), ((u 18), .inl (c0, 6, .inl (fun _ => 0))), ((u 19), .inl (c1, 6, .inr (.inl (fun _ => 0)))), ((u 20), .inr (3, [.ref (u 21), .ref (u 22), .ref (u 23), .int 0, .int 0, .int 0])), ((u 21), .inl (c4, 12, .inr (.inr (.inr (.inr (va_up (va_up (va_up (va_up (va_up (va_up (va_up (va_up (va_up (va_up (va_up (va_up (fun _ => none) 0 (some (u 31))) 1 (some (u 39))) 2 (some (u 47))) 3 (some (u 55))) 4 (some (u 63))) 5 (some (u 71))) 6 (some (u 79))) 7 (some (u 87))) 8 (some (u 95))) 9 (some (u 103))) 10 (some (u 111))) 11 (some (u 119)))))))), ((u 22), .inl (c4, 2, .inr (.inr (.inr (.inr (va_up (va_up (fun _ => none) 0 (some (u 127))) 1 (some (u 135)))))))), ((u 23), .inr (4, [.int 0, .int 0, .int 0, .int 0, .ref (u 24), .ref (u 25), .ref (u 26), .ref (u 27), .ref (u 28), .ref (u 29), .ref (u 30)])), ((u 24), .inl (c0, 6, .inl (fun _ => 0))), ((u 25), .inl (c0, 6, .inl (fun _ => 0))), ((u 26), .inl (c1, 6, .inr (.inl (fun _ => 0)))), ((u 27), .inl (c0, 6, .inl (fun _ => 0))), ((u 28), .inl (c0, 6, .inl (fun _ => 0))), ((u 29), .inl (c0, 6, .inl (fun _ => 0))), ((u 30), .inl (c1, 6, .inr (.inl (fun _ => 0)))), ((u 31), .inr (4, [.int 0, .int 0, .int 0, .int 0, .ref (u 32), .ref (u 33), .ref (u 34), .ref (u 35), .ref (u 36), .ref (u 37), .ref (u 38)])), ((u 32), .inl (c0, 6, .inl (fun _ => 0))), ((u 33), .inl (c0, 6, .inl (fun _ => 0))), ((u 34), .inl (c1, 6, .inr (.inl (fun _ => 0)))), ((u 35), .inl (c0, 6, .inl (fun _ => 0))), ((u 36), .inl (c0, 6, .inl (fun _ => 0))), ((u 37), .inl (c0, 6, .inl (fun _ => 0))), ((u 38), .inl (c1, 6, .inr (.inl (fun _ => 0)))), ((u 39), .inr (4, [.int 0, .int 0, .int 0, .int 0, .ref (u 40), .ref (u 41), .ref (u 42), .ref (u 43), .ref (u 44), .ref (u 45), .ref (u 46)])), ((u 40), .inl (c0, 6, .inl (fun _ => 0))), ((u 41), .inl (c0, 6, .inl (fun _ => 0))), ((u 42), .inl (c1, 6, .inr (.inl (fun _ => 0)))), ((u 43), .inl (c0, 6, .inl (fun _ => 0))), ((u 44), .inl (c0, 6, .inl (fun _ => 0))), ((u 45), .inl (c0, 6, .inl (fun _ => 0))), ((u 46), .inl (c1, 6, .inr (.inl (fun _ => 0)))), ((u 47), .inr (4, [.int 0, .int 0, .int 0, .int 0, .ref (u 48), .ref (u 49), .ref (u 50), .ref (u 51), .ref (u 52), .ref (u 53), .ref (u 54)])), ((u 48), .inl (c0, 6, .inl (fun _ => 0))), ((u 49), .inl (c0, 6, .inl (fun _ => 0))), ((u 50), .inl (c1, 6, .inr (.inl (fun _ => 0)))), ((u 51), .inl (c0, 6, .inl (fun _ => 0))), ((u 52), .inl (c0, 6, .inl (fun _ => 0))), ((u 53), .inl (c0, 6, .inl (fun _ => 0))), ((u 54), .inl (c1, 6, .inr (.inl (fun _ => 0)))), ((u 55), .inr (4, [.int 0, .int 0, .int 0, .int 0, .ref (u 56), .ref (u 57), .ref (u 58), .ref (u 59), .ref (u 60), .ref (u 61), .ref (u 62)])), ((u 56), .inl (c0, 6, .inl (fun _ => 0))), ((u 57), .inl (c0, 6, .inl (fun _ => 0))), ((u 58), .inl (c1, 6, .inr (.inl (fun _ => 0)))), ((u 59), .inl (c0, 6, .inl (fun _ => 0))), ((u 60), .inl (c0, 6, .inl (fun _ => 0))), ((u 61), .inl (c0, 6, .inl (fun _ => 0))), ((u 62), .inl (c1, 6, .inr (.inl (fun _ => 0)))), ((u 63), .inr (4, [.int 0, .int 0, .int 0, .int 0, .ref (u 64), .ref (u 65), .ref (u 66), .ref (u 67), .ref (u 68), .ref (u 69), .ref (u 70)])), ((u 64), .inl (c0, 6, .inl (fun _ => 0))), ((u 65), .inl (c0, 6, .inl (fun _ => 0))), ((u 66), .inl (c1, 6, .inr (.inl (fun _ => 0)))), ((u 67), .inl (c0, 6, .inl (fun _ => 0))), ((u 68), .inl (c0, 6, .inl (fun _ => 0))), ((u 69), .inl (c0, 6, .inl (fun _ => 0))), ((u 70), .inl (c1, 6, .inr (.inl (fun _ => 0)))), ((u 71), .inr (4, [.int 0, .int 0, .int 0, .int 0, .ref (u 72), .ref (u 73), .ref (u 74), .ref (u 75), .ref (u 76), .ref (u 77), .ref (u 78)])), ((u 72), .inl (c0, 6, .inl (fun _ => 0))), ((u 73), .inl (c0, 6, .inl (fun _ => 0))), ((u 74), .inl (c1, 6, .inr (.inl (fun _ => 0)))), ((u 75), .inl (c0, 6, .inl (fun _ => 0))), ((u 76), .inl (c0, 6, .inl (fun _ => 0))), ((u 77), .inl (c0, 6, .inl (fun _ => 0))), ((u 78), .inl (c1, 6, .inr (.inl (fun _ => 0)))), ((u 79), .inr (4, [.int 0, .int 0, .int 0, .int 0, .ref (u 80), .ref (u 81), .ref (u 82), .ref (u 83), .ref (u 84), .ref (u 85), .ref (u 86)])), ((u 80), .inl (c0, 6, .inl (fun _ => 0))), ((u 81), .inl (c0, 6, .inl (fun _ => 0))), ((u 82), .inl (c1, 6, .inr (.inl (fun _ => 0)))), ((u 83), .inl (c0, 6, .inl (fun _ => 0))), ((u 84), .inl (c0, 6, .inl (fun _ => 0))), ((u 85), .inl (c0, 6, .inl (fun _ => 0))), ((u 86), .inl (c1, 6, .inr (.inl (fun _ => 0)))), ((u 87), .inr (4, [.int 0, .int 0, .int 0, .int 0, .ref (u 88), .ref (u 89), .ref (u 90), .ref (u 91), .ref (u 92), .ref (u 93), .ref (u 94)])), ((u 88), .inl (c0, 6, .inl (fun _ => 0))), ((u 89), .inl (c0, 6, .inl (fun _ => 0))), ((u 90), .inl (c1, 6, .inr (.inl (fun _ => 0)))), ((u 91), .inl (c0, 6, .inl (fun _ => 0))), ((u 92), .inl (c0, 6, .inl (fun _ => 0))), ((u 93), .inl (c0, 6, .inl (fun _ => 0))), ((u 94), .inl (c1, 6, .inr (.inl (fun _ => 0)))), ((u 95), .inr (4, [.int 0, .int 0, .int 0, .int 0, .ref (u 96), .ref (u 97), .ref (u 98), .ref (u 99), .ref (u 100), .ref (u 101), .ref (u 102)])), ((u 96), .inl (c0, 6, .inl (fun _ => 0))), ((u 97), .inl (c0, 6, .inl (fun _ => 0))), ((u 98), .inl (c1, 6, .inr (.inl (fun _ => 0)))), ((u 99), .inl (c0, 6, .inl (fun _ => 0))), ((u 100), .inl (c0, 6, .inl (fun _ => 0))), ((u 101), .inl (c0, 6, .inl (fun _ => 0))), ((u 102), .inl (c1, 6, .inr (.inl (fun _ => 0)))), ((u 103), .inr (4, [.int 0, .int 0, .int 0, .int 0, .ref (u 104), .ref (u 105), .ref (u 106), .ref (u 107), .ref (u 108), .ref (u 109), .ref (u 110)])), ((u 104), .inl (c0, 6, .inl (fun _ => 0))), ((u 105), .inl (c0, 6, .inl (fun _ => 0))), ((u 106), .inl (c1, 6, .inr (.inl (fun _ => 0)))), ((u 107), .inl (c0, 6, .inl (fun _ => 0))), ((u 108), .inl (c0, 6, .inl (fun _ => 0))), ((u 109), .inl (c0, 6, .inl (fun _ => 0))), ((u 110), .inl (c1, 6, .inr (.inl (fun _ => 0)))), ((u 111), .inr (4, [.int 0, .int 0, .int 0, .int 0, .ref (u 112), .ref (u 113), .ref (u 114), .ref (u 115), .ref (u 116), .ref (u 117), .ref (u 118)])), ((u 112), .inl (c0, 6, .inl (fun _ => 0))), ((u 113), .inl (c0, 6, .inl (fun _ => 0))), ((u 114), .inl (c1, 6, .inr (.inl (fun _ => 0)))), ((u 115), .inl (c0, 6, .inl (fun _ => 0))), ((u 116), .inl (c0, 6, .inl (fun _ => 0))), ((u 117), .inl (c0, 6, .inl (fun _ => 0))), ((u 118), .inl (c1, 6, .inr (.inl (fun _ => 0)))), ((u 119), .inr (4, [.int 0, .int 0, .int 0, .int 0, .ref (u 120), .ref (u 121), .ref (u 122), .ref (u 123), .ref (u 124), .ref (u 125), .ref (u 126)])), ((u 120), .inl (c0, 6, .inl (fun _ => 0))), ((u 121), .inl (c0, 6, .inl (fun _ => 0))), ((u 122), .inl (c1, 6, .inr (.inl (fun _ => 0)))), ((u 123), .inl (c0, 6, .inl (fun _ => 0))), ((u 124), .inl (c0, 6, .inl (fun _ => 0))), ((u 125), .inl (c0, 6, .inl (fun _ => 0))), ((u 126), .inl (c1, 6, .inr (.inl (fun _ => 0)))), ((u 127), .inr (4, [.int 0, .int 0, .int 0, .int 0, .ref (u 128), .ref (u 129), .ref (u 130), .ref (u 131), .ref (u 132), .ref (u 133), .ref (u 134)])), ((u 128), .inl (c0, 6, .inl (fun _ => 0))), ((u 129), .inl (c0, 6, .inl (fun _ => 0))), ((u 130), .inl (c1, 6, .inr (.inl (fun _ => 0)))), ((u 131), .inl (c0, 6, .inl (fun _ => 0))), ((u 132), .inl (c0, 6, .inl (fun _ => 0))), ((u 133), .inl (c0, 6, .inl (fun _ => 0))), ((u 134), .inl (c1, 6, .inr (.inl (fun _ => 0)))), ((u 135), .inr (4, [.int 0, .int 0, .int 0, .int 0, .ref (u 136), .ref (u 137), .ref (u 138), .ref (u 139), .ref (u 140), .ref (u 141), .ref (u 142)])), ((u 136), .inl (c0, 6, .inl (fun _ => 0))), ((u 137), .inl (c0, 6, .inl (fun _ => 0))), ((u 138), .inl (c1, 6, .inr (.inl (fun _ => 0)))), ((u 139), .inl (c0, 6, .inl (fun _ => 0))), ((u 140), .inl (c0, 6, .inl (fun _ => 0))), ((u 141), .inl (c0, 6, .inl (fun _ => 0))), ((u 142), .inl (c1, 6, .inr (.inl (fun _ => 0)))), ((u 143), .inr (6, [.ref (u 144), .ref (u 145), .ref (u 146), .int 0])), ((u 144), .inl (c0, 80, .inl (fun _ => 0))), ((u 145), .inl (c0, 80, .inl (fun _ => 0))), ((u 146), .inl (c0, 6, .inl (fun _ => 0))), ((u 147), .inr (6, [.ref (u 148), .ref (u 149), .ref (u 150), .int 0])), ((u 148), .inl (c0, 80, .inl (fun _ => 0))), ((u 149), .inl (c0, 80, .inl (fun _ => 0))), ((u 150), .inl (c0, 6, .inl (fun _ => 0))), ((u 151), .inr (10, [.ref (u 152), .ref (u 153), .ref (u 154), .ref (u 155), .ref (u 156), .ref (u 157), .ref (u 158), .int 0])), ((u 152), .inl (c0, 30, .inl (fun _ => 0))), ((u 153), .inl (c0, 30, .inl (fun _ => 0))), ((u 154), .inl (c0, 14, .inl (fun _ => 0))), ((u 155), .inl (c0, 225, .inl (fun _ => 0))), ((u 156), .inl (c0, 15, .inl (fun _ => 0))), ((u 157), .inl (c0, 225, .inl (fun _ => 0))), ((u 158), .inl (c0, 15, .inl (fun _ => 0))), ((u 159), .inl (c0, 160, .inl (fun _ => 0))), ((u 160), .inr (0, [.ref (u 4), .ref (u 12), .ref (u 143), .ref (u 161), .ref (u 162), .int 0, .int 0, .int 0])), ((u 161), .inl (c0, 32, .inl (fun _ => 0))), ((u 162), .inl (c0, 8, .inl (fun _ => 0))), ((u 163), .inr (0, [.ref (u 4), .ref (u 12), .ref (u 147), .ref (u 164), .ref (u 165), .int 0, .int 0, .int 0])), ((u 164), .inl (c0, 32, .inl (fun _ => 0))), ((u 165), .inl (c0, 8, .inl (fun _ => 0))), ((u 166), .inr (9, [.ref (u 4), .ref (u 12), .ref (u 160), .ref (u 167), .ref (u 168), .ref (u 169), .ref (u 170), .int 0, .int 0])), ((u 167), .inl (c0, 36, .inl (fun _ => 0))), ((u 168), .inl (c0, 6, .inl (fun _ => 0))), ((u 169), .inl (c0, 6, .inl (fun _ => 0))), ((u 170), .inl (c0, 6, .inl (fun _ => 0))), ((u 171), .inr (2, [.ref (u 4), .ref (u 12), .ref (u 160), .ref (u 172), .ref (u 173), .int 0, .int 0, .int 0, .int 0])), ((u 172), .inl (c0, 6, .inl (fun _ => 0))), ((u 173), .inl (c1, 1125, .inr (.inl (fun _ => 0))))]
def w12 (c0 c1 c2 c3 c4 : ClassId) (h2 : Nat) (v : Nat → Nat) : va_W := [(h2, .inr (12, [.ref (v 0), .int 0, .ref (v 1), .ref (v 2), .int 0, .ref (v 3), .ref (v 4), .int 0, .ref (v 5), .int 0, .int 0, .null, .int 0, .int 0, .int 0, .int 0, .ref (v 6), .ref (v 7), .int 0, .ref (v 8), .int 0, .ref (v 9), .ref (v 10), .int 0, .ref (v 11), .int 0, .int 0, .ref (v 12), .int 0, .ref (v 13), .ref (v 14), .ref (v 15), .int 0, .int 0, .ref (v 16), .int 0, .ref (v 17), .ref (v 18), .int 0, .ref (v 19), .int 0, .ref (v 20), .ref (v 21), .int 0, .ref (v 22), .ref (v 23), .int 0, .ref (v 24), .int 0, .ref (v 25), .ref (v 26), .ref (v 27)])), ((v 0), .inl (c0, 51, .inl (fun _ => 0))), ((v 1), .inl (c0, 6, .inl (fun _ => 0))), ((v 2), .inl (c0, 6, .inl (fun _ => 0))), ((v 3), .inl (c0, 40, .inl (fun _ => 0))), ((v 4), .inl (c2, 80, .inl (fun _ => 0))), ((v 5), .inl (c0, 20, .inl (fun _ => 0))), ((v 6), .inl (c0, 40, .inl (fun _ => 0))), ((v 7), .inl (c2, 40, .inl (fun _ => 0))), ((v 8), .inl (c2, 40, .inl (fun _ => 0))), ((v 9), .inl (c0, 6, .inl (fun _ => 0))), ((v 10), .inl (c0, 612, .inl (fun _ => 0))), ((v 11), .inl (c0, 51, .inl (fun _ => 0))), ((v 12), .inl (c0, 320, .inl (fun _ => 0))), ((v 13), .inl (c0, 8, .inl (fun _ => 0))), ((v 14), .inl (c0, 6, .inl (fun _ => 0))), ((v 15), .inl (c0, 6, .inl (fun _ => 0))), ((v 16), .inl (c3, 37210, .inl (fun _ => 0))), ((v 17), .inl (c0, 30, .inl (fun _ => 0))), ((v 18), .inl (c0, 30, .inl (fun _ => 0))), ((v 19), .inl (c0, 225, .inl (fun _ => 0))), ((v 20), .inl (c0, 15, .inl (fun _ => 0))), ((v 21), .inl (c0, 6, .inl (fun _ => 0))), ((v 22), .inl (c0, 32, .inl (fun _ => 0))), ((v 23), .inl (c3, 10000, .inl (fun _ => 0))), ((v 24), .inl (c0, 51, .inl (fun _ => 0))), ((v 25), .inl (c0, 102, .inl (fun _ => 0))), ((v 26), .inl (c3, 2, .inl (fun _ => 0))), ((v 27), .inl (c0, 2, .inl (fun _ => 0)))]
def w13 (c0 c1 c2 c3 c4 : ClassId) (h1 : Nat) (u : Nat → Nat) (h2 : Nat) (v : Nat → Nat) (q3 : Nat) : va_W := w11 c0 c1 c2 c3 c4 h1 u ++ w12 c0 c1 c2 c3 c4 h2 v ++ [(q3, .inl (c1, 1, .inr (.inl (fun _ => 0))))]
def lM0 : li_M := (fun _ _ => 0, fun _ _ => 0, fun r => if r = 1 then some 183 else none)
def lz_L (h1 : Nat) (u : Nat → Nat) (h2 : Nat) (v : Nat → Nat) (q3 : Nat) : List Nat := [h1, (u 0), (u 1), (u 2), (u 3), (u 4), (u 5), (u 6), (u 7), (u 8), (u 9), (u 10), (u 11), (u 12), (u 13), (u 14), (u 15), (u 16), (u 17), (u 18), (u 19), (u 20), (u 21), (u 22), (u 23), (u 24), (u 25), (u 26), (u 27), (u 28), (u 29), (u 30), (u 31), (u 32), (u 33), (u 34), (u 35), (u 36), (u 37), (u 38), (u 39), (u 40), (u 41), (u 42), (u 43), (u 44), (u 45), (u 46), (u 47), (u 48), (u 49), (u 50), (u 51), (u 52), (u 53), (u 54), (u 55), (u 56), (u 57), (u 58), (u 59), (u 60), (u 61), (u 62), (u 63), (u 64), (u 65), (u 66), (u 67), (u 68), (u 69), (u 70), (u 71), (u 72), (u 73), (u 74), (u 75), (u 76), (u 77), (u 78), (u 79), (u 80), (u 81), (u 82), (u 83), (u 84), (u 85), (u 86), (u 87), (u 88), (u 89), (u 90), (u 91), (u 92), (u 93), (u 94), (u 95), (u 96), (u 97), (u 98), (u 99), (u 100), (u 101), (u 102), (u 103), (u 104), (u 105), (u 106), (u 107), (u 108), (u 109), (u 110), (u 111), (u 112), (u 113), (u 114), (u 115), (u 116), (u 117), (u 118), (u 119), (u 120), (u 121), (u 122), (u 123), (u 124), (u 125), (u 126), (u 127), (u 128), (u 129), (u 130), (u 131), (u 132), (u 133), (u 134), (u 135), (u 136), (u 137), (u 138), (u 139), (u 140), (u 141), (u 142), (u 143), (u 144), (u 145), (u 146), (u 160), (u 161), (u 162), (u 147), (u 148), (u 149), (u 150), (u 163), (u 164), (u 165), (u 166), (u 167), (u 168), (u 169), (u 170), (u 151), (u 152), (u 153), (u 154), (u 155), (u 156), (u 157), (u 158), (u 171), (u 172), (u 173), (u 159), h2, (v 0), (v 1), (v 2), (v 3), (v 4), (v 5), (v 6), (v 7), (v 8), (v 9), (v 10), (v 11), (v 12), (v 13), (v 14), (v 15), (v 16), (v 17), (v 18), (v 19), (v 20), (v 21), (v 22), (v 23), (v 24), (v 25), (v 26), (v 27), q3]
def lz (D : va_G) (c0 c1 c2 c3 c4 : ClassId) (h1 : Nat) (u : Nat → Nat) (h2 : Nat) (v : Nat → Nat) (q3 : Nat) (ex : Nat → Nat) : li_Z := (D, fun k => if k = 0 then c0 else if k = 1 then c1 else if k = 2 then c2 else if k = 3 then c3 else c4, fun i => (lz_L h1 u h2 v q3).getD i (ex i))
def lw_pl : List Nat := [0, 1, 2, 3, 4, 5, 6, 7, 8, 9, 10, 11, 12, 13, 14, 15, 16, 17, 18, 19, 20, 21, 22, 23, 24, 25, 26, 27, 28, 29, 30, 31, 32, 33, 34, 35, 36, 37, 38, 39, 40, 41, 42, 43, 44, 45, 46, 47, 48, 49, 50, 51, 52, 53, 54, 55, 56, 57, 58, 59, 60, 61, 62, 63, 64, 65, 66, 67, 68, 69, 70, 71, 72, 73, 74, 75, 76, 77, 78, 79, 80, 81, 82, 83, 84, 85, 86, 87, 88, 89, 90, 91, 92, 93, 94, 95, 96, 97, 98, 99, 100, 101, 102, 103, 104, 105, 106, 107, 108, 109, 110, 111, 112, 113, 114, 115, 116, 117, 118, 119, 120, 121, 122, 123, 124, 125, 126, 127, 128, 129, 130, 131, 132, 133, 134, 135, 136, 137, 138, 139, 140, 141, 142, 143, 144, 145, 146, 147, 161, 162, 163, 148, 149, 150, 151, 164, 165, 166, 167, 168, 169, 170, 171, 152, 153, 154, 155, 156, 157, 158, 159, 172, 173, 174, 160, 175, 176, 177, 178, 179, 180, 181, 182, 183, 184, 185, 186, 187, 188, 189, 190, 191, 192, 193, 194, 195, 196, 197, 198, 199, 200, 201, 202, 203, 204]
def lz_P (D : va_G) (c0 c1 c2 c3 c4 : ClassId) (h1 : Nat) (u : Nat → Nat) (h2 : Nat) (v : Nat → Nat) (q3 : Nat) (ex : Nat → Nat) (k : Nat) : Prop := ∃ e : va_E, (w13 c0 c1 c2 c3 c4 h1 u h2 v q3)[lw_pl.getD k 0]? = some ((lz D c0 c1 c2 c3 c4 h1 u h2 v q3 ex).2.2 k, e) ∧ ∀ H : Heap, va_at D vwCl ((lz D c0 c1 c2 c3 c4 h1 u h2 v q3 ex).2.2 k, e) H → va_at D vwCl ((lz D c0 c1 c2 c3 c4 h1 u h2 v q3 ex).2.2 k, li_cell (lz D c0 c1 c2 c3 c4 h1 u h2 v q3 ex) lM0 k) H
section LZ
variable {D : va_G} {c0 c1 c2 c3 c4 : ClassId} {h1 : Nat} {u : Nat → Nat} {h2 : Nat} {v : Nat → Nat} {q3 : Nat} {ex : Nat → Nat}
theorem lz_0 : lz_P D c0 c1 c2 c3 c4 h1 u h2 v q3 ex 0 := ⟨_, rfl, fun H h => h⟩
theorem lz_1 : lz_P D c0 c1 c2 c3 c4 h1 u h2 v q3 ex 1 := ⟨_, rfl, fun H h => h⟩
theorem lz_2 : lz_P D c0 c1 c2 c3 c4 h1 u h2 v q3 ex 2 := ⟨_, rfl, fun H h => h⟩
theorem lz_3 : lz_P D c0 c1 c2 c3 c4 h1 u h2 v q3 ex 3 := ⟨_, rfl, fun H h => h⟩
theorem lz_4 : lz_P D c0 c1 c2 c3 c4 h1 u h2 v q3 ex 4 := ⟨_, rfl, fun H h => h⟩
theorem lz_5 : lz_P D c0 c1 c2 c3 c4 h1 u h2 v q3 ex 5 := ⟨_, rfl, fun H h => h⟩
theorem lz_6 : lz_P D c0 c1 c2 c3 c4 h1 u h2 v q3 ex 6 := ⟨_, rfl, fun H h => h⟩
theorem lz_7 : lz_P D c0 c1 c2 c3 c4 h1 u h2 v q3 ex 7 := ⟨_, rfl, fun H h => h⟩
theorem lz_8 : lz_P D c0 c1 c2 c3 c4 h1 u h2 v q3 ex 8 := ⟨_, rfl, fun H h => h⟩
theorem lz_9 : lz_P D c0 c1 c2 c3 c4 h1 u h2 v q3 ex 9 := ⟨_, rfl, fun H h => h⟩
theorem lz_10 : lz_P D c0 c1 c2 c3 c4 h1 u h2 v q3 ex 10 := ⟨_, rfl, fun H h => h⟩
theorem lz_11 : lz_P D c0 c1 c2 c3 c4 h1 u h2 v q3 ex 11 := ⟨_, rfl, fun H h => h⟩
theorem lz_12 : lz_P D c0 c1 c2 c3 c4 h1 u h2 v q3 ex 12 := ⟨_, rfl, fun H h => h⟩
theorem lz_13 : lz_P D c0 c1 c2 c3 c4 h1 u h2 v q3 ex 13 := ⟨_, rfl, fun H h => h⟩
theorem lz_14 : lz_P D c0 c1 c2 c3 c4 h1 u h2 v q3 ex 14 := ⟨_, rfl, fun H h => h⟩
theorem lz_15 : lz_P D c0 c1 c2 c3 c4 h1 u h2 v q3 ex 15 := ⟨_, rfl, fun H h => h⟩
theorem lz_16 : lz_P D c0 c1 c2 c3 c4 h1 u h2 v q3 ex 16 := ⟨_, rfl, fun H h => h⟩
theorem lz_17 : lz_P D c0 c1 c2 c3 c4 h1 u h2 v q3 ex 17 := ⟨_, rfl, fun H h => h⟩
theorem lz_18 : lz_P D c0 c1 c2 c3 c4 h1 u h2 v q3 ex 18 := ⟨_, rfl, fun H h => h⟩
theorem lz_19 : lz_P D c0 c1 c2 c3 c4 h1 u h2 v q3 ex 19 := ⟨_, rfl, fun H h => h⟩
theorem lz_20 : lz_P D c0 c1 c2 c3 c4 h1 u h2 v q3 ex 20 := ⟨_, rfl, fun H h => h⟩
theorem lz_21 : lz_P D c0 c1 c2 c3 c4 h1 u h2 v q3 ex 21 := ⟨_, rfl, fun H h => h⟩
theorem lz_22 : lz_P D c0 c1 c2 c3 c4 h1 u h2 v q3 ex 22 := ⟨_, rfl, fun H h => h⟩
theorem lz_23 : lz_P D c0 c1 c2 c3 c4 h1 u h2 v q3 ex 23 := ⟨_, rfl, fun H h => h⟩
theorem lz_24 : lz_P D c0 c1 c2 c3 c4 h1 u h2 v q3 ex 24 := ⟨_, rfl, fun H h => h⟩
theorem lz_25 : lz_P D c0 c1 c2 c3 c4 h1 u h2 v q3 ex 25 := ⟨_, rfl, fun H h => h⟩
theorem lz_26 : lz_P D c0 c1 c2 c3 c4 h1 u h2 v q3 ex 26 := ⟨_, rfl, fun H h => h⟩
theorem lz_27 : lz_P D c0 c1 c2 c3 c4 h1 u h2 v q3 ex 27 := ⟨_, rfl, fun H h => h⟩
theorem lz_28 : lz_P D c0 c1 c2 c3 c4 h1 u h2 v q3 ex 28 := ⟨_, rfl, fun H h => h⟩
theorem lz_29 : lz_P D c0 c1 c2 c3 c4 h1 u h2 v q3 ex 29 := ⟨_, rfl, fun H h => h⟩
theorem lz_30 : lz_P D c0 c1 c2 c3 c4 h1 u h2 v q3 ex 30 := ⟨_, rfl, fun H h => h⟩
theorem lz_31 : lz_P D c0 c1 c2 c3 c4 h1 u h2 v q3 ex 31 := ⟨_, rfl, fun H h => h⟩
theorem lz_32 : lz_P D c0 c1 c2 c3 c4 h1 u h2 v q3 ex 32 := ⟨_, rfl, fun H h => h⟩
theorem lz_33 : lz_P D c0 c1 c2 c3 c4 h1 u h2 v q3 ex 33 := ⟨_, rfl, fun H h => h⟩
theorem lz_34 : lz_P D c0 c1 c2 c3 c4 h1 u h2 v q3 ex 34 := ⟨_, rfl, fun H h => h⟩
theorem lz_35 : lz_P D c0 c1 c2 c3 c4 h1 u h2 v q3 ex 35 := ⟨_, rfl, fun H h => h⟩
theorem lz_36 : lz_P D c0 c1 c2 c3 c4 h1 u h2 v q3 ex 36 := ⟨_, rfl, fun H h => h⟩
theorem lz_37 : lz_P D c0 c1 c2 c3 c4 h1 u h2 v q3 ex 37 := ⟨_, rfl, fun H h => h⟩
theorem lz_38 : lz_P D c0 c1 c2 c3 c4 h1 u h2 v q3 ex 38 := ⟨_, rfl, fun H h => h⟩
theorem lz_39 : lz_P D c0 c1 c2 c3 c4 h1 u h2 v q3 ex 39 := ⟨_, rfl, fun H h => h⟩
theorem lz_40 : lz_P D c0 c1 c2 c3 c4 h1 u h2 v q3 ex 40 := ⟨_, rfl, fun H h => h⟩
theorem lz_41 : lz_P D c0 c1 c2 c3 c4 h1 u h2 v q3 ex 41 := ⟨_, rfl, fun H h => h⟩
theorem lz_42 : lz_P D c0 c1 c2 c3 c4 h1 u h2 v q3 ex 42 := ⟨_, rfl, fun H h => h⟩
theorem lz_43 : lz_P D c0 c1 c2 c3 c4 h1 u h2 v q3 ex 43 := ⟨_, rfl, fun H h => h⟩
theorem lz_44 : lz_P D c0 c1 c2 c3 c4 h1 u h2 v q3 ex 44 := ⟨_, rfl, fun H h => h⟩
theorem lz_45 : lz_P D c0 c1 c2 c3 c4 h1 u h2 v q3 ex 45 := ⟨_, rfl, fun H h => h⟩
theorem lz_46 : lz_P D c0 c1 c2 c3 c4 h1 u h2 v q3 ex 46 := ⟨_, rfl, fun H h => h⟩
theorem lz_47 : lz_P D c0 c1 c2 c3 c4 h1 u h2 v q3 ex 47 := ⟨_, rfl, fun H h => h⟩
theorem lz_48 : lz_P D c0 c1 c2 c3 c4 h1 u h2 v q3 ex 48 := ⟨_, rfl, fun H h => h⟩
theorem lz_49 : lz_P D c0 c1 c2 c3 c4 h1 u h2 v q3 ex 49 := ⟨_, rfl, fun H h => h⟩
theorem lz_50 : lz_P D c0 c1 c2 c3 c4 h1 u h2 v q3 ex 50 := ⟨_, rfl, fun H h => h⟩
theorem lz_51 : lz_P D c0 c1 c2 c3 c4 h1 u h2 v q3 ex 51 := ⟨_, rfl, fun H h => h⟩
theorem lz_52 : lz_P D c0 c1 c2 c3 c4 h1 u h2 v q3 ex 52 := ⟨_, rfl, fun H h => h⟩
theorem lz_53 : lz_P D c0 c1 c2 c3 c4 h1 u h2 v q3 ex 53 := ⟨_, rfl, fun H h => h⟩
theorem lz_54 : lz_P D c0 c1 c2 c3 c4 h1 u h2 v q3 ex 54 := ⟨_, rfl, fun H h => h⟩
theorem lz_55 : lz_P D c0 c1 c2 c3 c4 h1 u h2 v q3 ex 55 := ⟨_, rfl, fun H h => h⟩
theorem lz_56 : lz_P D c0 c1 c2 c3 c4 h1 u h2 v q3 ex 56 := ⟨_, rfl, fun H h => h⟩
theorem lz_57 : lz_P D c0 c1 c2 c3 c4 h1 u h2 v q3 ex 57 := ⟨_, rfl, fun H h => h⟩
theorem lz_58 : lz_P D c0 c1 c2 c3 c4 h1 u h2 v q3 ex 58 := ⟨_, rfl, fun H h => h⟩
theorem lz_59 : lz_P D c0 c1 c2 c3 c4 h1 u h2 v q3 ex 59 := ⟨_, rfl, fun H h => h⟩
theorem lz_60 : lz_P D c0 c1 c2 c3 c4 h1 u h2 v q3 ex 60 := ⟨_, rfl, fun H h => h⟩
theorem lz_61 : lz_P D c0 c1 c2 c3 c4 h1 u h2 v q3 ex 61 := ⟨_, rfl, fun H h => h⟩
theorem lz_62 : lz_P D c0 c1 c2 c3 c4 h1 u h2 v q3 ex 62 := ⟨_, rfl, fun H h => h⟩
theorem lz_63 : lz_P D c0 c1 c2 c3 c4 h1 u h2 v q3 ex 63 := ⟨_, rfl, fun H h => h⟩
theorem lz_64 : lz_P D c0 c1 c2 c3 c4 h1 u h2 v q3 ex 64 := ⟨_, rfl, fun H h => h⟩
theorem lz_65 : lz_P D c0 c1 c2 c3 c4 h1 u h2 v q3 ex 65 := ⟨_, rfl, fun H h => h⟩
theorem lz_66 : lz_P D c0 c1 c2 c3 c4 h1 u h2 v q3 ex 66 := ⟨_, rfl, fun H h => h⟩
theorem lz_67 : lz_P D c0 c1 c2 c3 c4 h1 u h2 v q3 ex 67 := ⟨_, rfl, fun H h => h⟩
theorem lz_68 : lz_P D c0 c1 c2 c3 c4 h1 u h2 v q3 ex 68 := ⟨_, rfl, fun H h => h⟩
theorem lz_69 : lz_P D c0 c1 c2 c3 c4 h1 u h2 v q3 ex 69 := ⟨_, rfl, fun H h => h⟩
theorem lz_70 : lz_P D c0 c1 c2 c3 c4 h1 u h2 v q3 ex 70 := ⟨_, rfl, fun H h => h⟩
theorem lz_71 : lz_P D c0 c1 c2 c3 c4 h1 u h2 v q3 ex 71 := ⟨_, rfl, fun H h => h⟩
theorem lz_72 : lz_P D c0 c1 c2 c3 c4 h1 u h2 v q3 ex 72 := ⟨_, rfl, fun H h => h⟩
theorem lz_73 : lz_P D c0 c1 c2 c3 c4 h1 u h2 v q3 ex 73 := ⟨_, rfl, fun H h => h⟩
theorem lz_74 : lz_P D c0 c1 c2 c3 c4 h1 u h2 v q3 ex 74 := ⟨_, rfl, fun H h => h⟩
theorem lz_75 : lz_P D c0 c1 c2 c3 c4 h1 u h2 v q3 ex 75 := ⟨_, rfl, fun H h => h⟩
theorem lz_76 : lz_P D c0 c1 c2 c3 c4 h1 u h2 v q3 ex 76 := ⟨_, rfl, fun H h => h⟩
theorem lz_77 : lz_P D c0 c1 c2 c3 c4 h1 u h2 v q3 ex 77 := ⟨_, rfl, fun H h => h⟩
theorem lz_78 : lz_P D c0 c1 c2 c3 c4 h1 u h2 v q3 ex 78 := ⟨_, rfl, fun H h => h⟩
theorem lz_79 : lz_P D c0 c1 c2 c3 c4 h1 u h2 v q3 ex 79 := ⟨_, rfl, fun H h => h⟩
theorem lz_80 : lz_P D c0 c1 c2 c3 c4 h1 u h2 v q3 ex 80 := ⟨_, rfl, fun H h => h⟩
theorem lz_81 : lz_P D c0 c1 c2 c3 c4 h1 u h2 v q3 ex 81 := ⟨_, rfl, fun H h => h⟩
theorem lz_82 : lz_P D c0 c1 c2 c3 c4 h1 u h2 v q3 ex 82 := ⟨_, rfl, fun H h => h⟩
theorem lz_83 : lz_P D c0 c1 c2 c3 c4 h1 u h2 v q3 ex 83 := ⟨_, rfl, fun H h => h⟩
theorem lz_84 : lz_P D c0 c1 c2 c3 c4 h1 u h2 v q3 ex 84 := ⟨_, rfl, fun H h => h⟩
theorem lz_85 : lz_P D c0 c1 c2 c3 c4 h1 u h2 v q3 ex 85 := ⟨_, rfl, fun H h => h⟩
theorem lz_86 : lz_P D c0 c1 c2 c3 c4 h1 u h2 v q3 ex 86 := ⟨_, rfl, fun H h => h⟩
theorem lz_87 : lz_P D c0 c1 c2 c3 c4 h1 u h2 v q3 ex 87 := ⟨_, rfl, fun H h => h⟩
theorem lz_88 : lz_P D c0 c1 c2 c3 c4 h1 u h2 v q3 ex 88 := ⟨_, rfl, fun H h => h⟩
theorem lz_89 : lz_P D c0 c1 c2 c3 c4 h1 u h2 v q3 ex 89 := ⟨_, rfl, fun H h => h⟩
theorem lz_90 : lz_P D c0 c1 c2 c3 c4 h1 u h2 v q3 ex 90 := ⟨_, rfl, fun H h => h⟩
theorem lz_91 : lz_P D c0 c1 c2 c3 c4 h1 u h2 v q3 ex 91 := ⟨_, rfl, fun H h => h⟩
theorem lz_92 : lz_P D c0 c1 c2 c3 c4 h1 u h2 v q3 ex 92 := ⟨_, rfl, fun H h => h⟩
theorem lz_93 : lz_P D c0 c1 c2 c3 c4 h1 u h2 v q3 ex 93 := ⟨_, rfl, fun H h => h⟩
theorem lz_94 : lz_P D c0 c1 c2 c3 c4 h1 u h2 v q3 ex 94 := ⟨_, rfl, fun H h => h⟩
theorem lz_95 : lz_P D c0 c1 c2 c3 c4 h1 u h2 v q3 ex 95 := ⟨_, rfl, fun H h => h⟩
theorem lz_96 : lz_P D c0 c1 c2 c3 c4 h1 u h2 v q3 ex 96 := ⟨_, rfl, fun H h => h⟩
theorem lz_97 : lz_P D c0 c1 c2 c3 c4 h1 u h2 v q3 ex 97 := ⟨_, rfl, fun H h => h⟩
theorem lz_98 : lz_P D c0 c1 c2 c3 c4 h1 u h2 v q3 ex 98 := ⟨_, rfl, fun H h => h⟩
theorem lz_99 : lz_P D c0 c1 c2 c3 c4 h1 u h2 v q3 ex 99 := ⟨_, rfl, fun H h => h⟩
theorem lz_100 : lz_P D c0 c1 c2 c3 c4 h1 u h2 v q3 ex 100 := ⟨_, rfl, fun H h => h⟩
theorem lz_101 : lz_P D c0 c1 c2 c3 c4 h1 u h2 v q3 ex 101 := ⟨_, rfl, fun H h => h⟩
theorem lz_102 : lz_P D c0 c1 c2 c3 c4 h1 u h2 v q3 ex 102 := ⟨_, rfl, fun H h => h⟩
theorem lz_103 : lz_P D c0 c1 c2 c3 c4 h1 u h2 v q3 ex 103 := ⟨_, rfl, fun H h => h⟩
theorem lz_104 : lz_P D c0 c1 c2 c3 c4 h1 u h2 v q3 ex 104 := ⟨_, rfl, fun H h => h⟩
theorem lz_105 : lz_P D c0 c1 c2 c3 c4 h1 u h2 v q3 ex 105 := ⟨_, rfl, fun H h => h⟩
theorem lz_106 : lz_P D c0 c1 c2 c3 c4 h1 u h2 v q3 ex 106 := ⟨_, rfl, fun H h => h⟩
theorem lz_107 : lz_P D c0 c1 c2 c3 c4 h1 u h2 v q3 ex 107 := ⟨_, rfl, fun H h => h⟩
theorem lz_108 : lz_P D c0 c1 c2 c3 c4 h1 u h2 v q3 ex 108 := ⟨_, rfl, fun H h => h⟩
theorem lz_109 : lz_P D c0 c1 c2 c3 c4 h1 u h2 v q3 ex 109 := ⟨_, rfl, fun H h => h⟩
theorem lz_110 : lz_P D c0 c1 c2 c3 c4 h1 u h2 v q3 ex 110 := ⟨_, rfl, fun H h => h⟩
theorem lz_111 : lz_P D c0 c1 c2 c3 c4 h1 u h2 v q3 ex 111 := ⟨_, rfl, fun H h => h⟩
theorem lz_112 : lz_P D c0 c1 c2 c3 c4 h1 u h2 v q3 ex 112 := ⟨_, rfl, fun H h => h⟩
theorem lz_113 : lz_P D c0 c1 c2 c3 c4 h1 u h2 v q3 ex 113 := ⟨_, rfl, fun H h => h⟩
theorem lz_114 : lz_P D c0 c1 c2 c3 c4 h1 u h2 v q3 ex 114 := ⟨_, rfl, fun H h => h⟩
theorem lz_115 : lz_P D c0 c1 c2 c3 c4 h1 u h2 v q3 ex 115 := ⟨_, rfl, fun H h => h⟩
theorem lz_116 : lz_P D c0 c1 c2 c3 c4 h1 u h2 v q3 ex 116 := ⟨_, rfl, fun H h => h⟩
theorem lz_117 : lz_P D c0 c1 c2 c3 c4 h1 u h2 v q3 ex 117 := ⟨_, rfl, fun H h => h⟩
theorem lz_118 : lz_P D c0 c1 c2 c3 c4 h1 u h2 v q3 ex 118 := ⟨_, rfl, fun H h => h⟩
theorem lz_119 : lz_P D c0 c1 c2 c3 c4 h1 u h2 v q3 ex 119 := ⟨_, rfl, fun H h => h⟩
theorem lz_120 : lz_P D c0 c1 c2 c3 c4 h1 u h2 v q3 ex 120 := ⟨_, rfl, fun H h => h⟩
theorem lz_121 : lz_P D c0 c1 c2 c3 c4 h1 u h2 v q3 ex 121 := ⟨_, rfl, fun H h => h⟩
theorem lz_122 : lz_P D c0 c1 c2 c3 c4 h1 u h2 v q3 ex 122 := ⟨_, rfl, fun H h => h⟩
theorem lz_123 : lz_P D c0 c1 c2 c3 c4 h1 u h2 v q3 ex 123 := ⟨_, rfl, fun H h => h⟩
theorem lz_124 : lz_P D c0 c1 c2 c3 c4 h1 u h2 v q3 ex 124 := ⟨_, rfl, fun H h => h⟩
theorem lz_125 : lz_P D c0 c1 c2 c3 c4 h1 u h2 v q3 ex 125 := ⟨_, rfl, fun H h => h⟩
theorem lz_126 : lz_P D c0 c1 c2 c3 c4 h1 u h2 v q3 ex 126 := ⟨_, rfl, fun H h => h⟩
theorem lz_127 : lz_P D c0 c1 c2 c3 c4 h1 u h2 v q3 ex 127 := ⟨_, rfl, fun H h => h⟩
theorem lz_128 : lz_P D c0 c1 c2 c3 c4 h1 u h2 v q3 ex 128 := ⟨_, rfl, fun H h => h⟩
theorem lz_129 : lz_P D c0 c1 c2 c3 c4 h1 u h2 v q3 ex 129 := ⟨_, rfl, fun H h => h⟩
theorem lz_130 : lz_P D c0 c1 c2 c3 c4 h1 u h2 v q3 ex 130 := ⟨_, rfl, fun H h => h⟩
theorem lz_131 : lz_P D c0 c1 c2 c3 c4 h1 u h2 v q3 ex 131 := ⟨_, rfl, fun H h => h⟩
theorem lz_132 : lz_P D c0 c1 c2 c3 c4 h1 u h2 v q3 ex 132 := ⟨_, rfl, fun H h => h⟩
theorem lz_133 : lz_P D c0 c1 c2 c3 c4 h1 u h2 v q3 ex 133 := ⟨_, rfl, fun H h => h⟩
theorem lz_134 : lz_P D c0 c1 c2 c3 c4 h1 u h2 v q3 ex 134 := ⟨_, rfl, fun H h => h⟩
theorem lz_135 : lz_P D c0 c1 c2 c3 c4 h1 u h2 v q3 ex 135 := ⟨_, rfl, fun H h => h⟩
theorem lz_136 : lz_P D c0 c1 c2 c3 c4 h1 u h2 v q3 ex 136 := ⟨_, rfl, fun H h => h⟩
theorem lz_137 : lz_P D c0 c1 c2 c3 c4 h1 u h2 v q3 ex 137 := ⟨_, rfl, fun H h => h⟩
theorem lz_138 : lz_P D c0 c1 c2 c3 c4 h1 u h2 v q3 ex 138 := ⟨_, rfl, fun H h => h⟩
theorem lz_139 : lz_P D c0 c1 c2 c3 c4 h1 u h2 v q3 ex 139 := ⟨_, rfl, fun H h => h⟩
theorem lz_140 : lz_P D c0 c1 c2 c3 c4 h1 u h2 v q3 ex 140 := ⟨_, rfl, fun H h => h⟩
theorem lz_141 : lz_P D c0 c1 c2 c3 c4 h1 u h2 v q3 ex 141 := ⟨_, rfl, fun H h => h⟩
theorem lz_142 : lz_P D c0 c1 c2 c3 c4 h1 u h2 v q3 ex 142 := ⟨_, rfl, fun H h => h⟩
theorem lz_143 : lz_P D c0 c1 c2 c3 c4 h1 u h2 v q3 ex 143 := ⟨_, rfl, fun H h => h⟩
theorem lz_144 : lz_P D c0 c1 c2 c3 c4 h1 u h2 v q3 ex 144 := ⟨_, rfl, fun H h => h⟩
theorem lz_145 : lz_P D c0 c1 c2 c3 c4 h1 u h2 v q3 ex 145 := ⟨_, rfl, fun H h => h⟩
theorem lz_146 : lz_P D c0 c1 c2 c3 c4 h1 u h2 v q3 ex 146 := ⟨_, rfl, fun H h => h⟩
theorem lz_147 : lz_P D c0 c1 c2 c3 c4 h1 u h2 v q3 ex 147 := ⟨_, rfl, fun H h => h⟩
theorem lz_148 : lz_P D c0 c1 c2 c3 c4 h1 u h2 v q3 ex 148 := ⟨_, rfl, fun H h => h⟩
theorem lz_149 : lz_P D c0 c1 c2 c3 c4 h1 u h2 v q3 ex 149 := ⟨_, rfl, fun H h => h⟩
theorem lz_150 : lz_P D c0 c1 c2 c3 c4 h1 u h2 v q3 ex 150 := ⟨_, rfl, fun H h => h⟩
theorem lz_151 : lz_P D c0 c1 c2 c3 c4 h1 u h2 v q3 ex 151 := ⟨_, rfl, fun H h => h⟩
theorem lz_152 : lz_P D c0 c1 c2 c3 c4 h1 u h2 v q3 ex 152 := ⟨_, rfl, fun H h => h⟩
theorem lz_153 : lz_P D c0 c1 c2 c3 c4 h1 u h2 v q3 ex 153 := ⟨_, rfl, fun H h => h⟩
theorem lz_154 : lz_P D c0 c1 c2 c3 c4 h1 u h2 v q3 ex 154 := ⟨_, rfl, fun H h => h⟩
theorem lz_155 : lz_P D c0 c1 c2 c3 c4 h1 u h2 v q3 ex 155 := ⟨_, rfl, fun H h => h⟩
theorem lz_156 : lz_P D c0 c1 c2 c3 c4 h1 u h2 v q3 ex 156 := ⟨_, rfl, fun H h => h⟩
theorem lz_157 : lz_P D c0 c1 c2 c3 c4 h1 u h2 v q3 ex 157 := ⟨_, rfl, fun H h => h⟩
theorem lz_158 : lz_P D c0 c1 c2 c3 c4 h1 u h2 v q3 ex 158 := ⟨_, rfl, fun H h => h⟩
theorem lz_159 : lz_P D c0 c1 c2 c3 c4 h1 u h2 v q3 ex 159 := ⟨_, rfl, fun H h => h⟩
theorem lz_160 : lz_P D c0 c1 c2 c3 c4 h1 u h2 v q3 ex 160 := ⟨_, rfl, fun H h => h⟩
theorem lz_161 : lz_P D c0 c1 c2 c3 c4 h1 u h2 v q3 ex 161 := ⟨_, rfl, fun H h => h⟩
theorem lz_162 : lz_P D c0 c1 c2 c3 c4 h1 u h2 v q3 ex 162 := ⟨_, rfl, fun H h => h⟩
theorem lz_163 : lz_P D c0 c1 c2 c3 c4 h1 u h2 v q3 ex 163 := ⟨_, rfl, fun H h => h⟩
theorem lz_164 : lz_P D c0 c1 c2 c3 c4 h1 u h2 v q3 ex 164 := ⟨_, rfl, fun H h => h⟩
theorem lz_165 : lz_P D c0 c1 c2 c3 c4 h1 u h2 v q3 ex 165 := ⟨_, rfl, fun H h => h⟩
theorem lz_166 : lz_P D c0 c1 c2 c3 c4 h1 u h2 v q3 ex 166 := ⟨_, rfl, fun H h => h⟩
theorem lz_167 : lz_P D c0 c1 c2 c3 c4 h1 u h2 v q3 ex 167 := ⟨_, rfl, fun H h => h⟩
theorem lz_168 : lz_P D c0 c1 c2 c3 c4 h1 u h2 v q3 ex 168 := ⟨_, rfl, fun H h => h⟩
theorem lz_169 : lz_P D c0 c1 c2 c3 c4 h1 u h2 v q3 ex 169 := ⟨_, rfl, fun H h => h⟩
theorem lz_170 : lz_P D c0 c1 c2 c3 c4 h1 u h2 v q3 ex 170 := ⟨_, rfl, fun H h => h⟩
theorem lz_171 : lz_P D c0 c1 c2 c3 c4 h1 u h2 v q3 ex 171 := ⟨_, rfl, fun H h => h⟩
theorem lz_172 : lz_P D c0 c1 c2 c3 c4 h1 u h2 v q3 ex 172 := ⟨_, rfl, fun H h => h⟩
theorem lz_173 : lz_P D c0 c1 c2 c3 c4 h1 u h2 v q3 ex 173 := ⟨_, rfl, fun H h => h⟩
theorem lz_174 : lz_P D c0 c1 c2 c3 c4 h1 u h2 v q3 ex 174 := ⟨_, rfl, fun H h => h⟩
theorem lz_175 : lz_P D c0 c1 c2 c3 c4 h1 u h2 v q3 ex 175 := ⟨_, rfl, fun H h => h⟩
theorem lz_176 : lz_P D c0 c1 c2 c3 c4 h1 u h2 v q3 ex 176 := ⟨_, rfl, fun H h => h⟩
theorem lz_177 : lz_P D c0 c1 c2 c3 c4 h1 u h2 v q3 ex 177 := ⟨_, rfl, fun H h => h⟩
theorem lz_178 : lz_P D c0 c1 c2 c3 c4 h1 u h2 v q3 ex 178 := ⟨_, rfl, fun H h => h⟩
theorem lz_179 : lz_P D c0 c1 c2 c3 c4 h1 u h2 v q3 ex 179 := ⟨_, rfl, fun H h => h⟩
theorem lz_180 : lz_P D c0 c1 c2 c3 c4 h1 u h2 v q3 ex 180 := ⟨_, rfl, fun H h => h⟩
theorem lz_181 : lz_P D c0 c1 c2 c3 c4 h1 u h2 v q3 ex 181 := ⟨_, rfl, fun H h => h⟩
theorem lz_182 : lz_P D c0 c1 c2 c3 c4 h1 u h2 v q3 ex 182 := ⟨_, rfl, fun H h => h⟩
theorem lz_183 : lz_P D c0 c1 c2 c3 c4 h1 u h2 v q3 ex 183 := ⟨_, rfl, fun H h => h⟩
theorem lz_184 : lz_P D c0 c1 c2 c3 c4 h1 u h2 v q3 ex 184 := ⟨_, rfl, fun H h => h⟩
theorem lz_185 : lz_P D c0 c1 c2 c3 c4 h1 u h2 v q3 ex 185 := ⟨_, rfl, fun H h => h⟩
theorem lz_186 : lz_P D c0 c1 c2 c3 c4 h1 u h2 v q3 ex 186 := ⟨_, rfl, fun H h => h⟩
theorem lz_187 : lz_P D c0 c1 c2 c3 c4 h1 u h2 v q3 ex 187 := ⟨_, rfl, fun H h => h⟩
theorem lz_188 : lz_P D c0 c1 c2 c3 c4 h1 u h2 v q3 ex 188 := ⟨_, rfl, fun H h => h⟩
theorem lz_189 : lz_P D c0 c1 c2 c3 c4 h1 u h2 v q3 ex 189 := ⟨_, rfl, fun H h => h⟩
theorem lz_190 : lz_P D c0 c1 c2 c3 c4 h1 u h2 v q3 ex 190 := ⟨_, rfl, fun H h => h⟩
theorem lz_191 : lz_P D c0 c1 c2 c3 c4 h1 u h2 v q3 ex 191 := ⟨_, rfl, fun H h => h⟩
theorem lz_192 : lz_P D c0 c1 c2 c3 c4 h1 u h2 v q3 ex 192 := ⟨_, rfl, fun H h => h⟩
theorem lz_193 : lz_P D c0 c1 c2 c3 c4 h1 u h2 v q3 ex 193 := ⟨_, rfl, fun H h => h⟩
theorem lz_194 : lz_P D c0 c1 c2 c3 c4 h1 u h2 v q3 ex 194 := ⟨_, rfl, fun H h => h⟩
theorem lz_195 : lz_P D c0 c1 c2 c3 c4 h1 u h2 v q3 ex 195 := ⟨_, rfl, fun H h => h⟩
theorem lz_196 : lz_P D c0 c1 c2 c3 c4 h1 u h2 v q3 ex 196 := ⟨_, rfl, fun H h => h⟩
theorem lz_197 : lz_P D c0 c1 c2 c3 c4 h1 u h2 v q3 ex 197 := ⟨_, rfl, fun H h => h⟩
theorem lz_198 : lz_P D c0 c1 c2 c3 c4 h1 u h2 v q3 ex 198 := ⟨_, rfl, fun H h => h⟩
theorem lz_199 : lz_P D c0 c1 c2 c3 c4 h1 u h2 v q3 ex 199 := ⟨_, rfl, fun H h => h⟩
theorem lz_200 : lz_P D c0 c1 c2 c3 c4 h1 u h2 v q3 ex 200 := ⟨_, rfl, fun H h => h⟩
theorem lz_201 : lz_P D c0 c1 c2 c3 c4 h1 u h2 v q3 ex 201 := ⟨_, rfl, fun H h => h⟩
theorem lz_202 : lz_P D c0 c1 c2 c3 c4 h1 u h2 v q3 ex 202 := ⟨_, rfl, fun H h => h⟩
theorem lz_203 : lz_P D c0 c1 c2 c3 c4 h1 u h2 v q3 ex 203 := ⟨_, rfl, fun H h => h⟩
theorem lz_204 : lz_P D c0 c1 c2 c3 c4 h1 u h2 v q3 ex 204 := ⟨_, rfl, fun H h => h⟩
def lw_All (P : Nat → Prop) : Nat → Prop
  | 0 => True
  | n + 1 => lw_All P n ∧ P n
theorem lw_All_get {P : Nat → Prop} : ∀ {n : Nat}, lw_All P n → ∀ k, k < n → P k
  | 0, _, _, hk => absurd hk (Nat.not_lt_zero _)
  | n + 1, h, k, hk => by
    by_cases q : k = n
    · rw [q]; exact h.2
    · exact lw_All_get h.1 k (by omega)
theorem lz_c0 : lw_All (lz_P D c0 c1 c2 c3 c4 h1 u h2 v q3 ex) 41 := ⟨⟨⟨⟨⟨⟨⟨⟨⟨⟨⟨⟨⟨⟨⟨⟨⟨⟨⟨⟨⟨⟨⟨⟨⟨⟨⟨⟨⟨⟨⟨⟨⟨⟨⟨⟨⟨⟨⟨⟨⟨trivial, lz_0⟩, lz_1⟩, lz_2⟩, lz_3⟩, lz_4⟩, lz_5⟩, lz_6⟩, lz_7⟩, lz_8⟩, lz_9⟩, lz_10⟩, lz_11⟩, lz_12⟩, lz_13⟩, lz_14⟩, lz_15⟩, lz_16⟩, lz_17⟩, lz_18⟩, lz_19⟩, lz_20⟩, lz_21⟩, lz_22⟩, lz_23⟩, lz_24⟩, lz_25⟩, lz_26⟩, lz_27⟩, lz_28⟩, lz_29⟩, lz_30⟩, lz_31⟩, lz_32⟩, lz_33⟩, lz_34⟩, lz_35⟩, lz_36⟩, lz_37⟩, lz_38⟩, lz_39⟩, lz_40⟩
theorem lz_c1 : lw_All (lz_P D c0 c1 c2 c3 c4 h1 u h2 v q3 ex) 82 := ⟨⟨⟨⟨⟨⟨⟨⟨⟨⟨⟨⟨⟨⟨⟨⟨⟨⟨⟨⟨⟨⟨⟨⟨⟨⟨⟨⟨⟨⟨⟨⟨⟨⟨⟨⟨⟨⟨⟨⟨⟨lz_c0, lz_41⟩, lz_42⟩, lz_43⟩, lz_44⟩, lz_45⟩, lz_46⟩, lz_47⟩, lz_48⟩, lz_49⟩, lz_50⟩, lz_51⟩, lz_52⟩, lz_53⟩, lz_54⟩, lz_55⟩, lz_56⟩, lz_57⟩, lz_58⟩, lz_59⟩, lz_60⟩, lz_61⟩, lz_62⟩, lz_63⟩, lz_64⟩, lz_65⟩, lz_66⟩, lz_67⟩, lz_68⟩, lz_69⟩, lz_70⟩, lz_71⟩, lz_72⟩, lz_73⟩, lz_74⟩, lz_75⟩, lz_76⟩, lz_77⟩, lz_78⟩, lz_79⟩, lz_80⟩, lz_81⟩
theorem lz_c2 : lw_All (lz_P D c0 c1 c2 c3 c4 h1 u h2 v q3 ex) 123 := ⟨⟨⟨⟨⟨⟨⟨⟨⟨⟨⟨⟨⟨⟨⟨⟨⟨⟨⟨⟨⟨⟨⟨⟨⟨⟨⟨⟨⟨⟨⟨⟨⟨⟨⟨⟨⟨⟨⟨⟨⟨lz_c1, lz_82⟩, lz_83⟩, lz_84⟩, lz_85⟩, lz_86⟩, lz_87⟩, lz_88⟩, lz_89⟩, lz_90⟩, lz_91⟩, lz_92⟩, lz_93⟩, lz_94⟩, lz_95⟩, lz_96⟩, lz_97⟩, lz_98⟩, lz_99⟩, lz_100⟩, lz_101⟩, lz_102⟩, lz_103⟩, lz_104⟩, lz_105⟩, lz_106⟩, lz_107⟩, lz_108⟩, lz_109⟩, lz_110⟩, lz_111⟩, lz_112⟩, lz_113⟩, lz_114⟩, lz_115⟩, lz_116⟩, lz_117⟩, lz_118⟩, lz_119⟩, lz_120⟩, lz_121⟩, lz_122⟩
theorem lz_c3 : lw_All (lz_P D c0 c1 c2 c3 c4 h1 u h2 v q3 ex) 164 := ⟨⟨⟨⟨⟨⟨⟨⟨⟨⟨⟨⟨⟨⟨⟨⟨⟨⟨⟨⟨⟨⟨⟨⟨⟨⟨⟨⟨⟨⟨⟨⟨⟨⟨⟨⟨⟨⟨⟨⟨⟨lz_c2, lz_123⟩, lz_124⟩, lz_125⟩, lz_126⟩, lz_127⟩, lz_128⟩, lz_129⟩, lz_130⟩, lz_131⟩, lz_132⟩, lz_133⟩, lz_134⟩, lz_135⟩, lz_136⟩, lz_137⟩, lz_138⟩, lz_139⟩, lz_140⟩, lz_141⟩, lz_142⟩, lz_143⟩, lz_144⟩, lz_145⟩, lz_146⟩, lz_147⟩, lz_148⟩, lz_149⟩, lz_150⟩, lz_151⟩, lz_152⟩, lz_153⟩, lz_154⟩, lz_155⟩, lz_156⟩, lz_157⟩, lz_158⟩, lz_159⟩, lz_160⟩, lz_161⟩, lz_162⟩, lz_163⟩
theorem lz_c4 : lw_All (lz_P D c0 c1 c2 c3 c4 h1 u h2 v q3 ex) 205 := ⟨⟨⟨⟨⟨⟨⟨⟨⟨⟨⟨⟨⟨⟨⟨⟨⟨⟨⟨⟨⟨⟨⟨⟨⟨⟨⟨⟨⟨⟨⟨⟨⟨⟨⟨⟨⟨⟨⟨⟨⟨lz_c3, lz_164⟩, lz_165⟩, lz_166⟩, lz_167⟩, lz_168⟩, lz_169⟩, lz_170⟩, lz_171⟩, lz_172⟩, lz_173⟩, lz_174⟩, lz_175⟩, lz_176⟩, lz_177⟩, lz_178⟩, lz_179⟩, lz_180⟩, lz_181⟩, lz_182⟩, lz_183⟩, lz_184⟩, lz_185⟩, lz_186⟩, lz_187⟩, lz_188⟩, lz_189⟩, lz_190⟩, lz_191⟩, lz_192⟩, lz_193⟩, lz_194⟩, lz_195⟩, lz_196⟩, lz_197⟩, lz_198⟩, lz_199⟩, lz_200⟩, lz_201⟩, lz_202⟩, lz_203⟩, lz_204⟩
theorem lz_all (k : Nat) (hk : k < 205) : lz_P D c0 c1 c2 c3 c4 h1 u h2 v q3 ex k := lw_All_get lz_c4 k hk
theorem lw_pi : ∀ i : Fin 205, ∀ j : Fin 205, lw_pl.getD i 0 = lw_pl.getD j 0 → i = j := by decide +kernel
theorem lz_H {A : Nat → Prop} {H : Heap} (hP : va_P D vwCl (w13 c0 c1 c2 c3 c4 h1 u h2 v q3) H) : li_H (lz D c0 c1 c2 c3 c4 h1 u h2 v q3 ex) lM0 H := by
  intro k q hk
  obtain ⟨hl, rfl⟩ := li_get' hk
  obtain ⟨e, h1, h2⟩ := lz_all (D := D) (c0 := c0) (c1 := c1) (c2 := c2) (c3 := c3) (c4 := c4) (h1 := h1) (u := u) (h2 := h2) (v := v) (q3 := q3) (ex := ex) k hl
  exact h2 H (hP _ _ h1)
theorem lz_dis {A : Nat → Prop} (hD : va_D A (w13 c0 c1 c2 c3 c4 h1 u h2 v q3)) : li_dis (lz D c0 c1 c2 c3 c4 h1 u h2 v q3 ex) := by
  intro i j hi hj hij
  obtain ⟨e1, a1, -⟩ := lz_all (D := D) (c0 := c0) (c1 := c1) (c2 := c2) (c3 := c3) (c4 := c4) (h1 := h1) (u := u) (h2 := h2) (v := v) (q3 := q3) (ex := ex) i hi
  obtain ⟨e2, a2, -⟩ := lz_all (D := D) (c0 := c0) (c1 := c1) (c2 := c2) (c3 := c3) (c4 := c4) (h1 := h1) (u := u) (h2 := h2) (v := v) (q3 := q3) (ex := ex) j hj
  have h := hD.1 _ _ _ _ a1 a2 hij
  exact congrArg Fin.val (lw_pi ⟨i, hi⟩ ⟨j, hj⟩ h)
theorem lz_A {A : Nat → Prop} (hD : va_D A (w13 c0 c1 c2 c3 c4 h1 u h2 v q3)) : ∀ q, li_A (lz D c0 c1 c2 c3 c4 h1 u h2 v q3 ex) q → A q := by
  rintro q ⟨i, hi, rfl⟩
  obtain ⟨e1, a1, -⟩ := lz_all (D := D) (c0 := c0) (c1 := c1) (c2 := c2) (c3 := c3) (c4 := c4) (h1 := h1) (u := u) (h2 := h2) (v := v) (q3 := q3) (ex := ex) i hi
  exact hD.2 _ _ a1
theorem lz_ex (i : Nat) (hi : 205 ≤ i) : (lz D c0 c1 c2 c3 c4 h1 u h2 v q3 ex).2.2 i = ex i := by
  show (lz_L h1 u h2 v q3).getD i (ex i) = ex i
  rw [List.getD_eq_getElem?_getD, List.getElem?_eq_none (show (lz_L h1 u h2 v q3).length ≤ i from hi)]
  rfl
end LZ
theorem lM0_J : li_J lM0 := by
  refine ⟨fun k => ?_, fun j i hj => ?_, ⟨183, rfl, Or.inl rfl⟩, Or.inl ⟨rfl, by decide⟩⟩
  · show (li_rg k).1 ≤ (0 : Int32).toInt ∧ (0 : Int32).toInt ≤ (li_rg k).2
    have z : (0 : Int32).toInt = 0 := rfl
    rw [z]
    unfold li_rg
    by_cases q1 : k = 1
    · rw [if_pos q1]; decide
    rw [if_neg q1]
    by_cases q4 : k = 4
    · rw [if_pos q4]; decide
    rw [if_neg q4]
    by_cases q7 : k = 7
    · rw [if_pos q7]; decide
    rw [if_neg q7]
    by_cases q9 : k = 9
    · rw [if_pos q9]; decide
    rw [if_neg q9]
    by_cases q12 : k = 12
    · rw [if_pos q12]; decide
    rw [if_neg q12]
    by_cases q13 : k = 13
    · rw [if_pos q13]; decide
    rw [if_neg q13]
    by_cases q14 : k = 14
    · rw [if_pos q14]; decide
    rw [if_neg q14]
    by_cases q15 : k = 15
    · rw [if_pos q15]; decide
    rw [if_neg q15]
    by_cases q18 : k = 18
    · rw [if_pos q18]; decide
    rw [if_neg q18]
    by_cases q23 : k = 23
    · rw [if_pos q23]; decide
    rw [if_neg q23]
    by_cases q32 : k = 32
    · rw [if_pos q32]; decide
    rw [if_neg q32]
    by_cases q38 : k = 38
    · rw [if_pos q38]; decide
    rw [if_neg q38]
    by_cases q40 : k = 40
    · rw [if_pos q40]; decide
    rw [if_neg q40]
    decide
  · have z : (0 : Int32).toInt = 0 := rfl
    refine ⟨fun _ => ⟨fun _ => ?_, fun _ _ => ?_⟩, fun _ _ => ?_, fun _ => ?_, fun _ => rfl⟩
    · show 0 ≤ (0 : Int32).toInt ∧ (0 : Int32).toInt ≤ 6; rw [z]; decide
    · show 0 ≤ (0 : Int32).toInt ∧ (0 : Int32).toInt ≤ 5; rw [z]; decide
    · show 0 ≤ (0 : Int32).toInt ∧ (0 : Int32).toInt ≤ 5; rw [z]; decide
    · show -1 ≤ (0 : Int32).toInt ∧ (0 : Int32).toInt ≤ 999; rw [z]; decide
