abbrev WX (k : Nat → ClassId) (hX : Nat) (u : zS) : va_W := [((u.2.1 0), .inl (k 0, 40, .inl (u.2.2.2.2.1 0))), ((u.2.1 1), .inl (k 0, 40, .inl (u.2.2.2.2.1 1))), ((u.2.1 2), .inl (k 0, 40, .inl (u.2.2.2.2.1 2))), ((u.2.1 3), .inl (k 0, 40, .inl (u.2.2.2.2.1 3))), ((u.2.1 4), .inl (k 0, 40, .inl (u.2.2.2.2.1 4))), ((u.2.1 5), .inl (k 0, 400, .inl (u.2.2.2.2.1 5))), ((u.2.1 6), .inl (k 0, 60, .inl (u.2.2.2.2.1 6))), ((u.2.1 7), .inl (k 0, 60, .inl (u.2.2.2.2.1 7))), ((u.2.1 8), .inl (k 0, 2, .inl (u.2.2.2.2.1 8))), ((u.2.1 9), .inl (k 0, 120, .inl (u.2.2.2.2.1 9))), ((u.2.1 10), .inl (k 0, 120, .inl (u.2.2.2.2.1 10))), ((u.2.1 11), .inl (k 0, 120, .inl (u.2.2.2.2.1 11))), ((u.2.1 12), .inr (6, [.int (u.2.2.1 0), .ref (u.2.1 0), .ref (u.2.1 1), .ref (u.2.1 2), .ref (u.2.1 3), .ref (u.2.1 4), .int (u.2.2.1 1), .ref (u.2.1 5), .int (u.2.2.1 2), .ref (u.2.1 6), .ref (u.2.1 7), .ref (u.2.1 8), .ref (u.2.1 9), .ref (u.2.1 10), .ref (u.2.1 11)])), ((u.2.1 13), .inl (k 0, 120, .inl (u.2.2.2.2.1 12))), ((u.2.1 14), .inl (k 0, 120, .inl (u.2.2.2.2.1 13))), ((u.2.1 15), .inl (k 0, 120, .inl (u.2.2.2.2.1 14))), ((u.2.1 16), .inl (k 0, 120, .inl (u.2.2.2.2.1 15))), ((u.2.1 17), .inl (k 0, 120, .inl (u.2.2.2.2.1 16))), ((u.2.1 18), .inr (8, [.int (u.2.2.1 3), .ref (u.2.1 13), .ref (u.2.1 14), .ref (u.2.1 15), .ref (u.2.1 16), .ref (u.2.1 17)])), ((u.2.1 19), .inl (k 0, 400, .inl (u.2.2.2.2.1 17))), ((u.2.1 20), .inl (k 0, 400, .inl (u.2.2.2.2.1 18))), ((u.2.1 21), .inl (k 0, 400, .inl (u.2.2.2.2.1 19))), ((u.2.1 22), .inl (k 0, 400, .inl (u.2.2.2.2.1 20))), ((u.2.1 23), .inl (k 0, 400, .inl (u.2.2.2.2.1 21))), ((u.2.1 24), .inl (k 0, 400, .inl (u.2.2.2.2.1 22))), ((u.2.1 25), .inl (k 0, 400, .inl (u.2.2.2.2.1 23))), ((u.2.1 26), .inl (k 0, 400, .inl (u.2.2.2.2.1 24))), ((u.2.1 27), .inl (k 0, 400, .inl (u.2.2.2.2.1 25))), ((u.2.1 28), .inl (k 0, 400, .inl (u.2.2.2.2.1 26))), ((u.2.1 29), .inl (k 0, 400, .inl (u.2.2.2.2.1 27))), ((u.2.1 30), .inl (k 0, 400, .inl (u.2.2.2.2.1 28))), ((u.2.1 31), .inr (5, [.int (u.2.2.1 4), .ref (u.2.1 19), .ref (u.2.1 20), .ref (u.2.1 21), .ref (u.2.1 22), .ref (u.2.1 23), .ref (u.2.1 24), .ref (u.2.1 25), .ref (u.2.1 26), .ref (u.2.1 27), .ref (u.2.1 28), .ref (u.2.1 29), .ref (u.2.1 30), .int (u.2.2.1 5), .int (u.2.2.1 6)])), ((u.2.1 32), .inl (k 3, 20, .inr (.inr (.inr (.inr (u.2.2.2.2.2.2 0)))))), ((u.2.1 33), .inl (k 0, 20, .inl (u.2.2.2.2.1 29))), ((u.2.1 34), .inr (0, [.int (u.2.2.1 7), .ref (u.2.1 32), .ref (u.2.1 33)])), ((u.2.1 35), .inl (k 0, 160, .inl (u.2.2.2.2.1 30))), ((u.2.1 36), .inl (k 0, 160, .inl (u.2.2.2.2.1 31))), ((u.2.1 37), .inl (k 0, 160, .inl (u.2.2.2.2.1 32))), ((u.2.1 38), .inr (9, [.ref (u.2.1 35), .ref (u.2.1 36), .ref (u.2.1 37)])), ((u.2.1 39), .inl (k 0, 6, .inl (u.2.2.2.2.1 33))), ((u.2.1 40), .inl (k 0, 6, .inl (u.2.2.2.2.1 34))), ((u.2.1 41), .inl (k 0, 6, .inl (u.2.2.2.2.1 35))), ((u.2.1 42), .inl (k 0, 9, .inl (u.2.2.2.2.1 36))), ((u.2.1 43), .inl (k 0, 9, .inl (u.2.2.2.2.1 37))), ((u.2.1 44), .inl (k 0, 9, .inl (u.2.2.2.2.1 38))), ((u.2.1 45), .inl (k 0, 12, .inl (u.2.2.2.2.1 39))), ((u.2.1 46), .inl (k 0, 12, .inl (u.2.2.2.2.1 40))), ((u.2.1 47), .inl (k 0, 12, .inl (u.2.2.2.2.1 41))), ((u.2.1 48), .inr (4, [.int (u.2.2.1 8), .ref (u.2.1 39), .int (u.2.2.1 9), .ref (u.2.1 40), .ref (u.2.1 41), .int (u.2.2.1 10), .ref (u.2.1 42), .ref (u.2.1 43), .ref (u.2.1 44), .int (u.2.2.1 11), .ref (u.2.1 45), .ref (u.2.1 46), .ref (u.2.1 47)])), ((u.2.1 49), .inr (3, [.ref (u.2.1 12), .ref (u.2.1 18), .ref (u.2.1 31), .ref (u.2.1 34), .ref (u.2.1 38), .ref (u.2.1 48)])), ((u.2.1 50), .inl (k 0, 400, .inl (u.2.2.2.2.1 42))), ((u.2.1 51), .inl (k 0, 12, .inl (u.2.2.2.2.1 43))), ((u.2.1 52), .inl (k 0, 12, .inl (u.2.2.2.2.1 44))), ((u.2.1 53), .inl (k 0, 25, .inl (u.2.2.2.2.1 45))), ((u.2.1 54), .inl (k 0, 400, .inl (u.2.2.2.2.1 46))), ((u.2.1 55), .inr (7, [.ref (u.2.1 50), .int (u.2.2.1 12), .int (u.2.2.1 13), .int (u.2.2.1 14), .ref (u.2.1 51), .ref (u.2.1 52), .ref (u.2.1 53), .ref (u.2.1 54), .int (u.2.2.1 15), .int (u.2.2.1 16), .int (u.2.2.1 17), .int (u.2.2.1 18), .int (u.2.2.1 19), .int (u.2.2.1 20), .long (u.2.2.2.1 0), .int (u.2.2.1 21)])), ((u.2.1 56), .inl (k 1, 51, .inr (.inl (u.2.2.2.2.2.1 0)))), ((u.2.1 57), .inl (k 0, 20, .inl (u.2.2.2.2.1 47))), ((u.2.1 58), .inl (k 0, 400, .inl (u.2.2.2.2.1 48))), ((u.2.1 59), .inl (k 0, 401, .inl (u.2.2.2.2.1 49))), ((u.2.1 60), .inl (k 0, 401, .inl (u.2.2.2.2.1 50))), ((u.2.1 61), .inl (k 0, 5, .inl (u.2.2.2.2.1 51))), ((u.2.1 62), .inl (k 0, 5, .inl (u.2.2.2.2.1 52))), ((u.2.1 63), .inr (1, [.ref (u.2.1 49), .ref (u.2.1 56), .ref (u.2.1 57), .ref (u.2.1 58), .ref (u.2.1 59), .ref (u.2.1 60), .ref (u.2.1 61), .ref (u.2.1 62), .int (u.2.2.1 22), .int (u.2.2.1 23), .int (u.2.2.1 24), .int (u.2.2.1 25), .int (u.2.2.1 26), .int (u.2.2.1 27), .int (u.2.2.1 28), .int (u.2.2.1 29), .int (u.2.2.1 30), .int (u.2.2.1 31), .int (u.2.2.1 32)])), ((u.2.1 64), .inl (k 0, 6, .inl (u.2.2.2.2.1 53))), ((u.2.1 65), .inl (k 0, 36, .inl (u.2.2.2.2.1 54))), ((u.2.1 66), .inl (k 0, 448, .inl (u.2.2.2.2.1 55))), ((u.2.1 67), .inl (k 0, 448, .inl (u.2.2.2.2.1 56))), ((u.2.1 68), .inl (k 0, 81, .inl (u.2.2.2.2.1 57))), ((u.2.1 69), .inl (k 0, 9, .inl (u.2.2.2.2.1 58))), ((u.2.1 70), .inl (k 0, 4608, .inl (u.2.2.2.2.1 59))), ((u.2.1 71), .inr (2, [.ref (u.2.1 12), .ref (u.2.1 48), .ref (u.2.1 64), .int (u.2.2.1 33), .int (u.2.2.1 34), .ref (u.2.1 65), .ref (u.2.1 66), .ref (u.2.1 67), .int (u.2.2.1 35), .int (u.2.2.1 36), .int (u.2.2.1 37), .ref (u.2.1 68), .ref (u.2.1 69), .ref (u.2.1 70)])), ((u.2.1 72), .inl (k 4, 2, .inr (.inr (.inr (.inr (u.2.2.2.2.2.2 1)))))), (hX, .inr (11, [.ref (u.2.1 49), .ref (u.2.1 72), .ref (u.2.1 55), .ref (u.2.1 63), .ref (u.2.1 71), .int (u.2.2.1 38)]))]
abbrev WM (k : Nat → ClassId) (hM : Nat) (u : zS) : va_W := [((u.2.1 0), .inl (k 0, 27101, .inl (u.2.2.2.2.1 0))), ((u.2.1 1), .inl (k 0, 54202, .inl (u.2.2.2.2.1 1))), ((u.2.1 2), .inl (k 2, 2, .inl (u.2.2.2.2.1 2))), ((u.2.1 3), .inl (k 2, 400, .inl (u.2.2.2.2.1 3))), ((u.2.1 4), .inl (k 0, 400, .inl (u.2.2.2.2.1 4))), ((u.2.1 5), .inl (k 0, 400, .inl (u.2.2.2.2.1 5))), ((u.2.1 6), .inl (k 0, 400, .inl (u.2.2.2.2.1 6))), ((u.2.1 7), .inl (k 0, 400, .inl (u.2.2.2.2.1 7))), ((u.2.1 8), .inl (k 0, 120, .inl (u.2.2.2.2.1 8))), ((u.2.1 9), .inl (k 0, 400, .inl (u.2.2.2.2.1 9))), ((u.2.1 10), .inl (k 0, 400, .inl (u.2.2.2.2.1 10))), ((u.2.1 11), .inl (k 0, 400, .inl (u.2.2.2.2.1 11))), ((u.2.1 12), .inl (k 0, 400, .inl (u.2.2.2.2.1 12))), ((u.2.1 13), .inl (k 2, 20, .inl (u.2.2.2.2.1 13))), ((u.2.1 14), .inl (k 2, 240, .inl (u.2.2.2.2.1 14))), ((u.2.1 15), .inl (k 1, 16, .inr (.inl (u.2.2.2.2.2.1 0)))), ((u.2.1 16), .inl (k 1, 400, .inr (.inl (u.2.2.2.2.2.1 1)))), ((u.2.1 17), .inl (k 0, 401, .inl (u.2.2.2.2.1 15))), ((u.2.1 18), .inl (k 0, 401, .inl (u.2.2.2.2.1 16))), ((u.2.1 19), .inl (k 0, 6, .inl (u.2.2.2.2.1 17))), ((u.2.1 20), .inl (k 0, 6, .inl (u.2.2.2.2.1 18))), ((u.2.1 21), .inl (k 0, 4608, .inl (u.2.2.2.2.1 19))), ((u.2.1 22), .inl (k 0, 5, .inl (u.2.2.2.2.1 20))), ((u.2.1 23), .inl (k 0, 5, .inl (u.2.2.2.2.1 21))), ((u.2.1 24), .inl (k 0, 400, .inl (u.2.2.2.2.1 22))), (hM, .inr (12, [.int (u.2.2.1 0), .int (u.2.2.1 1), .ref (u.2.1 0), .ref (u.2.1 1), .ref (u.2.1 2), .int (u.2.2.1 2), .ref (u.2.1 3), .ref (u.2.1 4), .ref (u.2.1 5), .ref (u.2.1 6), .ref (u.2.1 7), .int (u.2.2.1 3), .int (u.2.2.1 4), .int (u.2.2.1 5), .int (u.2.2.1 6), .long (u.2.2.2.1 0), .int (u.2.2.1 7), .int (u.2.2.1 8), .int (u.2.2.1 9), .ref (u.2.1 8), .int (u.2.2.1 10), .ref (u.2.1 9), .ref (u.2.1 10), .int (u.2.2.1 11), .ref (u.2.1 11), .ref (u.2.1 12), .int (u.2.2.1 12), .int (u.2.2.1 13), .ref (u.2.1 13), .ref (u.2.1 14), .ref (u.2.1 15), .ref (u.2.1 16), .int (u.2.2.1 14), .long (u.2.2.2.1 1), .long (u.2.2.2.1 2), .int (u.2.2.1 15), .int (u.2.2.1 16), .int (u.2.2.1 17), .int (u.2.2.1 18), .ref (u.2.1 17), .ref (u.2.1 18), .int (u.2.2.1 19), .int (u.2.2.1 20), .int (u.2.2.1 21), .int (u.2.2.1 22), .ref (u.2.1 19), .ref (u.2.1 20), .int (u.2.2.1 23), .int (u.2.2.1 24), .ref (u.2.1 21), .ref (u.2.1 22), .ref (u.2.1 23), .ref (u.2.1 24), .int (u.2.2.1 25), .int (u.2.2.1 26), .int (u.2.2.1 27)]))]
abbrev WI (k : Nat → ClassId) (u : zS) : va_W := [((u.2.1 0), .inl (k 0, 40, .inl (u.2.2.2.2.1 0))), ((u.2.1 1), .inl (k 0, 40, .inl (u.2.2.2.2.1 1))), ((u.2.1 2), .inl (k 0, 40, .inl (u.2.2.2.2.1 2))), ((u.2.1 3), .inl (k 0, 40, .inl (u.2.2.2.2.1 3))), ((u.2.1 4), .inl (k 0, 40, .inl (u.2.2.2.2.1 4))), ((u.2.1 5), .inl (k 0, 400, .inl (u.2.2.2.2.1 5))), ((u.2.1 6), .inl (k 0, 60, .inl (u.2.2.2.2.1 6))), ((u.2.1 7), .inl (k 0, 60, .inl (u.2.2.2.2.1 7))), ((u.2.1 8), .inl (k 0, 2, .inl (u.2.2.2.2.1 8))), ((u.2.1 9), .inl (k 0, 120, .inl (u.2.2.2.2.1 9))), ((u.2.1 10), .inl (k 0, 120, .inl (u.2.2.2.2.1 10))), ((u.2.1 11), .inl (k 0, 120, .inl (u.2.2.2.2.1 11))), ((u.2.1 12), .inr (6, [.int (u.2.2.1 0), .ref (u.2.1 0), .ref (u.2.1 1), .ref (u.2.1 2), .ref (u.2.1 3), .ref (u.2.1 4), .int (u.2.2.1 1), .ref (u.2.1 5), .int (u.2.2.1 2), .ref (u.2.1 6), .ref (u.2.1 7), .ref (u.2.1 8), .ref (u.2.1 9), .ref (u.2.1 10), .ref (u.2.1 11)])), ((u.2.1 13), .inl (k 0, 120, .inl (u.2.2.2.2.1 12))), ((u.2.1 14), .inl (k 0, 120, .inl (u.2.2.2.2.1 13))), ((u.2.1 15), .inl (k 0, 120, .inl (u.2.2.2.2.1 14))), ((u.2.1 16), .inl (k 0, 120, .inl (u.2.2.2.2.1 15))), ((u.2.1 17), .inl (k 0, 120, .inl (u.2.2.2.2.1 16))), ((u.2.1 18), .inr (8, [.int (u.2.2.1 3), .ref (u.2.1 13), .ref (u.2.1 14), .ref (u.2.1 15), .ref (u.2.1 16), .ref (u.2.1 17)])), ((u.2.1 19), .inl (k 0, 400, .inl (u.2.2.2.2.1 17))), ((u.2.1 20), .inl (k 0, 400, .inl (u.2.2.2.2.1 18))), ((u.2.1 21), .inl (k 0, 400, .inl (u.2.2.2.2.1 19))), ((u.2.1 22), .inl (k 0, 400, .inl (u.2.2.2.2.1 20))), ((u.2.1 23), .inl (k 0, 400, .inl (u.2.2.2.2.1 21))), ((u.2.1 24), .inl (k 0, 400, .inl (u.2.2.2.2.1 22))), ((u.2.1 25), .inl (k 0, 400, .inl (u.2.2.2.2.1 23))), ((u.2.1 26), .inl (k 0, 400, .inl (u.2.2.2.2.1 24))), ((u.2.1 27), .inl (k 0, 400, .inl (u.2.2.2.2.1 25))), ((u.2.1 28), .inl (k 0, 400, .inl (u.2.2.2.2.1 26))), ((u.2.1 29), .inl (k 0, 400, .inl (u.2.2.2.2.1 27))), ((u.2.1 30), .inl (k 0, 400, .inl (u.2.2.2.2.1 28))), ((u.2.1 31), .inr (5, [.int (u.2.2.1 4), .ref (u.2.1 19), .ref (u.2.1 20), .ref (u.2.1 21), .ref (u.2.1 22), .ref (u.2.1 23), .ref (u.2.1 24), .ref (u.2.1 25), .ref (u.2.1 26), .ref (u.2.1 27), .ref (u.2.1 28), .ref (u.2.1 29), .ref (u.2.1 30), .int (u.2.2.1 5), .int (u.2.2.1 6)])), ((u.2.1 32), .inl (k 3, 20, .inr (.inr (.inr (.inr (u.2.2.2.2.2.2 0)))))), ((u.2.1 33), .inl (k 0, 20, .inl (u.2.2.2.2.1 29))), ((u.2.1 34), .inr (0, [.int (u.2.2.1 7), .ref (u.2.1 32), .ref (u.2.1 33)])), ((u.2.1 35), .inl (k 0, 160, .inl (u.2.2.2.2.1 30))), ((u.2.1 36), .inl (k 0, 160, .inl (u.2.2.2.2.1 31))), ((u.2.1 37), .inl (k 0, 160, .inl (u.2.2.2.2.1 32))), ((u.2.1 38), .inr (9, [.ref (u.2.1 35), .ref (u.2.1 36), .ref (u.2.1 37)])), ((u.2.1 39), .inl (k 0, 6, .inl (u.2.2.2.2.1 33))), ((u.2.1 40), .inl (k 0, 6, .inl (u.2.2.2.2.1 34))), ((u.2.1 41), .inl (k 0, 6, .inl (u.2.2.2.2.1 35))), ((u.2.1 42), .inl (k 0, 9, .inl (u.2.2.2.2.1 36))), ((u.2.1 43), .inl (k 0, 9, .inl (u.2.2.2.2.1 37))), ((u.2.1 44), .inl (k 0, 9, .inl (u.2.2.2.2.1 38))), ((u.2.1 45), .inl (k 0, 12, .inl (u.2.2.2.2.1 39))), ((u.2.1 46), .inl (k 0, 12, .inl (u.2.2.2.2.1 40))), ((u.2.1 47), .inl (k 0, 12, .inl (u.2.2.2.2.1 41))), ((u.2.1 48), .inr (4, [.int (u.2.2.1 8), .ref (u.2.1 39), .int (u.2.2.1 9), .ref (u.2.1 40), .ref (u.2.1 41), .int (u.2.2.1 10), .ref (u.2.1 42), .ref (u.2.1 43), .ref (u.2.1 44), .int (u.2.2.1 11), .ref (u.2.1 45), .ref (u.2.1 46), .ref (u.2.1 47)])), ((u.2.1 49), .inr (3, [.ref (u.2.1 12), .ref (u.2.1 18), .ref (u.2.1 31), .ref (u.2.1 34), .ref (u.2.1 38), .ref (u.2.1 48)]))]
def LX (k : Nat → ClassId) (T : zTy) (u : zS) : Prop := zR (u.2.2.2.2.1 0) 0 18 ∧ zR (u.2.2.2.2.1 1) 0 1 ∧ zR (u.2.2.2.2.1 2) (-1) 7 ∧ zR (u.2.2.2.2.1 3) 0 99 ∧ zR (u.2.2.2.2.1 4) 0 99 ∧ zR (u.2.2.2.2.1 6) 0 7 ∧ zR (u.2.2.2.2.1 7) 0 799 ∧ zR (u.2.2.2.2.1 8) 0 60 ∧ zR (u.2.2.2.2.1 9) 0 39 ∧ zR (u.2.2.2.2.1 10) 0 399 ∧ zR (u.2.2.2.2.1 11) 0 399 ∧ (0 ≤ Int32.toInt (u.2.2.1 0) ∧ Int32.toInt (u.2.2.1 0) ≤ 40) ∧ (0 ≤ Int32.toInt (u.2.2.1 1) ∧ Int32.toInt (u.2.2.1 1) ≤ 5) ∧ (0 ≤ Int32.toInt (u.2.2.1 2) ∧ Int32.toInt (u.2.2.1 2) ≤ 60) ∧ zR (u.2.2.2.2.1 12) 0 39 ∧ zR (u.2.2.2.2.1 13) 0 4 ∧ zR (u.2.2.2.2.1 14) 0 399 ∧ zR (u.2.2.2.2.1 15) 0 400 ∧ zR (u.2.2.2.2.1 16) (-1) 4 ∧ (0 ≤ Int32.toInt (u.2.2.1 3) ∧ Int32.toInt (u.2.2.1 3) ≤ 120) ∧ zR (u.2.2.2.2.1 17) 0 4 ∧ zR (u.2.2.2.2.1 18) 0 39 ∧ zR (u.2.2.2.2.1 19) 0 799 ∧ zR (u.2.2.2.2.1 25) (-1) 399 ∧ (0 ≤ Int32.toInt (u.2.2.1 4) ∧ Int32.toInt (u.2.2.1 4) ≤ 400) ∧ zRo k T (u.2.2.2.2.2.2 0) ∧ (0 ≤ Int32.toInt (u.2.2.1 7) ∧ Int32.toInt (u.2.2.1 7) ≤ 20) ∧ zR (u.2.2.2.2.1 30) (-1) 399 ∧ zR (u.2.2.2.2.1 33) 0 99999999 ∧ zR (u.2.2.2.2.1 35) 0 99999999 ∧ zR (u.2.2.2.2.1 36) 0 39 ∧ zR (u.2.2.2.2.1 40) 0 1 ∧ (0 ≤ Int32.toInt (u.2.2.1 8) ∧ Int32.toInt (u.2.2.1 8) ≤ 6) ∧ (0 ≤ Int32.toInt (u.2.2.1 9) ∧ Int32.toInt (u.2.2.1 9) ≤ 6) ∧ (0 ≤ Int32.toInt (u.2.2.1 10) ∧ Int32.toInt (u.2.2.1 10) ≤ 9) ∧ (0 ≤ Int32.toInt (u.2.2.1 11) ∧ Int32.toInt (u.2.2.1 11) ≤ 12) ∧ zR (u.2.2.2.2.1 42) 0 255 ∧ zR (u.2.2.2.2.1 44) 0 400 ∧ zR (u.2.2.2.2.1 45) 0 400 ∧ (0 ≤ Int32.toInt (u.2.2.1 12) ∧ Int32.toInt (u.2.2.1 12) ≤ 400) ∧ (0 ≤ Int32.toInt (u.2.2.1 14) ∧ Int32.toInt (u.2.2.1 14) ≤ 12) ∧ (0 ≤ Int32.toInt (u.2.2.1 15) ∧ Int32.toInt (u.2.2.1 15) ≤ 400) ∧ (0 ≤ Int32.toInt (u.2.2.1 16) ∧ Int32.toInt (u.2.2.1 16) ≤ 50) ∧ (0 ≤ Int32.toInt (u.2.2.1 18) ∧ Int32.toInt (u.2.2.1 18) ≤ 400) ∧ (0 ≤ Int32.toInt (u.2.2.1 19) ∧ Int32.toInt (u.2.2.1 19) ≤ 400) ∧ (0 ≤ Int32.toInt (u.2.2.1 20) ∧ Int32.toInt (u.2.2.1 20) ≤ 10001) ∧ (0 ≤ Int32.toInt (u.2.2.1 22) ∧ Int32.toInt (u.2.2.1 22) ≤ 39) ∧ (0 ≤ Int32.toInt (u.2.2.1 23) ∧ Int32.toInt (u.2.2.1 23) ≤ 799) ∧ (0 ≤ Int32.toInt (u.2.2.1 26) ∧ Int32.toInt (u.2.2.1 26) ≤ 1) ∧ (0 ≤ Int32.toInt (u.2.2.1 32) ∧ Int32.toInt (u.2.2.1 32) ≤ 400) ∧ zR (u.2.2.2.2.1 53) (-1) 5 ∧ (0 ≤ Int32.toInt (u.2.2.1 33) ∧ Int32.toInt (u.2.2.1 33) ≤ 6)
def LM (u : zS) : Prop := zRw (u.2.2.2.2.1 0) ∧ zRi (u.2.2.2.2.1 1) ∧ zR (u.2.2.2.2.1 7) 0 255 ∧ zR (u.2.2.2.2.1 11) 0 31 ∧ zR (u.2.2.2.2.1 12) 0 399 ∧ zR (u.2.2.2.2.1 18) (-1) 6 ∧ (0 ≤ Int32.toInt (u.2.2.1 3) ∧ Int32.toInt (u.2.2.1 3) ≤ 400) ∧ (0 ≤ Int32.toInt (u.2.2.1 4) ∧ Int32.toInt (u.2.2.1 4) ≤ 400) ∧ (0 ≤ Int32.toInt (u.2.2.1 5) ∧ Int32.toInt (u.2.2.1 5) ≤ 400) ∧ (0 ≤ Int32.toInt (u.2.2.1 6) ∧ Int32.toInt (u.2.2.1 6) ≤ 3) ∧ (0 ≤ Int32.toInt (u.2.2.1 8) ∧ Int32.toInt (u.2.2.1 8) ≤ 1) ∧ (0 ≤ Int32.toInt (u.2.2.1 9) ∧ Int32.toInt (u.2.2.1 9) ≤ 12) ∧ (0 ≤ Int32.toInt (u.2.2.1 10) ∧ Int32.toInt (u.2.2.1 10) ≤ 400) ∧ (0 ≤ Int32.toInt (u.2.2.1 11) ∧ Int32.toInt (u.2.2.1 11) ≤ 50) ∧ (0 ≤ Int32.toInt (u.2.2.1 12) ∧ Int32.toInt (u.2.2.1 12) ≤ 400) ∧ (0 ≤ Int32.toInt (u.2.2.1 14) ∧ Int32.toInt (u.2.2.1 14) ≤ 1) ∧ (0 ≤ Int32.toInt (u.2.2.1 15) ∧ Int32.toInt (u.2.2.1 15) ≤ 400) ∧ (0 ≤ Int32.toInt (u.2.2.1 17) ∧ Int32.toInt (u.2.2.1 17) ≤ 400) ∧ (0 ≤ Int32.toInt (u.2.2.1 18) ∧ Int32.toInt (u.2.2.1 18) ≤ 400) ∧ (0 ≤ Int32.toInt (u.2.2.1 20) ∧ Int32.toInt (u.2.2.1 20) ≤ 1) ∧ (0 ≤ Int32.toInt (u.2.2.1 21) ∧ Int32.toInt (u.2.2.1 21) ≤ 6)
def LI (k : Nat → ClassId) (T : zTy) (u : zS) : Prop := zR (u.2.2.2.2.1 0) 0 18 ∧ zR (u.2.2.2.2.1 1) 0 1 ∧ zR (u.2.2.2.2.1 2) (-1) 7 ∧ zR (u.2.2.2.2.1 3) 0 99 ∧ zR (u.2.2.2.2.1 4) 0 99 ∧ zR (u.2.2.2.2.1 6) 0 7 ∧ zR (u.2.2.2.2.1 7) 0 799 ∧ zR (u.2.2.2.2.1 8) 0 60 ∧ zR (u.2.2.2.2.1 9) 0 39 ∧ zR (u.2.2.2.2.1 10) 0 399 ∧ zR (u.2.2.2.2.1 11) 0 399 ∧ (0 ≤ Int32.toInt (u.2.2.1 0) ∧ Int32.toInt (u.2.2.1 0) ≤ 40) ∧ (0 ≤ Int32.toInt (u.2.2.1 1) ∧ Int32.toInt (u.2.2.1 1) ≤ 5) ∧ (0 ≤ Int32.toInt (u.2.2.1 2) ∧ Int32.toInt (u.2.2.1 2) ≤ 60) ∧ zR (u.2.2.2.2.1 12) 0 39 ∧ zR (u.2.2.2.2.1 13) 0 4 ∧ zR (u.2.2.2.2.1 14) 0 399 ∧ zR (u.2.2.2.2.1 15) 0 400 ∧ zR (u.2.2.2.2.1 16) (-1) 4 ∧ (0 ≤ Int32.toInt (u.2.2.1 3) ∧ Int32.toInt (u.2.2.1 3) ≤ 120) ∧ zR (u.2.2.2.2.1 17) 0 4 ∧ zR (u.2.2.2.2.1 18) 0 39 ∧ zR (u.2.2.2.2.1 19) 0 799 ∧ zR (u.2.2.2.2.1 25) (-1) 399 ∧ (0 ≤ Int32.toInt (u.2.2.1 4) ∧ Int32.toInt (u.2.2.1 4) ≤ 400) ∧ zRo k T (u.2.2.2.2.2.2 0) ∧ (0 ≤ Int32.toInt (u.2.2.1 7) ∧ Int32.toInt (u.2.2.1 7) ≤ 20) ∧ zR (u.2.2.2.2.1 30) (-1) 399 ∧ zR (u.2.2.2.2.1 33) 0 99999999 ∧ zR (u.2.2.2.2.1 35) 0 99999999 ∧ zR (u.2.2.2.2.1 36) 0 39 ∧ zR (u.2.2.2.2.1 40) 0 1 ∧ (0 ≤ Int32.toInt (u.2.2.1 8) ∧ Int32.toInt (u.2.2.1 8) ≤ 6) ∧ (0 ≤ Int32.toInt (u.2.2.1 9) ∧ Int32.toInt (u.2.2.1 9) ≤ 6) ∧ (0 ≤ Int32.toInt (u.2.2.1 10) ∧ Int32.toInt (u.2.2.1 10) ≤ 9) ∧ (0 ≤ Int32.toInt (u.2.2.1 11) ∧ Int32.toInt (u.2.2.1 11) ≤ 12)
def zIm (k : Nat → ClassId) (T : zTy) (o : Nat → Option Nat) (Z : va_W) : Prop := ∃ (P : va_W) (uA uB : zS), (∀ pw : va_W, T.1 pw → ∀ q : Nat × va_E, q ∈ pw → q ∈ P) ∧ (((o 0 = none ∧ o 1 = none) ∧ Z = P) ∨ ((o 0 = some (uA.2.1 49) ∧ o 1 = none) ∧ LI k T uA ∧ Z = WI k uA ++ P) ∨ ((o 0 = none ∧ o 1 = some (uB.2.1 49)) ∧ LI k T uB ∧ Z = WI k uB ++ P) ∨ ((o 0 = some (uA.2.1 49) ∧ o 1 = some (uB.2.1 49)) ∧ LI k T uA ∧ LI k T uB ∧ Z = WI k uA ++ (WI k uB ++ P)))
theorem z_mvP {D : va_G} {cl : List vw_C} {a b c : va_W} {H : Heap} (h : va_P D cl (a ++ (b ++ c)) H) : va_P D cl (b ++ (a ++ c)) H := by
  have h1 : va_P D cl (([] ++ a) ++ (b ++ c)) H := h
  have h2 : va_P D cl (([] ++ (b ++ c)) ++ a) H := va_P.swap h1
  have h3 : va_P D cl ((b ++ c) ++ a) H := h2
  exact z_saP (va_P.swap h3)
theorem z_mvD {A : Nat → Prop} {a b c : va_W} (h : va_D A (a ++ (b ++ c))) : va_D A (b ++ (a ++ c)) := by
  have h1 : va_D A (([] ++ a) ++ (b ++ c)) := h
  have h2 : va_D A (([] ++ (b ++ c)) ++ a) := va_D.swap h1
  have h3 : va_D A ((b ++ c) ++ a) := h2
  exact z_saD (va_D.swap h3)
theorem z_rP {D : va_G} {cl : List vw_C} {a b c d : va_W} {H : Heap} (h : va_P D cl (a ++ (b ++ (c ++ d))) H) : va_P D cl (a ++ ((b ++ c) ++ d)) H := by rw [List.append_assoc b c d]; exact h
theorem z_cP {D : va_G} {cl : List vw_C} {a b c d : va_W} {H : Heap} (h : va_P D cl (a ++ ((b ++ c) ++ d)) H) : va_P D cl (a ++ (b ++ (c ++ d))) H := by rw [List.append_assoc b c d] at h; exact h
theorem z_cD {A : Nat → Prop} {a b c d : va_W} (h : va_D A (a ++ ((b ++ c) ++ d))) : va_D A (a ++ (b ++ (c ++ d))) := by rw [List.append_assoc b c d] at h; exact h
theorem z_rD {A : Nat → Prop} {a b c d : va_W} (h : va_D A (a ++ (b ++ (c ++ d)))) : va_D A (a ++ ((b ++ c) ++ d)) := by rw [List.append_assoc b c d]; exact h
theorem z_qP {D : va_G} {cl : List vw_C} {a b c d : va_W} {H : Heap} (h : va_P D cl (a ++ ((b ++ c) ++ d)) H) : va_P D cl (a ++ (b ++ (c ++ d))) H := by rw [List.append_assoc b c d] at h; exact h
theorem z_qD {A : Nat → Prop} {a b c d : va_W} (h : va_D A (a ++ ((b ++ c) ++ d))) : va_D A (a ++ (b ++ (c ++ d))) := by rw [List.append_assoc b c d] at h; exact h
def zU {α : Type} (f : Nat → α) (i : Nat) (v : α) : Nat → α := fun j => cond (Nat.beq j i) v (f j)
def zKp (o : Nat → Option Nat) (f : Nat → Int32) : Prop := (o 0 = none ↔ f 0 = 0) ∧ (o 1 = none ↔ f 1 = 0)
theorem zKp_at {f : Nat → Int32} {k : Int32} (j : Nat) (hk : Int32.toInt k = (j : Int)) : f (Int32.toNatClampNeg k) = f j := by
  have h := z_cl (x := k) (by omega)
  rw [show Int32.toNatClampNeg k = j by omega]
theorem zKp_s {f g : Nat → Int32} {k : Int32} (j : Nat) (hk : Int32.toInt k = (j : Int)) (e : g = upd f (Int32.toNatClampNeg k) (vp_nar .boolean 1)) : g j ≠ 0 := by
  have h := z_cl (x := k) (by omega)
  rw [e, show j = Int32.toNatClampNeg k by omega, pk_us]
  decide
theorem zKp_u {f g : Nat → Int32} {k : Int32} (j : Nat) (h : f j ≠ 0) (e : g = upd f (Int32.toNatClampNeg k) (vp_nar .boolean 1)) : g j ≠ 0 := by
  rw [e]
  by_cases q : j = Int32.toNatClampNeg k
  · rw [q, pk_us]; decide
  · rw [pk_un q]; exact h
theorem zKp_n {f g : Nat → Int32} {k : Int32} (j : Nat) (hk : 0 ≤ Int32.toInt k ∧ Int32.toInt k ≠ (j : Int)) (h : f j = 0) (e : g = upd f (Int32.toNatClampNeg k) (vp_nar .boolean 1)) : g j = 0 := by
  have h1 := z_cl hk.1
  rw [e, pk_un (by omega)]
  exact h
theorem zKp_p {o : Nat → Option Nat} {f : Nat → Int32} {j a : Nat} (h : o j = some a) (hn : f j ≠ 0) : o j = none ↔ f j = 0 := ⟨fun q => (by rw [h] at q; cases q), fun q => absurd q hn⟩
theorem zKp_a {o : Nat → Option Nat} {f : Nat → Int32} {j : Nat} (h : o j = none) (h0 : f j = 0) : o j = none ↔ f j = 0 := ⟨fun _ => h0, fun _ => h⟩
theorem zKp_ne {o : Nat → Option Nat} {f : Nat → Int32} {j a : Nat} (h : o j = none ↔ f j = 0) (e : o j = some a) : f j ≠ 0 := fun q => by rw [h.mpr q] at e; cases e
def zI (k : Nat → ClassId) (tb : Nat → Nat) (T : zTy) (Z : va_W) (uX uM : zS) : Prop := T.2 = tb ∧ LX k T uX ∧ LM uM ∧ zKp (uX.2.2.2.2.2.2 1) (uM.2.2.2.2.1 2) ∧ zIm k T (uX.2.2.2.2.2.2 1) Z
theorem LXp_0 {k : Nat → ClassId} {T : zTy} {u : zS} (h : LX k T u) : zR (u.2.2.2.2.1 0) 0 18 := h.1
theorem LXp_1 {k : Nat → ClassId} {T : zTy} {u : zS} (h : LX k T u) : zR (u.2.2.2.2.1 1) 0 1 := h.2.1
theorem LXp_2 {k : Nat → ClassId} {T : zTy} {u : zS} (h : LX k T u) : zR (u.2.2.2.2.1 2) (-1) 7 := h.2.2.1
theorem LXp_3 {k : Nat → ClassId} {T : zTy} {u : zS} (h : LX k T u) : zR (u.2.2.2.2.1 3) 0 99 := h.2.2.2.1
theorem LXp_4 {k : Nat → ClassId} {T : zTy} {u : zS} (h : LX k T u) : zR (u.2.2.2.2.1 4) 0 99 := h.2.2.2.2.1
theorem LXp_5 {k : Nat → ClassId} {T : zTy} {u : zS} (h : LX k T u) : zR (u.2.2.2.2.1 6) 0 7 := h.2.2.2.2.2.1
theorem LXp_6 {k : Nat → ClassId} {T : zTy} {u : zS} (h : LX k T u) : zR (u.2.2.2.2.1 7) 0 799 := h.2.2.2.2.2.2.1
theorem LXp_7 {k : Nat → ClassId} {T : zTy} {u : zS} (h : LX k T u) : zR (u.2.2.2.2.1 8) 0 60 := h.2.2.2.2.2.2.2.1
theorem LXp_8 {k : Nat → ClassId} {T : zTy} {u : zS} (h : LX k T u) : zR (u.2.2.2.2.1 9) 0 39 := h.2.2.2.2.2.2.2.2.1
theorem LXp_9 {k : Nat → ClassId} {T : zTy} {u : zS} (h : LX k T u) : zR (u.2.2.2.2.1 10) 0 399 := h.2.2.2.2.2.2.2.2.2.1
theorem LXp_10 {k : Nat → ClassId} {T : zTy} {u : zS} (h : LX k T u) : zR (u.2.2.2.2.1 11) 0 399 := h.2.2.2.2.2.2.2.2.2.2.1
theorem LXp_11 {k : Nat → ClassId} {T : zTy} {u : zS} (h : LX k T u) : (0 ≤ Int32.toInt (u.2.2.1 0) ∧ Int32.toInt (u.2.2.1 0) ≤ 40) := h.2.2.2.2.2.2.2.2.2.2.2.1
theorem LXp_12 {k : Nat → ClassId} {T : zTy} {u : zS} (h : LX k T u) : (0 ≤ Int32.toInt (u.2.2.1 1) ∧ Int32.toInt (u.2.2.1 1) ≤ 5) := h.2.2.2.2.2.2.2.2.2.2.2.2.1
theorem LXp_13 {k : Nat → ClassId} {T : zTy} {u : zS} (h : LX k T u) : (0 ≤ Int32.toInt (u.2.2.1 2) ∧ Int32.toInt (u.2.2.1 2) ≤ 60) := h.2.2.2.2.2.2.2.2.2.2.2.2.2.1
theorem LXp_14 {k : Nat → ClassId} {T : zTy} {u : zS} (h : LX k T u) : zR (u.2.2.2.2.1 12) 0 39 := h.2.2.2.2.2.2.2.2.2.2.2.2.2.2.1
theorem LXp_15 {k : Nat → ClassId} {T : zTy} {u : zS} (h : LX k T u) : zR (u.2.2.2.2.1 13) 0 4 := h.2.2.2.2.2.2.2.2.2.2.2.2.2.2.2.1
theorem LXp_16 {k : Nat → ClassId} {T : zTy} {u : zS} (h : LX k T u) : zR (u.2.2.2.2.1 14) 0 399 := h.2.2.2.2.2.2.2.2.2.2.2.2.2.2.2.2.1
theorem LXp_17 {k : Nat → ClassId} {T : zTy} {u : zS} (h : LX k T u) : zR (u.2.2.2.2.1 15) 0 400 := h.2.2.2.2.2.2.2.2.2.2.2.2.2.2.2.2.2.1
theorem LXp_18 {k : Nat → ClassId} {T : zTy} {u : zS} (h : LX k T u) : zR (u.2.2.2.2.1 16) (-1) 4 := h.2.2.2.2.2.2.2.2.2.2.2.2.2.2.2.2.2.2.1
theorem LXp_19 {k : Nat → ClassId} {T : zTy} {u : zS} (h : LX k T u) : (0 ≤ Int32.toInt (u.2.2.1 3) ∧ Int32.toInt (u.2.2.1 3) ≤ 120) := h.2.2.2.2.2.2.2.2.2.2.2.2.2.2.2.2.2.2.2.1
theorem LXp_20 {k : Nat → ClassId} {T : zTy} {u : zS} (h : LX k T u) : zR (u.2.2.2.2.1 17) 0 4 := h.2.2.2.2.2.2.2.2.2.2.2.2.2.2.2.2.2.2.2.2.1
theorem LXp_21 {k : Nat → ClassId} {T : zTy} {u : zS} (h : LX k T u) : zR (u.2.2.2.2.1 18) 0 39 := h.2.2.2.2.2.2.2.2.2.2.2.2.2.2.2.2.2.2.2.2.2.1
theorem LXp_22 {k : Nat → ClassId} {T : zTy} {u : zS} (h : LX k T u) : zR (u.2.2.2.2.1 19) 0 799 := h.2.2.2.2.2.2.2.2.2.2.2.2.2.2.2.2.2.2.2.2.2.2.1
theorem LXp_23 {k : Nat → ClassId} {T : zTy} {u : zS} (h : LX k T u) : zR (u.2.2.2.2.1 25) (-1) 399 := h.2.2.2.2.2.2.2.2.2.2.2.2.2.2.2.2.2.2.2.2.2.2.2.1
theorem LXp_24 {k : Nat → ClassId} {T : zTy} {u : zS} (h : LX k T u) : (0 ≤ Int32.toInt (u.2.2.1 4) ∧ Int32.toInt (u.2.2.1 4) ≤ 400) := h.2.2.2.2.2.2.2.2.2.2.2.2.2.2.2.2.2.2.2.2.2.2.2.2.1
theorem LXp_25 {k : Nat → ClassId} {T : zTy} {u : zS} (h : LX k T u) : zRo k T (u.2.2.2.2.2.2 0) := h.2.2.2.2.2.2.2.2.2.2.2.2.2.2.2.2.2.2.2.2.2.2.2.2.2.1
theorem LXp_26 {k : Nat → ClassId} {T : zTy} {u : zS} (h : LX k T u) : (0 ≤ Int32.toInt (u.2.2.1 7) ∧ Int32.toInt (u.2.2.1 7) ≤ 20) := h.2.2.2.2.2.2.2.2.2.2.2.2.2.2.2.2.2.2.2.2.2.2.2.2.2.2.1
theorem LXp_27 {k : Nat → ClassId} {T : zTy} {u : zS} (h : LX k T u) : zR (u.2.2.2.2.1 30) (-1) 399 := h.2.2.2.2.2.2.2.2.2.2.2.2.2.2.2.2.2.2.2.2.2.2.2.2.2.2.2.1
theorem LXp_28 {k : Nat → ClassId} {T : zTy} {u : zS} (h : LX k T u) : zR (u.2.2.2.2.1 33) 0 99999999 := h.2.2.2.2.2.2.2.2.2.2.2.2.2.2.2.2.2.2.2.2.2.2.2.2.2.2.2.2.1
theorem LXp_29 {k : Nat → ClassId} {T : zTy} {u : zS} (h : LX k T u) : zR (u.2.2.2.2.1 35) 0 99999999 := h.2.2.2.2.2.2.2.2.2.2.2.2.2.2.2.2.2.2.2.2.2.2.2.2.2.2.2.2.2.1
theorem LXp_30 {k : Nat → ClassId} {T : zTy} {u : zS} (h : LX k T u) : zR (u.2.2.2.2.1 36) 0 39 := h.2.2.2.2.2.2.2.2.2.2.2.2.2.2.2.2.2.2.2.2.2.2.2.2.2.2.2.2.2.2.1
theorem LXp_31 {k : Nat → ClassId} {T : zTy} {u : zS} (h : LX k T u) : zR (u.2.2.2.2.1 40) 0 1 := h.2.2.2.2.2.2.2.2.2.2.2.2.2.2.2.2.2.2.2.2.2.2.2.2.2.2.2.2.2.2.2.1
theorem LXp_32 {k : Nat → ClassId} {T : zTy} {u : zS} (h : LX k T u) : (0 ≤ Int32.toInt (u.2.2.1 8) ∧ Int32.toInt (u.2.2.1 8) ≤ 6) := h.2.2.2.2.2.2.2.2.2.2.2.2.2.2.2.2.2.2.2.2.2.2.2.2.2.2.2.2.2.2.2.2.1
theorem LXp_33 {k : Nat → ClassId} {T : zTy} {u : zS} (h : LX k T u) : (0 ≤ Int32.toInt (u.2.2.1 9) ∧ Int32.toInt (u.2.2.1 9) ≤ 6) := h.2.2.2.2.2.2.2.2.2.2.2.2.2.2.2.2.2.2.2.2.2.2.2.2.2.2.2.2.2.2.2.2.2.1
theorem LXp_34 {k : Nat → ClassId} {T : zTy} {u : zS} (h : LX k T u) : (0 ≤ Int32.toInt (u.2.2.1 10) ∧ Int32.toInt (u.2.2.1 10) ≤ 9) := h.2.2.2.2.2.2.2.2.2.2.2.2.2.2.2.2.2.2.2.2.2.2.2.2.2.2.2.2.2.2.2.2.2.2.1
theorem LXp_35 {k : Nat → ClassId} {T : zTy} {u : zS} (h : LX k T u) : (0 ≤ Int32.toInt (u.2.2.1 11) ∧ Int32.toInt (u.2.2.1 11) ≤ 12) := h.2.2.2.2.2.2.2.2.2.2.2.2.2.2.2.2.2.2.2.2.2.2.2.2.2.2.2.2.2.2.2.2.2.2.2.1
theorem LXp_36 {k : Nat → ClassId} {T : zTy} {u : zS} (h : LX k T u) : zR (u.2.2.2.2.1 42) 0 255 := h.2.2.2.2.2.2.2.2.2.2.2.2.2.2.2.2.2.2.2.2.2.2.2.2.2.2.2.2.2.2.2.2.2.2.2.2.1
theorem LXp_37 {k : Nat → ClassId} {T : zTy} {u : zS} (h : LX k T u) : zR (u.2.2.2.2.1 44) 0 400 := h.2.2.2.2.2.2.2.2.2.2.2.2.2.2.2.2.2.2.2.2.2.2.2.2.2.2.2.2.2.2.2.2.2.2.2.2.2.1
theorem LXp_38 {k : Nat → ClassId} {T : zTy} {u : zS} (h : LX k T u) : zR (u.2.2.2.2.1 45) 0 400 := h.2.2.2.2.2.2.2.2.2.2.2.2.2.2.2.2.2.2.2.2.2.2.2.2.2.2.2.2.2.2.2.2.2.2.2.2.2.2.1
theorem LXp_39 {k : Nat → ClassId} {T : zTy} {u : zS} (h : LX k T u) : (0 ≤ Int32.toInt (u.2.2.1 12) ∧ Int32.toInt (u.2.2.1 12) ≤ 400) := h.2.2.2.2.2.2.2.2.2.2.2.2.2.2.2.2.2.2.2.2.2.2.2.2.2.2.2.2.2.2.2.2.2.2.2.2.2.2.2.1
theorem LXp_40 {k : Nat → ClassId} {T : zTy} {u : zS} (h : LX k T u) : (0 ≤ Int32.toInt (u.2.2.1 14) ∧ Int32.toInt (u.2.2.1 14) ≤ 12) := h.2.2.2.2.2.2.2.2.2.2.2.2.2.2.2.2.2.2.2.2.2.2.2.2.2.2.2.2.2.2.2.2.2.2.2.2.2.2.2.2.1
theorem LXp_41 {k : Nat → ClassId} {T : zTy} {u : zS} (h : LX k T u) : (0 ≤ Int32.toInt (u.2.2.1 15) ∧ Int32.toInt (u.2.2.1 15) ≤ 400) := h.2.2.2.2.2.2.2.2.2.2.2.2.2.2.2.2.2.2.2.2.2.2.2.2.2.2.2.2.2.2.2.2.2.2.2.2.2.2.2.2.2.1
theorem LXp_42 {k : Nat → ClassId} {T : zTy} {u : zS} (h : LX k T u) : (0 ≤ Int32.toInt (u.2.2.1 16) ∧ Int32.toInt (u.2.2.1 16) ≤ 50) := h.2.2.2.2.2.2.2.2.2.2.2.2.2.2.2.2.2.2.2.2.2.2.2.2.2.2.2.2.2.2.2.2.2.2.2.2.2.2.2.2.2.2.1
theorem LXp_43 {k : Nat → ClassId} {T : zTy} {u : zS} (h : LX k T u) : (0 ≤ Int32.toInt (u.2.2.1 18) ∧ Int32.toInt (u.2.2.1 18) ≤ 400) := h.2.2.2.2.2.2.2.2.2.2.2.2.2.2.2.2.2.2.2.2.2.2.2.2.2.2.2.2.2.2.2.2.2.2.2.2.2.2.2.2.2.2.2.1
theorem LXp_44 {k : Nat → ClassId} {T : zTy} {u : zS} (h : LX k T u) : (0 ≤ Int32.toInt (u.2.2.1 19) ∧ Int32.toInt (u.2.2.1 19) ≤ 400) := h.2.2.2.2.2.2.2.2.2.2.2.2.2.2.2.2.2.2.2.2.2.2.2.2.2.2.2.2.2.2.2.2.2.2.2.2.2.2.2.2.2.2.2.2.1
theorem LXp_45 {k : Nat → ClassId} {T : zTy} {u : zS} (h : LX k T u) : (0 ≤ Int32.toInt (u.2.2.1 20) ∧ Int32.toInt (u.2.2.1 20) ≤ 10001) := h.2.2.2.2.2.2.2.2.2.2.2.2.2.2.2.2.2.2.2.2.2.2.2.2.2.2.2.2.2.2.2.2.2.2.2.2.2.2.2.2.2.2.2.2.2.1
theorem LXp_46 {k : Nat → ClassId} {T : zTy} {u : zS} (h : LX k T u) : (0 ≤ Int32.toInt (u.2.2.1 22) ∧ Int32.toInt (u.2.2.1 22) ≤ 39) := h.2.2.2.2.2.2.2.2.2.2.2.2.2.2.2.2.2.2.2.2.2.2.2.2.2.2.2.2.2.2.2.2.2.2.2.2.2.2.2.2.2.2.2.2.2.2.1
theorem LXp_47 {k : Nat → ClassId} {T : zTy} {u : zS} (h : LX k T u) : (0 ≤ Int32.toInt (u.2.2.1 23) ∧ Int32.toInt (u.2.2.1 23) ≤ 799) := h.2.2.2.2.2.2.2.2.2.2.2.2.2.2.2.2.2.2.2.2.2.2.2.2.2.2.2.2.2.2.2.2.2.2.2.2.2.2.2.2.2.2.2.2.2.2.2.1
theorem LXp_48 {k : Nat → ClassId} {T : zTy} {u : zS} (h : LX k T u) : (0 ≤ Int32.toInt (u.2.2.1 26) ∧ Int32.toInt (u.2.2.1 26) ≤ 1) := h.2.2.2.2.2.2.2.2.2.2.2.2.2.2.2.2.2.2.2.2.2.2.2.2.2.2.2.2.2.2.2.2.2.2.2.2.2.2.2.2.2.2.2.2.2.2.2.2.1
theorem LXp_49 {k : Nat → ClassId} {T : zTy} {u : zS} (h : LX k T u) : (0 ≤ Int32.toInt (u.2.2.1 32) ∧ Int32.toInt (u.2.2.1 32) ≤ 400) := h.2.2.2.2.2.2.2.2.2.2.2.2.2.2.2.2.2.2.2.2.2.2.2.2.2.2.2.2.2.2.2.2.2.2.2.2.2.2.2.2.2.2.2.2.2.2.2.2.2.1
theorem LXp_50 {k : Nat → ClassId} {T : zTy} {u : zS} (h : LX k T u) : zR (u.2.2.2.2.1 53) (-1) 5 := h.2.2.2.2.2.2.2.2.2.2.2.2.2.2.2.2.2.2.2.2.2.2.2.2.2.2.2.2.2.2.2.2.2.2.2.2.2.2.2.2.2.2.2.2.2.2.2.2.2.2.1
theorem LXp_51 {k : Nat → ClassId} {T : zTy} {u : zS} (h : LX k T u) : (0 ≤ Int32.toInt (u.2.2.1 33) ∧ Int32.toInt (u.2.2.1 33) ≤ 6) := h.2.2.2.2.2.2.2.2.2.2.2.2.2.2.2.2.2.2.2.2.2.2.2.2.2.2.2.2.2.2.2.2.2.2.2.2.2.2.2.2.2.2.2.2.2.2.2.2.2.2.2
theorem LMp_0 {u : zS} (h : LM u) : zRw (u.2.2.2.2.1 0) := h.1
theorem LMp_1 {u : zS} (h : LM u) : zRi (u.2.2.2.2.1 1) := h.2.1
theorem LMp_2 {u : zS} (h : LM u) : zR (u.2.2.2.2.1 7) 0 255 := h.2.2.1
theorem LMp_3 {u : zS} (h : LM u) : zR (u.2.2.2.2.1 11) 0 31 := h.2.2.2.1
theorem LMp_4 {u : zS} (h : LM u) : zR (u.2.2.2.2.1 12) 0 399 := h.2.2.2.2.1
theorem LMp_5 {u : zS} (h : LM u) : zR (u.2.2.2.2.1 18) (-1) 6 := h.2.2.2.2.2.1
theorem LMp_6 {u : zS} (h : LM u) : (0 ≤ Int32.toInt (u.2.2.1 3) ∧ Int32.toInt (u.2.2.1 3) ≤ 400) := h.2.2.2.2.2.2.1
theorem LMp_7 {u : zS} (h : LM u) : (0 ≤ Int32.toInt (u.2.2.1 4) ∧ Int32.toInt (u.2.2.1 4) ≤ 400) := h.2.2.2.2.2.2.2.1
theorem LMp_8 {u : zS} (h : LM u) : (0 ≤ Int32.toInt (u.2.2.1 5) ∧ Int32.toInt (u.2.2.1 5) ≤ 400) := h.2.2.2.2.2.2.2.2.1
theorem LMp_9 {u : zS} (h : LM u) : (0 ≤ Int32.toInt (u.2.2.1 6) ∧ Int32.toInt (u.2.2.1 6) ≤ 3) := h.2.2.2.2.2.2.2.2.2.1
theorem LMp_10 {u : zS} (h : LM u) : (0 ≤ Int32.toInt (u.2.2.1 8) ∧ Int32.toInt (u.2.2.1 8) ≤ 1) := h.2.2.2.2.2.2.2.2.2.2.1
theorem LMp_11 {u : zS} (h : LM u) : (0 ≤ Int32.toInt (u.2.2.1 9) ∧ Int32.toInt (u.2.2.1 9) ≤ 12) := h.2.2.2.2.2.2.2.2.2.2.2.1
theorem LMp_12 {u : zS} (h : LM u) : (0 ≤ Int32.toInt (u.2.2.1 10) ∧ Int32.toInt (u.2.2.1 10) ≤ 400) := h.2.2.2.2.2.2.2.2.2.2.2.2.1
theorem LMp_13 {u : zS} (h : LM u) : (0 ≤ Int32.toInt (u.2.2.1 11) ∧ Int32.toInt (u.2.2.1 11) ≤ 50) := h.2.2.2.2.2.2.2.2.2.2.2.2.2.1
theorem LMp_14 {u : zS} (h : LM u) : (0 ≤ Int32.toInt (u.2.2.1 12) ∧ Int32.toInt (u.2.2.1 12) ≤ 400) := h.2.2.2.2.2.2.2.2.2.2.2.2.2.2.1
theorem LMp_15 {u : zS} (h : LM u) : (0 ≤ Int32.toInt (u.2.2.1 14) ∧ Int32.toInt (u.2.2.1 14) ≤ 1) := h.2.2.2.2.2.2.2.2.2.2.2.2.2.2.2.1
theorem LMp_16 {u : zS} (h : LM u) : (0 ≤ Int32.toInt (u.2.2.1 15) ∧ Int32.toInt (u.2.2.1 15) ≤ 400) := h.2.2.2.2.2.2.2.2.2.2.2.2.2.2.2.2.1
theorem LMp_17 {u : zS} (h : LM u) : (0 ≤ Int32.toInt (u.2.2.1 17) ∧ Int32.toInt (u.2.2.1 17) ≤ 400) := h.2.2.2.2.2.2.2.2.2.2.2.2.2.2.2.2.2.1
theorem LMp_18 {u : zS} (h : LM u) : (0 ≤ Int32.toInt (u.2.2.1 18) ∧ Int32.toInt (u.2.2.1 18) ≤ 400) := h.2.2.2.2.2.2.2.2.2.2.2.2.2.2.2.2.2.2.1
theorem LMp_19 {u : zS} (h : LM u) : (0 ≤ Int32.toInt (u.2.2.1 20) ∧ Int32.toInt (u.2.2.1 20) ≤ 1) := h.2.2.2.2.2.2.2.2.2.2.2.2.2.2.2.2.2.2.2.1
theorem LMp_20 {u : zS} (h : LM u) : (0 ≤ Int32.toInt (u.2.2.1 21) ∧ Int32.toInt (u.2.2.1 21) ≤ 6) := h.2.2.2.2.2.2.2.2.2.2.2.2.2.2.2.2.2.2.2.2
theorem LIp_0 {k : Nat → ClassId} {T : zTy} {u : zS} (h : LI k T u) : zR (u.2.2.2.2.1 0) 0 18 := h.1
theorem LIp_1 {k : Nat → ClassId} {T : zTy} {u : zS} (h : LI k T u) : zR (u.2.2.2.2.1 1) 0 1 := h.2.1
theorem LIp_2 {k : Nat → ClassId} {T : zTy} {u : zS} (h : LI k T u) : zR (u.2.2.2.2.1 2) (-1) 7 := h.2.2.1
theorem LIp_3 {k : Nat → ClassId} {T : zTy} {u : zS} (h : LI k T u) : zR (u.2.2.2.2.1 3) 0 99 := h.2.2.2.1
theorem LIp_4 {k : Nat → ClassId} {T : zTy} {u : zS} (h : LI k T u) : zR (u.2.2.2.2.1 4) 0 99 := h.2.2.2.2.1
theorem LIp_5 {k : Nat → ClassId} {T : zTy} {u : zS} (h : LI k T u) : zR (u.2.2.2.2.1 6) 0 7 := h.2.2.2.2.2.1
theorem LIp_6 {k : Nat → ClassId} {T : zTy} {u : zS} (h : LI k T u) : zR (u.2.2.2.2.1 7) 0 799 := h.2.2.2.2.2.2.1
theorem LIp_7 {k : Nat → ClassId} {T : zTy} {u : zS} (h : LI k T u) : zR (u.2.2.2.2.1 8) 0 60 := h.2.2.2.2.2.2.2.1
theorem LIp_8 {k : Nat → ClassId} {T : zTy} {u : zS} (h : LI k T u) : zR (u.2.2.2.2.1 9) 0 39 := h.2.2.2.2.2.2.2.2.1
theorem LIp_9 {k : Nat → ClassId} {T : zTy} {u : zS} (h : LI k T u) : zR (u.2.2.2.2.1 10) 0 399 := h.2.2.2.2.2.2.2.2.2.1
theorem LIp_10 {k : Nat → ClassId} {T : zTy} {u : zS} (h : LI k T u) : zR (u.2.2.2.2.1 11) 0 399 := h.2.2.2.2.2.2.2.2.2.2.1
theorem LIp_11 {k : Nat → ClassId} {T : zTy} {u : zS} (h : LI k T u) : (0 ≤ Int32.toInt (u.2.2.1 0) ∧ Int32.toInt (u.2.2.1 0) ≤ 40) := h.2.2.2.2.2.2.2.2.2.2.2.1
theorem LIp_12 {k : Nat → ClassId} {T : zTy} {u : zS} (h : LI k T u) : (0 ≤ Int32.toInt (u.2.2.1 1) ∧ Int32.toInt (u.2.2.1 1) ≤ 5) := h.2.2.2.2.2.2.2.2.2.2.2.2.1
theorem LIp_13 {k : Nat → ClassId} {T : zTy} {u : zS} (h : LI k T u) : (0 ≤ Int32.toInt (u.2.2.1 2) ∧ Int32.toInt (u.2.2.1 2) ≤ 60) := h.2.2.2.2.2.2.2.2.2.2.2.2.2.1
theorem LIp_14 {k : Nat → ClassId} {T : zTy} {u : zS} (h : LI k T u) : zR (u.2.2.2.2.1 12) 0 39 := h.2.2.2.2.2.2.2.2.2.2.2.2.2.2.1
theorem LIp_15 {k : Nat → ClassId} {T : zTy} {u : zS} (h : LI k T u) : zR (u.2.2.2.2.1 13) 0 4 := h.2.2.2.2.2.2.2.2.2.2.2.2.2.2.2.1
theorem LIp_16 {k : Nat → ClassId} {T : zTy} {u : zS} (h : LI k T u) : zR (u.2.2.2.2.1 14) 0 399 := h.2.2.2.2.2.2.2.2.2.2.2.2.2.2.2.2.1
theorem LIp_17 {k : Nat → ClassId} {T : zTy} {u : zS} (h : LI k T u) : zR (u.2.2.2.2.1 15) 0 400 := h.2.2.2.2.2.2.2.2.2.2.2.2.2.2.2.2.2.1
theorem LIp_18 {k : Nat → ClassId} {T : zTy} {u : zS} (h : LI k T u) : zR (u.2.2.2.2.1 16) (-1) 4 := h.2.2.2.2.2.2.2.2.2.2.2.2.2.2.2.2.2.2.1
theorem LIp_19 {k : Nat → ClassId} {T : zTy} {u : zS} (h : LI k T u) : (0 ≤ Int32.toInt (u.2.2.1 3) ∧ Int32.toInt (u.2.2.1 3) ≤ 120) := h.2.2.2.2.2.2.2.2.2.2.2.2.2.2.2.2.2.2.2.1
theorem LIp_20 {k : Nat → ClassId} {T : zTy} {u : zS} (h : LI k T u) : zR (u.2.2.2.2.1 17) 0 4 := h.2.2.2.2.2.2.2.2.2.2.2.2.2.2.2.2.2.2.2.2.1
theorem LIp_21 {k : Nat → ClassId} {T : zTy} {u : zS} (h : LI k T u) : zR (u.2.2.2.2.1 18) 0 39 := h.2.2.2.2.2.2.2.2.2.2.2.2.2.2.2.2.2.2.2.2.2.1
theorem LIp_22 {k : Nat → ClassId} {T : zTy} {u : zS} (h : LI k T u) : zR (u.2.2.2.2.1 19) 0 799 := h.2.2.2.2.2.2.2.2.2.2.2.2.2.2.2.2.2.2.2.2.2.2.1
theorem LIp_23 {k : Nat → ClassId} {T : zTy} {u : zS} (h : LI k T u) : zR (u.2.2.2.2.1 25) (-1) 399 := h.2.2.2.2.2.2.2.2.2.2.2.2.2.2.2.2.2.2.2.2.2.2.2.1
theorem LIp_24 {k : Nat → ClassId} {T : zTy} {u : zS} (h : LI k T u) : (0 ≤ Int32.toInt (u.2.2.1 4) ∧ Int32.toInt (u.2.2.1 4) ≤ 400) := h.2.2.2.2.2.2.2.2.2.2.2.2.2.2.2.2.2.2.2.2.2.2.2.2.1
theorem LIp_25 {k : Nat → ClassId} {T : zTy} {u : zS} (h : LI k T u) : zRo k T (u.2.2.2.2.2.2 0) := h.2.2.2.2.2.2.2.2.2.2.2.2.2.2.2.2.2.2.2.2.2.2.2.2.2.1
theorem LIp_26 {k : Nat → ClassId} {T : zTy} {u : zS} (h : LI k T u) : (0 ≤ Int32.toInt (u.2.2.1 7) ∧ Int32.toInt (u.2.2.1 7) ≤ 20) := h.2.2.2.2.2.2.2.2.2.2.2.2.2.2.2.2.2.2.2.2.2.2.2.2.2.2.1
theorem LIp_27 {k : Nat → ClassId} {T : zTy} {u : zS} (h : LI k T u) : zR (u.2.2.2.2.1 30) (-1) 399 := h.2.2.2.2.2.2.2.2.2.2.2.2.2.2.2.2.2.2.2.2.2.2.2.2.2.2.2.1
theorem LIp_28 {k : Nat → ClassId} {T : zTy} {u : zS} (h : LI k T u) : zR (u.2.2.2.2.1 33) 0 99999999 := h.2.2.2.2.2.2.2.2.2.2.2.2.2.2.2.2.2.2.2.2.2.2.2.2.2.2.2.2.1
theorem LIp_29 {k : Nat → ClassId} {T : zTy} {u : zS} (h : LI k T u) : zR (u.2.2.2.2.1 35) 0 99999999 := h.2.2.2.2.2.2.2.2.2.2.2.2.2.2.2.2.2.2.2.2.2.2.2.2.2.2.2.2.2.1
theorem LIp_30 {k : Nat → ClassId} {T : zTy} {u : zS} (h : LI k T u) : zR (u.2.2.2.2.1 36) 0 39 := h.2.2.2.2.2.2.2.2.2.2.2.2.2.2.2.2.2.2.2.2.2.2.2.2.2.2.2.2.2.2.1
theorem LIp_31 {k : Nat → ClassId} {T : zTy} {u : zS} (h : LI k T u) : zR (u.2.2.2.2.1 40) 0 1 := h.2.2.2.2.2.2.2.2.2.2.2.2.2.2.2.2.2.2.2.2.2.2.2.2.2.2.2.2.2.2.2.1
theorem LIp_32 {k : Nat → ClassId} {T : zTy} {u : zS} (h : LI k T u) : (0 ≤ Int32.toInt (u.2.2.1 8) ∧ Int32.toInt (u.2.2.1 8) ≤ 6) := h.2.2.2.2.2.2.2.2.2.2.2.2.2.2.2.2.2.2.2.2.2.2.2.2.2.2.2.2.2.2.2.2.1
theorem LIp_33 {k : Nat → ClassId} {T : zTy} {u : zS} (h : LI k T u) : (0 ≤ Int32.toInt (u.2.2.1 9) ∧ Int32.toInt (u.2.2.1 9) ≤ 6) := h.2.2.2.2.2.2.2.2.2.2.2.2.2.2.2.2.2.2.2.2.2.2.2.2.2.2.2.2.2.2.2.2.2.1
theorem LIp_34 {k : Nat → ClassId} {T : zTy} {u : zS} (h : LI k T u) : (0 ≤ Int32.toInt (u.2.2.1 10) ∧ Int32.toInt (u.2.2.1 10) ≤ 9) := h.2.2.2.2.2.2.2.2.2.2.2.2.2.2.2.2.2.2.2.2.2.2.2.2.2.2.2.2.2.2.2.2.2.2.1
theorem LIp_35 {k : Nat → ClassId} {T : zTy} {u : zS} (h : LI k T u) : (0 ≤ Int32.toInt (u.2.2.1 11) ∧ Int32.toInt (u.2.2.1 11) ≤ 12) := h.2.2.2.2.2.2.2.2.2.2.2.2.2.2.2.2.2.2.2.2.2.2.2.2.2.2.2.2.2.2.2.2.2.2.2
theorem LX_mk {k : Nat → ClassId} {T : zTy} {a : Nat → Nat} {v : Nat → Int32} {w : Nat → Int64} {f : Nat → Nat → Int32} {g : Nat → Nat → Int64} {o : Nat → Nat → Option Nat} (h0 : zR (f 0) 0 18) (h1 : zR (f 1) 0 1) (h2 : zR (f 2) (-1) 7) (h3 : zR (f 3) 0 99) (h4 : zR (f 4) 0 99) (h5 : zR (f 6) 0 7) (h6 : zR (f 7) 0 799) (h7 : zR (f 8) 0 60) (h8 : zR (f 9) 0 39) (h9 : zR (f 10) 0 399) (h10 : zR (f 11) 0 399) (h11 : (0 ≤ Int32.toInt (v 0) ∧ Int32.toInt (v 0) ≤ 40)) (h12 : (0 ≤ Int32.toInt (v 1) ∧ Int32.toInt (v 1) ≤ 5)) (h13 : (0 ≤ Int32.toInt (v 2) ∧ Int32.toInt (v 2) ≤ 60)) (h14 : zR (f 12) 0 39) (h15 : zR (f 13) 0 4) (h16 : zR (f 14) 0 399) (h17 : zR (f 15) 0 400) (h18 : zR (f 16) (-1) 4) (h19 : (0 ≤ Int32.toInt (v 3) ∧ Int32.toInt (v 3) ≤ 120)) (h20 : zR (f 17) 0 4) (h21 : zR (f 18) 0 39) (h22 : zR (f 19) 0 799) (h23 : zR (f 25) (-1) 399) (h24 : (0 ≤ Int32.toInt (v 4) ∧ Int32.toInt (v 4) ≤ 400)) (h25 : zRo k T (o 0)) (h26 : (0 ≤ Int32.toInt (v 7) ∧ Int32.toInt (v 7) ≤ 20)) (h27 : zR (f 30) (-1) 399) (h28 : zR (f 33) 0 99999999) (h29 : zR (f 35) 0 99999999) (h30 : zR (f 36) 0 39) (h31 : zR (f 40) 0 1) (h32 : (0 ≤ Int32.toInt (v 8) ∧ Int32.toInt (v 8) ≤ 6)) (h33 : (0 ≤ Int32.toInt (v 9) ∧ Int32.toInt (v 9) ≤ 6)) (h34 : (0 ≤ Int32.toInt (v 10) ∧ Int32.toInt (v 10) ≤ 9)) (h35 : (0 ≤ Int32.toInt (v 11) ∧ Int32.toInt (v 11) ≤ 12)) (h36 : zR (f 42) 0 255) (h37 : zR (f 44) 0 400) (h38 : zR (f 45) 0 400) (h39 : (0 ≤ Int32.toInt (v 12) ∧ Int32.toInt (v 12) ≤ 400)) (h40 : (0 ≤ Int32.toInt (v 14) ∧ Int32.toInt (v 14) ≤ 12)) (h41 : (0 ≤ Int32.toInt (v 15) ∧ Int32.toInt (v 15) ≤ 400)) (h42 : (0 ≤ Int32.toInt (v 16) ∧ Int32.toInt (v 16) ≤ 50)) (h43 : (0 ≤ Int32.toInt (v 18) ∧ Int32.toInt (v 18) ≤ 400)) (h44 : (0 ≤ Int32.toInt (v 19) ∧ Int32.toInt (v 19) ≤ 400)) (h45 : (0 ≤ Int32.toInt (v 20) ∧ Int32.toInt (v 20) ≤ 10001)) (h46 : (0 ≤ Int32.toInt (v 22) ∧ Int32.toInt (v 22) ≤ 39)) (h47 : (0 ≤ Int32.toInt (v 23) ∧ Int32.toInt (v 23) ≤ 799)) (h48 : (0 ≤ Int32.toInt (v 26) ∧ Int32.toInt (v 26) ≤ 1)) (h49 : (0 ≤ Int32.toInt (v 32) ∧ Int32.toInt (v 32) ≤ 400)) (h50 : zR (f 53) (-1) 5) (h51 : (0 ≤ Int32.toInt (v 33) ∧ Int32.toInt (v 33) ≤ 6)) : LX k T (0, a, v, w, f, g, o) := ⟨h0, h1, h2, h3, h4, h5, h6, h7, h8, h9, h10, h11, h12, h13, h14, h15, h16, h17, h18, h19, h20, h21, h22, h23, h24, h25, h26, h27, h28, h29, h30, h31, h32, h33, h34, h35, h36, h37, h38, h39, h40, h41, h42, h43, h44, h45, h46, h47, h48, h49, h50, h51⟩
theorem LM_mk  {a : Nat → Nat} {v : Nat → Int32} {w : Nat → Int64} {f : Nat → Nat → Int32} {g : Nat → Nat → Int64} {o : Nat → Nat → Option Nat} (h0 : zRw (f 0)) (h1 : zRi (f 1)) (h2 : zR (f 7) 0 255) (h3 : zR (f 11) 0 31) (h4 : zR (f 12) 0 399) (h5 : zR (f 18) (-1) 6) (h6 : (0 ≤ Int32.toInt (v 3) ∧ Int32.toInt (v 3) ≤ 400)) (h7 : (0 ≤ Int32.toInt (v 4) ∧ Int32.toInt (v 4) ≤ 400)) (h8 : (0 ≤ Int32.toInt (v 5) ∧ Int32.toInt (v 5) ≤ 400)) (h9 : (0 ≤ Int32.toInt (v 6) ∧ Int32.toInt (v 6) ≤ 3)) (h10 : (0 ≤ Int32.toInt (v 8) ∧ Int32.toInt (v 8) ≤ 1)) (h11 : (0 ≤ Int32.toInt (v 9) ∧ Int32.toInt (v 9) ≤ 12)) (h12 : (0 ≤ Int32.toInt (v 10) ∧ Int32.toInt (v 10) ≤ 400)) (h13 : (0 ≤ Int32.toInt (v 11) ∧ Int32.toInt (v 11) ≤ 50)) (h14 : (0 ≤ Int32.toInt (v 12) ∧ Int32.toInt (v 12) ≤ 400)) (h15 : (0 ≤ Int32.toInt (v 14) ∧ Int32.toInt (v 14) ≤ 1)) (h16 : (0 ≤ Int32.toInt (v 15) ∧ Int32.toInt (v 15) ≤ 400)) (h17 : (0 ≤ Int32.toInt (v 17) ∧ Int32.toInt (v 17) ≤ 400)) (h18 : (0 ≤ Int32.toInt (v 18) ∧ Int32.toInt (v 18) ≤ 400)) (h19 : (0 ≤ Int32.toInt (v 20) ∧ Int32.toInt (v 20) ≤ 1)) (h20 : (0 ≤ Int32.toInt (v 21) ∧ Int32.toInt (v 21) ≤ 6)) : LM (0, a, v, w, f, g, o) := ⟨h0, h1, h2, h3, h4, h5, h6, h7, h8, h9, h10, h11, h12, h13, h14, h15, h16, h17, h18, h19, h20⟩
theorem LI_mk {k : Nat → ClassId} {T : zTy} {a : Nat → Nat} {v : Nat → Int32} {w : Nat → Int64} {f : Nat → Nat → Int32} {g : Nat → Nat → Int64} {o : Nat → Nat → Option Nat} (h0 : zR (f 0) 0 18) (h1 : zR (f 1) 0 1) (h2 : zR (f 2) (-1) 7) (h3 : zR (f 3) 0 99) (h4 : zR (f 4) 0 99) (h5 : zR (f 6) 0 7) (h6 : zR (f 7) 0 799) (h7 : zR (f 8) 0 60) (h8 : zR (f 9) 0 39) (h9 : zR (f 10) 0 399) (h10 : zR (f 11) 0 399) (h11 : (0 ≤ Int32.toInt (v 0) ∧ Int32.toInt (v 0) ≤ 40)) (h12 : (0 ≤ Int32.toInt (v 1) ∧ Int32.toInt (v 1) ≤ 5)) (h13 : (0 ≤ Int32.toInt (v 2) ∧ Int32.toInt (v 2) ≤ 60)) (h14 : zR (f 12) 0 39) (h15 : zR (f 13) 0 4) (h16 : zR (f 14) 0 399) (h17 : zR (f 15) 0 400) (h18 : zR (f 16) (-1) 4) (h19 : (0 ≤ Int32.toInt (v 3) ∧ Int32.toInt (v 3) ≤ 120)) (h20 : zR (f 17) 0 4) (h21 : zR (f 18) 0 39) (h22 : zR (f 19) 0 799) (h23 : zR (f 25) (-1) 399) (h24 : (0 ≤ Int32.toInt (v 4) ∧ Int32.toInt (v 4) ≤ 400)) (h25 : zRo k T (o 0)) (h26 : (0 ≤ Int32.toInt (v 7) ∧ Int32.toInt (v 7) ≤ 20)) (h27 : zR (f 30) (-1) 399) (h28 : zR (f 33) 0 99999999) (h29 : zR (f 35) 0 99999999) (h30 : zR (f 36) 0 39) (h31 : zR (f 40) 0 1) (h32 : (0 ≤ Int32.toInt (v 8) ∧ Int32.toInt (v 8) ≤ 6)) (h33 : (0 ≤ Int32.toInt (v 9) ∧ Int32.toInt (v 9) ≤ 6)) (h34 : (0 ≤ Int32.toInt (v 10) ∧ Int32.toInt (v 10) ≤ 9)) (h35 : (0 ≤ Int32.toInt (v 11) ∧ Int32.toInt (v 11) ≤ 12)) : LI k T (0, a, v, w, f, g, o) := ⟨h0, h1, h2, h3, h4, h5, h6, h7, h8, h9, h10, h11, h12, h13, h14, h15, h16, h17, h18, h19, h20, h21, h22, h23, h24, h25, h26, h27, h28, h29, h30, h31, h32, h33, h34, h35⟩
theorem LI_mono {k : Nat → ClassId} {T : zTy} {pw : va_W} {u : zS} (h : LI k T u) : LI k (zTn T pw) u := by
  obtain ⟨h0, h1, h2, h3, h4, h5, h6, h7, h8, h9, h10, h11, h12, h13, h14, h15, h16, h17, h18, h19, h20, h21, h22, h23, h24, h25, h26, h27, h28, h29, h30, h31, h32, h33, h34, h35⟩ := h
  exact ⟨h0, h1, h2, h3, h4, h5, h6, h7, h8, h9, h10, h11, h12, h13, h14, h15, h16, h17, h18, h19, h20, h21, h22, h23, h24, zRo_mono h25, h26, h27, h28, h29, h30, h31, h32, h33, h34, h35⟩
theorem zIm_Z {k : Nat → ClassId} {T : zTy} {o : Nat → Option Nat} {Z : va_W} (h : zIm k T o Z) : ∀ pw : va_W, T.1 pw → ∀ q : Nat × va_E, q ∈ pw → q ∈ Z := by
  obtain ⟨P, uA, uB, hT, h⟩ := h
  intro pw hp q hq
  have h0 := hT pw hp q hq
  rcases h with ⟨_, rfl⟩ | ⟨_, _, rfl⟩ | ⟨_, _, rfl⟩ | ⟨_, _, _, rfl⟩
  · exact h0
  · exact List.mem_append_right _ h0
  · exact List.mem_append_right _ h0
  · exact List.mem_append_right _ (List.mem_append_right _ h0)
theorem zIm_ext {k : Nat → ClassId} {T : zTy} {o : Nat → Option Nat} {Z pw : va_W} (h : zIm k T o Z) : zIm k (zTn T pw) o (Z ++ pw) := by
  obtain ⟨P, uA, uB, hT, h⟩ := h
  refine ⟨P ++ pw, uA, uB, fun w hw q hq => ?_, ?_⟩
  · rcases hw with hw | rfl
    · exact List.mem_append_left _ (hT w hw q hq)
    · exact List.mem_append_right _ hq
  · rcases h with ⟨h1, rfl⟩ | ⟨h1, h2, rfl⟩ | ⟨h1, h2, rfl⟩ | ⟨h1, h2, h3, rfl⟩
    · exact Or.inl ⟨h1, rfl⟩
    · exact Or.inr (Or.inl ⟨h1, LI_mono h2, List.append_assoc _ _ _⟩)
    · exact Or.inr (Or.inr (Or.inl ⟨h1, LI_mono h2, List.append_assoc _ _ _⟩))
    · exact Or.inr (Or.inr (Or.inr ⟨h1, LI_mono h2, LI_mono h3, by rw [List.append_assoc, List.append_assoc]⟩))
def law_C (p : Program) (s : State) (m : MethodId) (meth : Method) (c : Code) (D : va_G) (k : Nat → ClassId) (b L : Nat) (xs : Nat → Int32) (tb : Nat → Nat) : Prop := CallFix p m c code 4 s #[Value.ref b] lw_g RL ∧ meth.sig.returnType = ret ∧ meth.locks = false ∧ va_X b L xs s s.heap ∧ b < s.heap.size ∧ va_K D vwCl (TYk k) s ∧ zN s ∧ zStat tb (fun q : Nat => s.heap.size ≤ q) s ∧ L ≤ 3584
def zK (p : Program) (l : Launch) (e : Env) (s : State) (m : MethodId) (below : List Frame) (meth : Method) (c : Code) (D : va_G) (k : Nat → ClassId) (b : Nat) (tb : Nat → Nat) (hX hM : Nat) (i : Int32) (cells slots : Nat) : Prop := ∀ (T : zTy) (Z : va_W) (uX uM : zS) (H : Heap) (locs : List Loc) (ls : Array Slot), zI k tb T Z uX uM → va_P D vwCl ((WX k hX uX ++ WM k hM uM) ++ Z) H → va_D (fun q : Nat => s.heap.size ≤ q) ((WX k hX uX ++ WM k hM uM) ++ Z) → va_S (fun q : Nat => s.heap.size ≤ q) s.heap H locs → lv_has ls 4 [(0, .ref b), (1, .ref hX), (2, .ref hM), (3, .int i)] → W p l e room_1 s m #[Value.ref b] below meth c H locs (cells + 50) (slots + 7144) (lw_Z below #[Value.ref b] s) (F0 m 2078 ls [])
theorem z_start {s : State} {args : Array Value} (hts : ∀ w ∈ lw_tbl, w.before args s = true) : ∃ (D : va_G) (k : Nat → ClassId), va_K D vwCl (TYk k) s ∧ zN s := by
  have hg : ∀ w ∈ lw_g, w.before args s = true := fun w h => hts w (lw_g_sub h)
  obtain ⟨cc0, ii0, hh0⟩ := u_known (C := RX0) (T := TX0) (N := 3) hg inX0 (hg _ kI_X0)
  obtain ⟨cc1, ii1, hh1⟩ := u_known (C := RX1) (T := TX1) (N := 19) hg inX1 (hg _ kI_X1)
  obtain ⟨cc2, ii2, hh2⟩ := u_known (C := RX2) (T := TX2) (N := 14) hg inX2 (hg _ kI_X2)
  obtain ⟨cc3, ii3, hh3⟩ := u_known (C := RX3) (T := TX3) (N := 6) hg inX3 (hg _ kI_X3)
  obtain ⟨cc4, ii4, hh4⟩ := u_known (C := RX4) (T := TX4) (N := 13) hg inX4 (hg _ kI_X4)
  obtain ⟨cc5, ii5, hh5⟩ := u_known (C := RX5) (T := TX5) (N := 15) hg inX5 (hg _ kI_X5)
  obtain ⟨cc6, ii6, hh6⟩ := u_known (C := RX6) (T := TX6) (N := 15) hg inX6 (hg _ kI_X6)
  obtain ⟨cc7, ii7, hh7⟩ := u_known (C := RX7) (T := TX7) (N := 16) hg inX7 (hg _ kI_X7)
  obtain ⟨cc8, ii8, hh8⟩ := u_known (C := RX8) (T := TX8) (N := 6) hg inX8 (hg _ kI_X8)
  obtain ⟨cc9, ii9, hh9⟩ := u_known (C := RX9) (T := TX9) (N := 3) hg inX9 (hg _ kI_X9)
  obtain ⟨cc10, ii10, hh10⟩ := u_known (C := RX10) (T := TX10) (N := 6) hg inX10 (hg _ kI_X10)
  obtain ⟨cc11, ii11, hh11⟩ := u_known (C := RX11) (T := TX11) (N := 6) hg inX11 (hg _ kI_X11)
  obtain ⟨cc12, ii12, hh12⟩ := u_known (C := RX12) (T := TX12) (N := 56) hg inX12 (hg _ kI_X12)
  obtain ⟨k0, kk0, km0, ka0, kb0, kc0⟩ := Cond.arrayClass_spec (hg _ kArr_int)
  obtain ⟨k1, kk1, km1, ka1, kb1, kc1⟩ := Cond.arrayClass_spec (hg _ kArr_long)
  obtain ⟨k2, kk2, km2, ka2, kb2, kc2⟩ := Cond.arrayClass_spec (hg _ kArr_boolean)
  have ho3 : (Cond.arrayOver (.object "HalfDays$Text")).before args s = true := hts _ (List.mem_append_right _ (List.mem_of_getElem? (i := 197) (by decide +kernel)))
  obtain ⟨km3, k3, kk3, kd3, -, ka3, kb3, kc3⟩ := Cond.arrayOver_spec ho3
  have ho4 : (Cond.arrayOver (.object "HalfDays$County")).before args s = true := hts _ (List.mem_append_right _ (List.mem_of_getElem? (i := 334) (by decide +kernel)))
  obtain ⟨km4, k4, kk4, kd4, -, ka4, kb4, kc4⟩ := Cond.arrayOver_spec ho4
  have hcs : (Cond.castable "[I" "java/lang/Cloneable").before args s = true := hts _ (List.mem_append_right _ (List.mem_of_getElem? (i := 852) (by decide +kernel)))
  refine ⟨(fun j => [cc0, cc1, cc2, cc3, cc4, cc5, cc6, cc7, cc8, cc9, cc10, cc11, cc12].getD j cc0, fun j => [ii0, ii1, ii2, ii3, ii4, ii5, ii6, ii7, ii8, ii9, ii10, ii11, ii12].getD j ii0), fun j => [k0, k1, k2, k3, k4].getD j k0, ⟨fun j q hq => ?_, fun j q hq => ?_⟩, fun w hw => ?_, ho3, ho4, va_Nw.of rfl hcs⟩
  · match j, hq with
    | 0, hq => cases hq; exact hh0
    | 1, hq => cases hq; exact hh1
    | 2, hq => cases hq; exact hh2
    | 3, hq => cases hq; exact hh3
    | 4, hq => cases hq; exact hh4
    | 5, hq => cases hq; exact hh5
    | 6, hq => cases hq; exact hh6
    | 7, hq => cases hq; exact hh7
    | 8, hq => cases hq; exact hh8
    | 9, hq => cases hq; exact hh9
    | 10, hq => cases hq; exact hh10
    | 11, hq => cases hq; exact hh11
    | 12, hq => cases hq; exact hh12
    | j + 13, hq => simp [vwCl] at hq
  · match j, hq with
    | 0, hq => cases hq; exact ⟨fun n z => ⟨fun _ h => (by cases h), kk0, kb0, km0, kc0⟩, ka0⟩
    | 1, hq => cases hq; exact ⟨fun n z => ⟨fun _ h => (by cases h), kk1, kb1, km1, kc1⟩, ka1⟩
    | 2, hq => cases hq; exact ⟨fun n z => ⟨fun _ h => (by cases h), kk2, kb2, km2, kc2⟩, ka2⟩
    | 3, hq => cases hq; exact ⟨fun n z => ⟨fun _ h => (by cases h), kk3, ka3, km3, kb3⟩, kk3, km3, ka3, kb3, kd3, kc3⟩
    | 4, hq => cases hq; exact ⟨fun n z => ⟨fun _ h => (by cases h), kk4, ka4, km4, kb4⟩, kk4, km4, ka4, kb4, kd4, kc4⟩
    | j + 5, hq => simp [TYk] at hq
  · have h1 := (List.mem_filter.mp hw).1
    have h2 := (List.mem_filter.mp hw).2
    refine va_Nw.of ?_ (hts w (List.mem_append_right _ h1))
    cases w <;> first | rfl | cases h2
theorem z_tab0 {s : State} {args : Array Value} {A : Nat → Prop} (hts : ∀ w ∈ lw_tbl, w.before args s = true) (hgv : (Jvm.Cond.and given_1 narrow_1).before args s = true) (hA : ∀ a : Nat, a < s.heap.size → ¬ A a) : ∃ t : Nat, va_Z "HalfDays" "KIND_WORDS" "[J" (.ref t) A s s.heap ∧ ∃ f : Nat → Int64, va_T .long t 5 (fun j => .long (f j)) A s s.heap := by
  have hs := flat_of_before _ hgv
  have h1 : (Cond.laysStatic "HalfDays" "KIND_WORDS" "[J").before args s = true := hts _ (List.mem_append_right _ (List.mem_of_getElem? (i := 764) (by decide +kernel)))
  have h2 : (Cond.initialized "HalfDays").before args s = true := hts _ (lw_g_sub kZ_X11)
  have h3 : (Cond.arrayOf (Term.static "HalfDays" "KIND_WORDS" "[J") .long).before args s = true := hs _ (by decide +kernel)
  have h4 : (Cond.eq (Term.length (Term.static "HalfDays" "KIND_WORDS" "[J")) (.int 5)).before args s = true := hs _ (by decide +kernel)
  have e0 : (Cond.eq (Term.elem (Term.static "HalfDays" "KIND_WORDS" "[J") (.int 0)) (.long 1751478885)).before args s = true := hs _ (by decide +kernel)
  have e1 : (Cond.eq (Term.elem (Term.static "HalfDays" "KIND_WORDS" "[J") (.int 1)) (.long 1818326117)).before args s = true := hs _ (by decide +kernel)
  have e2 : (Cond.eq (Term.elem (Term.static "HalfDays" "KIND_WORDS" "[J") (.int 2)) (.long 27422285723297124)).before args s = true := hs _ (by decide +kernel)
  have e3 : (Cond.eq (Term.elem (Term.static "HalfDays" "KIND_WORDS" "[J") (.int 3)) (.long 1635213689)).before args s = true := hs _ (by decide +kernel)
  have e4 : (Cond.eq (Term.elem (Term.static "HalfDays" "KIND_WORDS" "[J") (.int 4)) (.long 1852796517)).before args s = true := hs _ (by decide +kernel)
  have hel : ∀ j : Nat, j < 5 → (Term.elem (Term.static "HalfDays" "KIND_WORDS" "[J") (.int (Int32.ofNat j))).eval args s none [] s = some (Value.long ([1751478885, 1818326117, 27422285723297124, 1635213689, 1852796517].getD j (0 : Int64))) := by
    intro j hj
    match j, hj with
    | 0, _ => exact va_eqtl e0
    | 1, _ => exact va_eqtl e1
    | 2, _ => exact va_eqtl e2
    | 3, _ => exact va_eqtl e3
    | 4, _ => exact va_eqtl e4
    | j + 5, h => exact absurd h (by omega)
  obtain ⟨t, g1, g2⟩ := va_Tof (A := A) (N := 5) (f := fun j => Value.long ([1751478885, 1818326117, 27422285723297124, 1635213689, 1852796517].getD j (0 : Int64))) (by decide) h3 (va_eqt h4) hel hA
  exact ⟨t, va_Zref h1 h2 g1 hA, _, g2⟩
theorem z_tab1 {s : State} {args : Array Value} {A : Nat → Prop} (hts : ∀ w ∈ lw_tbl, w.before args s = true) (hgv : (Jvm.Cond.and given_1 narrow_1).before args s = true) (hA : ∀ a : Nat, a < s.heap.size → ¬ A a) : ∃ t : Nat, va_Z "HalfDays" "SUM_WORDS" "[J" (.ref t) A s s.heap ∧ ∃ f : Nat → Int64, va_T .long t 8 (fun j => .long (f j)) A s s.heap := by
  have hs := flat_of_before _ hgv
  have h1 : (Cond.laysStatic "HalfDays" "SUM_WORDS" "[J").before args s = true := hts _ (List.mem_append_right _ (List.mem_of_getElem? (i := 793) (by decide +kernel)))
  have h2 : (Cond.initialized "HalfDays").before args s = true := hts _ (lw_g_sub kZ_X11)
  have h3 : (Cond.arrayOf (Term.static "HalfDays" "SUM_WORDS" "[J") .long).before args s = true := hs _ (by decide +kernel)
  have h4 : (Cond.eq (Term.length (Term.static "HalfDays" "SUM_WORDS" "[J")) (.int 8)).before args s = true := hs _ (by decide +kernel)
  have e0 : (Cond.eq (Term.elem (Term.static "HalfDays" "SUM_WORDS" "[J") (.int 0)) (.long 1651470958)).before args s = true := hs _ (by decide +kernel)
  have e1 : (Cond.eq (Term.elem (Term.static "HalfDays" "SUM_WORDS" "[J") (.int 1)) (.long 30796695599342963)).before args s = true := hs _ (by decide +kernel)
  have e2 : (Cond.eq (Term.elem (Term.static "HalfDays" "SUM_WORDS" "[J") (.int 2)) (.long 1751215206)).before args s = true := hs _ (by decide +kernel)
  have e3 : (Cond.eq (Term.elem (Term.static "HalfDays" "SUM_WORDS" "[J") (.int 3)) (.long 6578553)).before args s = true := hs _ (by decide +kernel)
  have e4 : (Cond.eq (Term.elem (Term.static "HalfDays" "SUM_WORDS" "[J") (.int 4)) (.long 2003133803)).before args s = true := hs _ (by decide +kernel)
  have e5 : (Cond.eq (Term.elem (Term.static "HalfDays" "SUM_WORDS" "[J") (.int 5)) (.long 126870791090028)).before args s = true := hs _ (by decide +kernel)
  have e6 : (Cond.eq (Term.elem (Term.static "HalfDays" "SUM_WORDS" "[J") (.int 6)) (.long 1635213689)).before args s = true := hs _ (by decide +kernel)
  have e7 : (Cond.eq (Term.elem (Term.static "HalfDays" "SUM_WORDS" "[J") (.int 7)) (.long 8101821194189302885)).before args s = true := hs _ (by decide +kernel)
  have hel : ∀ j : Nat, j < 8 → (Term.elem (Term.static "HalfDays" "SUM_WORDS" "[J") (.int (Int32.ofNat j))).eval args s none [] s = some (Value.long ([1651470958, 30796695599342963, 1751215206, 6578553, 2003133803, 126870791090028, 1635213689, 8101821194189302885].getD j (0 : Int64))) := by
    intro j hj
    match j, hj with
    | 0, _ => exact va_eqtl e0
    | 1, _ => exact va_eqtl e1
    | 2, _ => exact va_eqtl e2
    | 3, _ => exact va_eqtl e3
    | 4, _ => exact va_eqtl e4
    | 5, _ => exact va_eqtl e5
    | 6, _ => exact va_eqtl e6
    | 7, _ => exact va_eqtl e7
    | j + 8, h => exact absurd h (by omega)
  obtain ⟨t, g1, g2⟩ := va_Tof (A := A) (N := 8) (f := fun j => Value.long ([1651470958, 30796695599342963, 1751215206, 6578553, 2003133803, 126870791090028, 1635213689, 8101821194189302885].getD j (0 : Int64))) (by decide) h3 (va_eqt h4) hel hA
  exact ⟨t, va_Zref h1 h2 g1 hA, _, g2⟩
theorem z_tab2 {s : State} {args : Array Value} {A : Nat → Prop} (hts : ∀ w ∈ lw_tbl, w.before args s = true) (hgv : (Jvm.Cond.and given_1 narrow_1).before args s = true) (hA : ∀ a : Nat, a < s.heap.size → ¬ A a) : ∃ t : Nat, va_Z "HalfDays" "TEST_WORDS" "[J" (.ref t) A s s.heap ∧ ∃ f : Nat → Int64, va_T .long t 4 (fun j => .long (f j)) A s s.heap := by
  have hs := flat_of_before _ hgv
  have h1 : (Cond.laysStatic "HalfDays" "TEST_WORDS" "[J").before args s = true := hts _ (List.mem_append_right _ (List.mem_of_getElem? (i := 831) (by decide +kernel)))
  have h2 : (Cond.initialized "HalfDays").before args s = true := hts _ (lw_g_sub kZ_X11)
  have h3 : (Cond.arrayOf (Term.static "HalfDays" "TEST_WORDS" "[J") .long).before args s = true := hs _ (by decide +kernel)
  have h4 : (Cond.eq (Term.length (Term.static "HalfDays" "TEST_WORDS" "[J")) (.int 4)).before args s = true := hs _ (by decide +kernel)
  have e0 : (Cond.eq (Term.elem (Term.static "HalfDays" "TEST_WORDS" "[J") (.int 0)) (.long 426836649330)).before args s = true := hs _ (by decide +kernel)
  have e1 : (Cond.eq (Term.elem (Term.static "HalfDays" "TEST_WORDS" "[J") (.int 1)) (.long 1885434484)).before args s = true := hs _ (by decide +kernel)
  have e2 : (Cond.eq (Term.elem (Term.static "HalfDays" "TEST_WORDS" "[J") (.int 2)) (.long 6452595)).before args s = true := hs _ (by decide +kernel)
  have e3 : (Cond.eq (Term.elem (Term.static "HalfDays" "TEST_WORDS" "[J") (.int 3)) (.long 1752132965)).before args s = true := hs _ (by decide +kernel)
  have hel : ∀ j : Nat, j < 4 → (Term.elem (Term.static "HalfDays" "TEST_WORDS" "[J") (.int (Int32.ofNat j))).eval args s none [] s = some (Value.long ([426836649330, 1885434484, 6452595, 1752132965].getD j (0 : Int64))) := by
    intro j hj
    match j, hj with
    | 0, _ => exact va_eqtl e0
    | 1, _ => exact va_eqtl e1
    | 2, _ => exact va_eqtl e2
    | 3, _ => exact va_eqtl e3
    | j + 4, h => exact absurd h (by omega)
  obtain ⟨t, g1, g2⟩ := va_Tof (A := A) (N := 4) (f := fun j => Value.long ([426836649330, 1885434484, 6452595, 1752132965].getD j (0 : Int64))) (by decide) h3 (va_eqt h4) hel hA
  exact ⟨t, va_Zref h1 h2 g1 hA, _, g2⟩
theorem z_stat {s : State} {args : Array Value} {A : Nat → Prop} (hts : ∀ w ∈ lw_tbl, w.before args s = true) (hgv : (Jvm.Cond.and given_1 narrow_1).before args s = true) (hA : ∀ a : Nat, a < s.heap.size → ¬ A a) : ∃ tb : Nat → Nat, zStat tb A s := by
  obtain ⟨t0, h0⟩ := z_tab0 hts hgv hA
  obtain ⟨t1, h1⟩ := z_tab1 hts hgv hA
  obtain ⟨t2, h2⟩ := z_tab2 hts hgv hA
  refine ⟨fun i => [t0, t1, t2].getD i t0, fun i hi => ?_⟩
  match i, hi with
  | 0, _ => exact h0
  | 1, _ => exact h1
  | 2, _ => exact h2
  | i + 3, h => exact absurd h (by omega)
