/-! the object of the class as a table of 109 cells; written by wip/gen/shape.py -/
def gX16 : Nat → Nat := fun i => match i with
  | 0 => 18
  | 1 => 21
  | 2 => 24
  | 3 => 27
  | 4 => 30
  | 5 => 33
  | 6 => 36
  | _ => 39
def gX46 : Nat → Nat := fun i => match i with
  | 0 => 53
  | 1 => 60
  | 2 => 67
  | 3 => 74
  | 4 => 81
  | 5 => 88
  | 6 => 95
  | _ => 102
def shX : Nat → ux_S := fun k => match k with
  | 0 => .inl (0, [some 14, some 2, some 13])
  | 1 => .inr (1, 200, none)
  | 2 => .inl (2, [some 3, some 4, some 5, some 6, none, none, some 7, none, some 8, some 11])
  | 3 => .inr (0, 20, none)
  | 4 => .inr (0, 20, none)
  | 5 => .inr (0, 20, none)
  | 6 => .inr (0, 20, none)
  | 7 => .inr (0, 40, none)
  | 8 => .inl (4, [some 9, some 10])
  | 9 => .inr (1, 20, none)
  | 10 => .inr (0, 1, none)
  | 11 => .inl (3, [some 12, none])
  | 12 => .inr (0, 40, none)
  | 13 => .inl (5, [some 14, some 2, some 15, some 42, some 50, some 46, some 47, none, none])
  | 14 => .inl (1, [some 1, none, none])
  | 15 => .inl (6, [some 16, some 17])
  | 16 => .inr (3, 8, some gX16)
  | 17 => .inr (2, 208, none)
  | 18 => .inl (4, [some 19, some 20])
  | 19 => .inr (1, 520, none)
  | 20 => .inr (0, 26, none)
  | 21 => .inl (4, [some 22, some 23])
  | 22 => .inr (1, 520, none)
  | 23 => .inr (0, 26, none)
  | 24 => .inl (4, [some 25, some 26])
  | 25 => .inr (1, 520, none)
  | 26 => .inr (0, 26, none)
  | 27 => .inl (4, [some 28, some 29])
  | 28 => .inr (1, 520, none)
  | 29 => .inr (0, 26, none)
  | 30 => .inl (4, [some 31, some 32])
  | 31 => .inr (1, 520, none)
  | 32 => .inr (0, 26, none)
  | 33 => .inl (4, [some 34, some 35])
  | 34 => .inr (1, 520, none)
  | 35 => .inr (0, 26, none)
  | 36 => .inl (4, [some 37, some 38])
  | 37 => .inr (1, 520, none)
  | 38 => .inr (0, 26, none)
  | 39 => .inl (4, [some 40, some 41])
  | 40 => .inr (1, 520, none)
  | 41 => .inr (0, 26, none)
  | 42 => .inl (7, [some 45, some 43, some 44])
  | 43 => .inr (0, 26, none)
  | 44 => .inr (0, 26, none)
  | 45 => .inr (0, 26, none)
  | 46 => .inr (4, 8, some gX46)
  | 47 => .inl (4, [some 48, some 49])
  | 48 => .inr (1, 20, none)
  | 49 => .inr (0, 1, none)
  | 50 => .inl (8, [some 1, some 15, some 51, some 52, none, none, none, none, none, none, none, none, none, none])
  | 51 => .inr (0, 200, none)
  | 52 => .inr (1, 200, none)
  | 53 => .inl (9, [some 54, some 57, some 58, some 59, none, none, none, none, none, none])
  | 54 => .inl (4, [some 55, some 56])
  | 55 => .inr (1, 160, none)
  | 56 => .inr (0, 8, none)
  | 57 => .inr (2, 8, none)
  | 58 => .inr (0, 8, none)
  | 59 => .inr (0, 8, none)
  | 60 => .inl (9, [some 61, some 64, some 65, some 66, none, none, none, none, none, none])
  | 61 => .inl (4, [some 62, some 63])
  | 62 => .inr (1, 160, none)
  | 63 => .inr (0, 8, none)
  | 64 => .inr (2, 8, none)
  | 65 => .inr (0, 8, none)
  | 66 => .inr (0, 8, none)
  | 67 => .inl (9, [some 68, some 71, some 72, some 73, none, none, none, none, none, none])
  | 68 => .inl (4, [some 69, some 70])
  | 69 => .inr (1, 160, none)
  | 70 => .inr (0, 8, none)
  | 71 => .inr (2, 8, none)
  | 72 => .inr (0, 8, none)
  | 73 => .inr (0, 8, none)
  | 74 => .inl (9, [some 75, some 78, some 79, some 80, none, none, none, none, none, none])
  | 75 => .inl (4, [some 76, some 77])
  | 76 => .inr (1, 160, none)
  | 77 => .inr (0, 8, none)
  | 78 => .inr (2, 8, none)
  | 79 => .inr (0, 8, none)
  | 80 => .inr (0, 8, none)
  | 81 => .inl (9, [some 82, some 85, some 86, some 87, none, none, none, none, none, none])
  | 82 => .inl (4, [some 83, some 84])
  | 83 => .inr (1, 160, none)
  | 84 => .inr (0, 8, none)
  | 85 => .inr (2, 8, none)
  | 86 => .inr (0, 8, none)
  | 87 => .inr (0, 8, none)
  | 88 => .inl (9, [some 89, some 92, some 93, some 94, none, none, none, none, none, none])
  | 89 => .inl (4, [some 90, some 91])
  | 90 => .inr (1, 160, none)
  | 91 => .inr (0, 8, none)
  | 92 => .inr (2, 8, none)
  | 93 => .inr (0, 8, none)
  | 94 => .inr (0, 8, none)
  | 95 => .inl (9, [some 96, some 99, some 100, some 101, none, none, none, none, none, none])
  | 96 => .inl (4, [some 97, some 98])
  | 97 => .inr (1, 160, none)
  | 98 => .inr (0, 8, none)
  | 99 => .inr (2, 8, none)
  | 100 => .inr (0, 8, none)
  | 101 => .inr (0, 8, none)
  | 102 => .inl (9, [some 103, some 106, some 107, some 108, none, none, none, none, none, none])
  | 103 => .inl (4, [some 104, some 105])
  | 104 => .inr (1, 160, none)
  | 105 => .inr (0, 8, none)
  | 106 => .inr (2, 8, none)
  | 107 => .inr (0, 8, none)
  | _ => .inr (0, 8, none)
def m0X : ux_M := fun k => match k with
  | 20 => (vfill (fun _ _ => 0) 2 26 (-1) 2)
  | 23 => (vfill (fun _ _ => 0) 2 26 (-1) 2)
  | 26 => (vfill (fun _ _ => 0) 2 26 (-1) 2)
  | 29 => (vfill (fun _ _ => 0) 2 26 (-1) 2)
  | 32 => (vfill (fun _ _ => 0) 2 26 (-1) 2)
  | 35 => (vfill (fun _ _ => 0) 2 26 (-1) 2)
  | 38 => (vfill (fun _ _ => 0) 2 26 (-1) 2)
  | 41 => (vfill (fun _ _ => 0) 2 26 (-1) 2)
  | 45 => (vfill (fun _ _ => 0) 0 26 (-1) 0)
  | _ => fun _ => 0
def adX (h0 : Nat) (qs : Nat → Nat) : Nat → Nat := fun k => match k with
  | 0 => h0
  | k + 1 => qs k
abbrev KX : Nat := 109
/-- what the constructor leaves, as a list -/
abbrev lsX (h0 : Nat) (qs : Nat → Nat) (cA : Nat → ClassId) : va_W := [(h0, .inr (0, [.ref (qs 13), .ref (qs 1), .ref (qs 12)])), ((qs 0), .inl (cA 1, 200, .inl (fun _ => 0))), ((qs 1), .inr (2, [.ref (qs 2), .ref (qs 3), .ref (qs 4), .ref (qs 5), .int 0, .int 0, .ref (qs 6), .int 0, .ref (qs 7), .ref (qs 10)])), ((qs 2), .inl (cA 0, 20, .inl (fun _ => 0))), ((qs 3), .inl (cA 0, 20, .inl (fun _ => 0))), ((qs 4), .inl (cA 0, 20, .inl (fun _ => 0))), ((qs 5), .inl (cA 0, 20, .inl (fun _ => 0))), ((qs 6), .inl (cA 0, 40, .inl (fun _ => 0))), ((qs 7), .inr (4, [.ref (qs 8), .ref (qs 9)])), ((qs 8), .inl (cA 1, 20, .inl (fun _ => 0))), ((qs 9), .inl (cA 0, 1, .inl (fun _ => 0))), ((qs 10), .inr (3, [.ref (qs 11), .int 0])), ((qs 11), .inl (cA 0, 40, .inl (fun _ => 0))), ((qs 12), .inr (5, [.ref (qs 13), .ref (qs 1), .ref (qs 14), .ref (qs 41), .ref (qs 49), .ref (qs 45), .ref (qs 46), .int 0, .int 0])), ((qs 13), .inr (1, [.ref (qs 0), .int 0, .int 0])), ((qs 14), .inr (6, [.ref (qs 15), .ref (qs 16)])), ((qs 15), .inl (cA 3, 8, .inr (.inr (.inr (.inr (va_up (va_up (va_up (va_up (va_up (va_up (va_up (va_up (fun _ => none) 0 (some (qs 17))) 1 (some (qs 20))) 2 (some (qs 23))) 3 (some (qs 26))) 4 (some (qs 29))) 5 (some (qs 32))) 6 (some (qs 35))) 7 (some (qs 38)))))))), ((qs 16), .inl (cA 2, 208, .inl (fun _ => 0))), ((qs 17), .inr (4, [.ref (qs 18), .ref (qs 19)])), ((qs 18), .inl (cA 1, 520, .inl (fun _ => 0))), ((qs 19), .inl (cA 0, 26, .inl (vfill (fun _ _ => 0) 2 26 (-1) 2))), ((qs 20), .inr (4, [.ref (qs 21), .ref (qs 22)])), ((qs 21), .inl (cA 1, 520, .inl (fun _ => 0))), ((qs 22), .inl (cA 0, 26, .inl (vfill (fun _ _ => 0) 2 26 (-1) 2))), ((qs 23), .inr (4, [.ref (qs 24), .ref (qs 25)])), ((qs 24), .inl (cA 1, 520, .inl (fun _ => 0))), ((qs 25), .inl (cA 0, 26, .inl (vfill (fun _ _ => 0) 2 26 (-1) 2))), ((qs 26), .inr (4, [.ref (qs 27), .ref (qs 28)])), ((qs 27), .inl (cA 1, 520, .inl (fun _ => 0))), ((qs 28), .inl (cA 0, 26, .inl (vfill (fun _ _ => 0) 2 26 (-1) 2))), ((qs 29), .inr (4, [.ref (qs 30), .ref (qs 31)])), ((qs 30), .inl (cA 1, 520, .inl (fun _ => 0))), ((qs 31), .inl (cA 0, 26, .inl (vfill (fun _ _ => 0) 2 26 (-1) 2))), ((qs 32), .inr (4, [.ref (qs 33), .ref (qs 34)])), ((qs 33), .inl (cA 1, 520, .inl (fun _ => 0))), ((qs 34), .inl (cA 0, 26, .inl (vfill (fun _ _ => 0) 2 26 (-1) 2))), ((qs 35), .inr (4, [.ref (qs 36), .ref (qs 37)])), ((qs 36), .inl (cA 1, 520, .inl (fun _ => 0))), ((qs 37), .inl (cA 0, 26, .inl (vfill (fun _ _ => 0) 2 26 (-1) 2))), ((qs 38), .inr (4, [.ref (qs 39), .ref (qs 40)])), ((qs 39), .inl (cA 1, 520, .inl (fun _ => 0))), ((qs 40), .inl (cA 0, 26, .inl (vfill (fun _ _ => 0) 2 26 (-1) 2))), ((qs 41), .inr (7, [.ref (qs 44), .ref (qs 42), .ref (qs 43)])), ((qs 42), .inl (cA 0, 26, .inl (fun _ => 0))), ((qs 43), .inl (cA 0, 26, .inl (fun _ => 0))), ((qs 44), .inl (cA 0, 26, .inl (vfill (fun _ _ => 0) 0 26 (-1) 0))), ((qs 45), .inl (cA 4, 8, .inr (.inr (.inr (.inr (va_up (va_up (va_up (va_up (va_up (va_up (va_up (va_up (fun _ => none) 0 (some (qs 52))) 1 (some (qs 59))) 2 (some (qs 66))) 3 (some (qs 73))) 4 (some (qs 80))) 5 (some (qs 87))) 6 (some (qs 94))) 7 (some (qs 101)))))))), ((qs 46), .inr (4, [.ref (qs 47), .ref (qs 48)])), ((qs 47), .inl (cA 1, 20, .inl (fun _ => 0))), ((qs 48), .inl (cA 0, 1, .inl (fun _ => 0))), ((qs 49), .inr (8, [.ref (qs 0), .ref (qs 14), .ref (qs 50), .ref (qs 51), .int 0, .int 0, .int 0, .int 0, .int 0, .int 0, .int 0, .int 0, .int 0, .int 0])), ((qs 50), .inl (cA 0, 200, .inl (fun _ => 0))), ((qs 51), .inl (cA 1, 200, .inl (fun _ => 0))), ((qs 52), .inr (9, [.ref (qs 53), .ref (qs 56), .ref (qs 57), .ref (qs 58), .int 0, .int 0, .int 0, .int 0, .int 0, .int 0])), ((qs 53), .inr (4, [.ref (qs 54), .ref (qs 55)])), ((qs 54), .inl (cA 1, 160, .inl (fun _ => 0))), ((qs 55), .inl (cA 0, 8, .inl (fun _ => 0))), ((qs 56), .inl (cA 2, 8, .inl (fun _ => 0))), ((qs 57), .inl (cA 0, 8, .inl (fun _ => 0))), ((qs 58), .inl (cA 0, 8, .inl (fun _ => 0))), ((qs 59), .inr (9, [.ref (qs 60), .ref (qs 63), .ref (qs 64), .ref (qs 65), .int 0, .int 0, .int 0, .int 0, .int 0, .int 0])), ((qs 60), .inr (4, [.ref (qs 61), .ref (qs 62)])), ((qs 61), .inl (cA 1, 160, .inl (fun _ => 0))), ((qs 62), .inl (cA 0, 8, .inl (fun _ => 0))), ((qs 63), .inl (cA 2, 8, .inl (fun _ => 0))), ((qs 64), .inl (cA 0, 8, .inl (fun _ => 0))), ((qs 65), .inl (cA 0, 8, .inl (fun _ => 0))), ((qs 66), .inr (9, [.ref (qs 67), .ref (qs 70), .ref (qs 71), .ref (qs 72), .int 0, .int 0, .int 0, .int 0, .int 0, .int 0])), ((qs 67), .inr (4, [.ref (qs 68), .ref (qs 69)])), ((qs 68), .inl (cA 1, 160, .inl (fun _ => 0))), ((qs 69), .inl (cA 0, 8, .inl (fun _ => 0))), ((qs 70), .inl (cA 2, 8, .inl (fun _ => 0))), ((qs 71), .inl (cA 0, 8, .inl (fun _ => 0))), ((qs 72), .inl (cA 0, 8, .inl (fun _ => 0))), ((qs 73), .inr (9, [.ref (qs 74), .ref (qs 77), .ref (qs 78), .ref (qs 79), .int 0, .int 0, .int 0, .int 0, .int 0, .int 0])), ((qs 74), .inr (4, [.ref (qs 75), .ref (qs 76)])), ((qs 75), .inl (cA 1, 160, .inl (fun _ => 0))), ((qs 76), .inl (cA 0, 8, .inl (fun _ => 0))), ((qs 77), .inl (cA 2, 8, .inl (fun _ => 0))), ((qs 78), .inl (cA 0, 8, .inl (fun _ => 0))), ((qs 79), .inl (cA 0, 8, .inl (fun _ => 0))), ((qs 80), .inr (9, [.ref (qs 81), .ref (qs 84), .ref (qs 85), .ref (qs 86), .int 0, .int 0, .int 0, .int 0, .int 0, .int 0])), ((qs 81), .inr (4, [.ref (qs 82), .ref (qs 83)])), ((qs 82), .inl (cA 1, 160, .inl (fun _ => 0))), ((qs 83), .inl (cA 0, 8, .inl (fun _ => 0))), ((qs 84), .inl (cA 2, 8, .inl (fun _ => 0))), ((qs 85), .inl (cA 0, 8, .inl (fun _ => 0))), ((qs 86), .inl (cA 0, 8, .inl (fun _ => 0))), ((qs 87), .inr (9, [.ref (qs 88), .ref (qs 91), .ref (qs 92), .ref (qs 93), .int 0, .int 0, .int 0, .int 0, .int 0, .int 0])), ((qs 88), .inr (4, [.ref (qs 89), .ref (qs 90)])), ((qs 89), .inl (cA 1, 160, .inl (fun _ => 0))), ((qs 90), .inl (cA 0, 8, .inl (fun _ => 0))), ((qs 91), .inl (cA 2, 8, .inl (fun _ => 0))), ((qs 92), .inl (cA 0, 8, .inl (fun _ => 0))), ((qs 93), .inl (cA 0, 8, .inl (fun _ => 0))), ((qs 94), .inr (9, [.ref (qs 95), .ref (qs 98), .ref (qs 99), .ref (qs 100), .int 0, .int 0, .int 0, .int 0, .int 0, .int 0])), ((qs 95), .inr (4, [.ref (qs 96), .ref (qs 97)])), ((qs 96), .inl (cA 1, 160, .inl (fun _ => 0))), ((qs 97), .inl (cA 0, 8, .inl (fun _ => 0))), ((qs 98), .inl (cA 2, 8, .inl (fun _ => 0))), ((qs 99), .inl (cA 0, 8, .inl (fun _ => 0))), ((qs 100), .inl (cA 0, 8, .inl (fun _ => 0))), ((qs 101), .inr (9, [.ref (qs 102), .ref (qs 105), .ref (qs 106), .ref (qs 107), .int 0, .int 0, .int 0, .int 0, .int 0, .int 0])), ((qs 102), .inr (4, [.ref (qs 103), .ref (qs 104)])), ((qs 103), .inl (cA 1, 160, .inl (fun _ => 0))), ((qs 104), .inl (cA 0, 8, .inl (fun _ => 0))), ((qs 105), .inl (cA 2, 8, .inl (fun _ => 0))), ((qs 106), .inl (cA 0, 8, .inl (fun _ => 0))), ((qs 107), .inl (cA 0, 8, .inl (fun _ => 0)))]
theorem tabX (h0 : Nat) (qs : Nat → Nat) (cA : Nat → ClassId) : ux_w shX KX (adX h0 qs) cA m0X = ((lsX h0 qs cA).set 16 ((qs 15), .inl (cA 3, 8, .inr (.inr (.inr (.inr (fun i => some (adX h0 qs (gX16 i))))))))).set 46 ((qs 45), .inl (cA 4, 8, .inr (.inr (.inr (.inr (fun i => some (adX h0 qs (gX46 i)))))))) := by
  rfl
theorem arrV_same {c : ClassId} {n : Nat} {f g : Nat → Value} (h : ∀ j, j < n → f j = g j) : arrV c n f = arrV c n g := by
  have e : (fun j : Fin n => f j.val) = (fun j : Fin n => g j.val) := funext fun j => h _ j.isLt
  simp only [arrV, e]
theorem lt8 {P : Nat → Prop} (h0 : P 0) (h1 : P 1) (h2 : P 2) (h3 : P 3) (h4 : P 4) (h5 : P 5) (h6 : P 6) (h7 : P 7) : ∀ j, j < 8 → P j := by
  intro j hj
  obtain rfl | rfl | rfl | rfl | rfl | rfl | rfl | rfl : j = 0 ∨ j = 1 ∨ j = 2 ∨ j = 3 ∨ j = 4 ∨ j = 5 ∨ j = 6 ∨ j = 7 := by omega
  all_goals assumption
set_option maxHeartbeats 4000000 in
set_option maxRecDepth 100000 in
theorem psX {D : va_G} {h0 : Nat} {qs : Nat → Nat} {cA : Nat → ClassId} {H : Heap} {A : Nat → Prop} (hP : va_P D classes (lsX h0 qs cA) H) (hD : va_D A (lsX h0 qs cA)) : va_P D classes (ux_w shX KX (adX h0 qs) cA m0X) H ∧ va_D A (ux_w shX KX (adX h0 qs) cA m0X) := by
  rw [tabX]
  have hc0 : va_at D classes ((qs 15), .inl (cA 3, 8, .inr (.inr (.inr (.inr (fun i => some (adX h0 qs (gX16 i)))))))) H := by
    have h1 : H[(qs 15)]? = some (vp_cell (cA 3) (8, .inr (.inr (.inr (.inr (va_up (va_up (va_up (va_up (va_up (va_up (va_up (va_up (fun _ => none) 0 (some (qs 17))) 1 (some (qs 20))) 2 (some (qs 23))) 3 (some (qs 26))) 4 (some (qs 29))) 5 (some (qs 32))) 6 (some (qs 35))) 7 (some (qs 38)))))))) := hP 16 _ rfl
    show H[(qs 15)]? = some (vp_cell (cA 3) (8, .inr (.inr (.inr (.inr (fun i => some (adX h0 qs (gX16 i))))))))
    refine h1.trans ?_
    have e1 : ∀ j, j < 8 → va_rf ((va_up (va_up (va_up (va_up (va_up (va_up (va_up (va_up (fun _ => none) 0 (some (qs 17))) 1 (some (qs 20))) 2 (some (qs 23))) 3 (some (qs 26))) 4 (some (qs 29))) 5 (some (qs 32))) 6 (some (qs 35))) 7 (some (qs 38))) j) = va_rf (some (adX h0 qs (gX16 j))) := lt8 (P := fun j => va_rf ((va_up (va_up (va_up (va_up (va_up (va_up (va_up (va_up (fun _ => none) 0 (some (qs 17))) 1 (some (qs 20))) 2 (some (qs 23))) 3 (some (qs 26))) 4 (some (qs 29))) 5 (some (qs 32))) 6 (some (qs 35))) 7 (some (qs 38))) j) = va_rf (some (adX h0 qs (gX16 j)))) rfl rfl rfl rfl rfl rfl rfl rfl
    have e2 : arrV (cA 3) 8 (fun j => va_rf ((va_up (va_up (va_up (va_up (va_up (va_up (va_up (va_up (fun _ => none) 0 (some (qs 17))) 1 (some (qs 20))) 2 (some (qs 23))) 3 (some (qs 26))) 4 (some (qs 29))) 5 (some (qs 32))) 6 (some (qs 35))) 7 (some (qs 38))) j)) = arrV (cA 3) 8 (fun j => va_rf (some (adX h0 qs (gX16 j)))) := arrV_same e1
    exact congrArg some e2
  have hP0 := hP
  have hP := hP.set (p := 16) hD rfl hc0 (fun _ _ => rfl)
  have hD := hD.set (p := 16) (e := .inl (cA 3, 8, .inr (.inr (.inr (.inr (fun i => some (adX h0 qs (gX16 i)))))))) (a := (qs 15)) rfl
  have hc1 : va_at D classes ((qs 45), .inl (cA 4, 8, .inr (.inr (.inr (.inr (fun i => some (adX h0 qs (gX46 i)))))))) H := by
    have h1 : H[(qs 45)]? = some (vp_cell (cA 4) (8, .inr (.inr (.inr (.inr (va_up (va_up (va_up (va_up (va_up (va_up (va_up (va_up (fun _ => none) 0 (some (qs 52))) 1 (some (qs 59))) 2 (some (qs 66))) 3 (some (qs 73))) 4 (some (qs 80))) 5 (some (qs 87))) 6 (some (qs 94))) 7 (some (qs 101)))))))) := hP0 46 _ rfl
    show H[(qs 45)]? = some (vp_cell (cA 4) (8, .inr (.inr (.inr (.inr (fun i => some (adX h0 qs (gX46 i))))))))
    refine h1.trans ?_
    have e1 : ∀ j, j < 8 → va_rf ((va_up (va_up (va_up (va_up (va_up (va_up (va_up (va_up (fun _ => none) 0 (some (qs 52))) 1 (some (qs 59))) 2 (some (qs 66))) 3 (some (qs 73))) 4 (some (qs 80))) 5 (some (qs 87))) 6 (some (qs 94))) 7 (some (qs 101))) j) = va_rf (some (adX h0 qs (gX46 j))) := lt8 (P := fun j => va_rf ((va_up (va_up (va_up (va_up (va_up (va_up (va_up (va_up (fun _ => none) 0 (some (qs 52))) 1 (some (qs 59))) 2 (some (qs 66))) 3 (some (qs 73))) 4 (some (qs 80))) 5 (some (qs 87))) 6 (some (qs 94))) 7 (some (qs 101))) j) = va_rf (some (adX h0 qs (gX46 j)))) rfl rfl rfl rfl rfl rfl rfl rfl
    have e2 : arrV (cA 4) 8 (fun j => va_rf ((va_up (va_up (va_up (va_up (va_up (va_up (va_up (va_up (fun _ => none) 0 (some (qs 52))) 1 (some (qs 59))) 2 (some (qs 66))) 3 (some (qs 73))) 4 (some (qs 80))) 5 (some (qs 87))) 6 (some (qs 94))) 7 (some (qs 101))) j)) = arrV (cA 4) 8 (fun j => va_rf (some (adX h0 qs (gX46 j)))) := arrV_same e1
    exact congrArg some e2
  have hP := hP.set (p := 46) hD rfl hc1 (fun _ _ => rfl)
  have hD := hD.set (p := 46) (e := .inl (cA 4, 8, .inr (.inr (.inr (.inr (fun i => some (adX h0 qs (gX46 i)))))))) (a := (qs 45)) rfl
  exact ⟨hP, hD⟩
