/-! what a world holds at a place, and what it is behind a store, row by row -/
theorem wR_g0 (ct : Nat → ClassId) (a : Nat → Nat) (x : Nat → Nat → Int32) : (wR ct a x)[0]? = some (a 31, .inr (1, [.int (x 4 0), .ref (a 5), .ref (a 6), .ref (a 7), .ref (a 8), .ref (a 9), .ref (a 10), .ref (a 11)])) := rfl
theorem wR_s0_0 (ct : Nat → ClassId) (a : Nat → Nat) (x : Nat → Nat → Int32) (v : Int32) : (wR ct a x).set 0 (a 31, .inr (1, ([.int (x 4 0), .ref (a 5), .ref (a 6), .ref (a 7), .ref (a 8), .ref (a 9), .ref (a 10), .ref (a 11)] : List Value).set 0 (.int v))) = wR ct a (set2 x 4 (fun _ => v)) := rfl
theorem wR_g1 (ct : Nat → ClassId) (a : Nat → Nat) (x : Nat → Nat → Int32) : (wR ct a x)[1]? = some (a 5, .inl (ct 0, 2, .inl (x 5))) := rfl
theorem wR_a1 (ct : Nat → ClassId) (a : Nat → Nat) (x : Nat → Nat → Int32) (g : Nat → Int32) : (wR ct a x).set 1 (a 5, .inl (ct 0, 2, .inl g)) = wR ct a (set2 x 5 g) := rfl
theorem wR_g2 (ct : Nat → ClassId) (a : Nat → Nat) (x : Nat → Nat → Int32) : (wR ct a x)[2]? = some (a 6, .inl (ct 0, 8, .inl (x 6))) := rfl
theorem wR_a2 (ct : Nat → ClassId) (a : Nat → Nat) (x : Nat → Nat → Int32) (g : Nat → Int32) : (wR ct a x).set 2 (a 6, .inl (ct 0, 8, .inl g)) = wR ct a (set2 x 6 g) := rfl
theorem wR_g3 (ct : Nat → ClassId) (a : Nat → Nat) (x : Nat → Nat → Int32) : (wR ct a x)[3]? = some (a 7, .inl (ct 0, 8, .inl (x 7))) := rfl
theorem wR_a3 (ct : Nat → ClassId) (a : Nat → Nat) (x : Nat → Nat → Int32) (g : Nat → Int32) : (wR ct a x).set 3 (a 7, .inl (ct 0, 8, .inl g)) = wR ct a (set2 x 7 g) := rfl
theorem wR_g4 (ct : Nat → ClassId) (a : Nat → Nat) (x : Nat → Nat → Int32) : (wR ct a x)[4]? = some (a 8, .inl (ct 0, 10, .inl (x 8))) := rfl
theorem wR_a4 (ct : Nat → ClassId) (a : Nat → Nat) (x : Nat → Nat → Int32) (g : Nat → Int32) : (wR ct a x).set 4 (a 8, .inl (ct 0, 10, .inl g)) = wR ct a (set2 x 8 g) := rfl
theorem wR_g5 (ct : Nat → ClassId) (a : Nat → Nat) (x : Nat → Nat → Int32) : (wR ct a x)[5]? = some (a 9, .inl (ct 0, 10, .inl (x 9))) := rfl
theorem wR_a5 (ct : Nat → ClassId) (a : Nat → Nat) (x : Nat → Nat → Int32) (g : Nat → Int32) : (wR ct a x).set 5 (a 9, .inl (ct 0, 10, .inl g)) = wR ct a (set2 x 9 g) := rfl
theorem wR_g6 (ct : Nat → ClassId) (a : Nat → Nat) (x : Nat → Nat → Int32) : (wR ct a x)[6]? = some (a 10, .inl (ct 0, 10, .inl (x 10))) := rfl
theorem wR_a6 (ct : Nat → ClassId) (a : Nat → Nat) (x : Nat → Nat → Int32) (g : Nat → Int32) : (wR ct a x).set 6 (a 10, .inl (ct 0, 10, .inl g)) = wR ct a (set2 x 10 g) := rfl
theorem wR_g7 (ct : Nat → ClassId) (a : Nat → Nat) (x : Nat → Nat → Int32) : (wR ct a x)[7]? = some (a 11, .inl (ct 0, 10, .inl (x 11))) := rfl
theorem wR_a7 (ct : Nat → ClassId) (a : Nat → Nat) (x : Nat → Nat → Int32) (g : Nat → Int32) : (wR ct a x).set 7 (a 11, .inl (ct 0, 10, .inl g)) = wR ct a (set2 x 11 g) := rfl
theorem wB_g0 (ct : Nat → ClassId) (a : Nat → Nat) (x : Nat → Nat → Int32) : (wB ct a x)[0]? = some (a 32, .inr (0, [.ref (a 12), .ref (a 13), .ref (a 14), .ref (a 15)])) := rfl
theorem wB_g1 (ct : Nat → ClassId) (a : Nat → Nat) (x : Nat → Nat → Int32) : (wB ct a x)[1]? = some (a 12, .inl (ct 0, 10, .inl (x 12))) := rfl
theorem wB_a1 (ct : Nat → ClassId) (a : Nat → Nat) (x : Nat → Nat → Int32) (g : Nat → Int32) : (wB ct a x).set 1 (a 12, .inl (ct 0, 10, .inl g)) = wB ct a (set2 x 12 g) := rfl
theorem wB_g2 (ct : Nat → ClassId) (a : Nat → Nat) (x : Nat → Nat → Int32) : (wB ct a x)[2]? = some (a 13, .inl (ct 0, 10, .inl (x 13))) := rfl
theorem wB_a2 (ct : Nat → ClassId) (a : Nat → Nat) (x : Nat → Nat → Int32) (g : Nat → Int32) : (wB ct a x).set 2 (a 13, .inl (ct 0, 10, .inl g)) = wB ct a (set2 x 13 g) := rfl
theorem wB_g3 (ct : Nat → ClassId) (a : Nat → Nat) (x : Nat → Nat → Int32) : (wB ct a x)[3]? = some (a 14, .inl (ct 0, 10, .inl (x 14))) := rfl
theorem wB_a3 (ct : Nat → ClassId) (a : Nat → Nat) (x : Nat → Nat → Int32) (g : Nat → Int32) : (wB ct a x).set 3 (a 14, .inl (ct 0, 10, .inl g)) = wB ct a (set2 x 14 g) := rfl
theorem wB_g4 (ct : Nat → ClassId) (a : Nat → Nat) (x : Nat → Nat → Int32) : (wB ct a x)[4]? = some (a 15, .inl (ct 0, 10, .inl (x 15))) := rfl
theorem wB_a4 (ct : Nat → ClassId) (a : Nat → Nat) (x : Nat → Nat → Int32) (g : Nat → Int32) : (wB ct a x).set 4 (a 15, .inl (ct 0, 10, .inl g)) = wB ct a (set2 x 15 g) := rfl
theorem wS_g0 (ct : Nat → ClassId) (a : Nat → Nat) (x : Nat → Nat → Int32) : (wS ct a x)[0]? = some (a 33, .inr (2, [.int (x 16 0), .ref (a 17), .ref (a 18), .ref (a 19), .ref (a 20), .int (x 21 0), .int (x 22 0), .ref (a 23), .ref (a 24), .ref (a 25), .ref (a 26)])) := rfl
theorem wS_s0_0 (ct : Nat → ClassId) (a : Nat → Nat) (x : Nat → Nat → Int32) (v : Int32) : (wS ct a x).set 0 (a 33, .inr (2, ([.int (x 16 0), .ref (a 17), .ref (a 18), .ref (a 19), .ref (a 20), .int (x 21 0), .int (x 22 0), .ref (a 23), .ref (a 24), .ref (a 25), .ref (a 26)] : List Value).set 0 (.int v))) = wS ct a (set2 x 16 (fun _ => v)) := rfl
theorem wS_s0_5 (ct : Nat → ClassId) (a : Nat → Nat) (x : Nat → Nat → Int32) (v : Int32) : (wS ct a x).set 0 (a 33, .inr (2, ([.int (x 16 0), .ref (a 17), .ref (a 18), .ref (a 19), .ref (a 20), .int (x 21 0), .int (x 22 0), .ref (a 23), .ref (a 24), .ref (a 25), .ref (a 26)] : List Value).set 5 (.int v))) = wS ct a (set2 x 21 (fun _ => v)) := rfl
theorem wS_s0_6 (ct : Nat → ClassId) (a : Nat → Nat) (x : Nat → Nat → Int32) (v : Int32) : (wS ct a x).set 0 (a 33, .inr (2, ([.int (x 16 0), .ref (a 17), .ref (a 18), .ref (a 19), .ref (a 20), .int (x 21 0), .int (x 22 0), .ref (a 23), .ref (a 24), .ref (a 25), .ref (a 26)] : List Value).set 6 (.int v))) = wS ct a (set2 x 22 (fun _ => v)) := rfl
theorem wS_g1 (ct : Nat → ClassId) (a : Nat → Nat) (x : Nat → Nat → Int32) : (wS ct a x)[1]? = some (a 17, .inl (ct 0, 8, .inl (x 17))) := rfl
theorem wS_a1 (ct : Nat → ClassId) (a : Nat → Nat) (x : Nat → Nat → Int32) (g : Nat → Int32) : (wS ct a x).set 1 (a 17, .inl (ct 0, 8, .inl g)) = wS ct a (set2 x 17 g) := rfl
theorem wS_g2 (ct : Nat → ClassId) (a : Nat → Nat) (x : Nat → Nat → Int32) : (wS ct a x)[2]? = some (a 18, .inl (ct 0, 8, .inl (x 18))) := rfl
theorem wS_a2 (ct : Nat → ClassId) (a : Nat → Nat) (x : Nat → Nat → Int32) (g : Nat → Int32) : (wS ct a x).set 2 (a 18, .inl (ct 0, 8, .inl g)) = wS ct a (set2 x 18 g) := rfl
theorem wS_g3 (ct : Nat → ClassId) (a : Nat → Nat) (x : Nat → Nat → Int32) : (wS ct a x)[3]? = some (a 19, .inl (ct 0, 8, .inl (x 19))) := rfl
theorem wS_a3 (ct : Nat → ClassId) (a : Nat → Nat) (x : Nat → Nat → Int32) (g : Nat → Int32) : (wS ct a x).set 3 (a 19, .inl (ct 0, 8, .inl g)) = wS ct a (set2 x 19 g) := rfl
theorem wS_g4 (ct : Nat → ClassId) (a : Nat → Nat) (x : Nat → Nat → Int32) : (wS ct a x)[4]? = some (a 20, .inl (ct 0, 80, .inl (x 20))) := rfl
theorem wS_a4 (ct : Nat → ClassId) (a : Nat → Nat) (x : Nat → Nat → Int32) (g : Nat → Int32) : (wS ct a x).set 4 (a 20, .inl (ct 0, 80, .inl g)) = wS ct a (set2 x 20 g) := rfl
theorem wS_g5 (ct : Nat → ClassId) (a : Nat → Nat) (x : Nat → Nat → Int32) : (wS ct a x)[5]? = some (a 23, .inl (ct 0, 8, .inl (x 23))) := rfl
theorem wS_a5 (ct : Nat → ClassId) (a : Nat → Nat) (x : Nat → Nat → Int32) (g : Nat → Int32) : (wS ct a x).set 5 (a 23, .inl (ct 0, 8, .inl g)) = wS ct a (set2 x 23 g) := rfl
theorem wS_g6 (ct : Nat → ClassId) (a : Nat → Nat) (x : Nat → Nat → Int32) : (wS ct a x)[6]? = some (a 24, .inl (ct 0, 10, .inl (x 24))) := rfl
theorem wS_a6 (ct : Nat → ClassId) (a : Nat → Nat) (x : Nat → Nat → Int32) (g : Nat → Int32) : (wS ct a x).set 6 (a 24, .inl (ct 0, 10, .inl g)) = wS ct a (set2 x 24 g) := rfl
theorem wS_g7 (ct : Nat → ClassId) (a : Nat → Nat) (x : Nat → Nat → Int32) : (wS ct a x)[7]? = some (a 25, .inl (ct 0, 10, .inl (x 25))) := rfl
theorem wS_a7 (ct : Nat → ClassId) (a : Nat → Nat) (x : Nat → Nat → Int32) (g : Nat → Int32) : (wS ct a x).set 7 (a 25, .inl (ct 0, 10, .inl g)) = wS ct a (set2 x 25 g) := rfl
theorem wS_g8 (ct : Nat → ClassId) (a : Nat → Nat) (x : Nat → Nat → Int32) : (wS ct a x)[8]? = some (a 26, .inl (ct 0, 10, .inl (x 26))) := rfl
theorem wS_a8 (ct : Nat → ClassId) (a : Nat → Nat) (x : Nat → Nat → Int32) (g : Nat → Int32) : (wS ct a x).set 8 (a 26, .inl (ct 0, 10, .inl g)) = wS ct a (set2 x 26 g) := rfl
theorem wX_g0 (ct : Nat → ClassId) (a : Nat → Nat) (x : Nat → Nat → Int32) : (wX ct a x)[0]? = some (a 30, .inr (3, [.int (x 0 0), .ref (a 1), .ref (a 2), .ref (a 3), .ref (a 31), .ref (a 32), .ref (a 33)])) := rfl
theorem wX_s0_0 (ct : Nat → ClassId) (a : Nat → Nat) (x : Nat → Nat → Int32) (v : Int32) : (wX ct a x).set 0 (a 30, .inr (3, ([.int (x 0 0), .ref (a 1), .ref (a 2), .ref (a 3), .ref (a 31), .ref (a 32), .ref (a 33)] : List Value).set 0 (.int v))) = wX ct a (set2 x 0 (fun _ => v)) := rfl
theorem wX_g1 (ct : Nat → ClassId) (a : Nat → Nat) (x : Nat → Nat → Int32) : (wX ct a x)[1]? = some (a 1, .inl (ct 0, 10, .inl (x 1))) := rfl
theorem wX_a1 (ct : Nat → ClassId) (a : Nat → Nat) (x : Nat → Nat → Int32) (g : Nat → Int32) : (wX ct a x).set 1 (a 1, .inl (ct 0, 10, .inl g)) = wX ct a (set2 x 1 g) := rfl
theorem wX_g2 (ct : Nat → ClassId) (a : Nat → Nat) (x : Nat → Nat → Int32) : (wX ct a x)[2]? = some (a 2, .inl (ct 0, 10, .inl (x 2))) := rfl
theorem wX_a2 (ct : Nat → ClassId) (a : Nat → Nat) (x : Nat → Nat → Int32) (g : Nat → Int32) : (wX ct a x).set 2 (a 2, .inl (ct 0, 10, .inl g)) = wX ct a (set2 x 2 g) := rfl
theorem wX_g3 (ct : Nat → ClassId) (a : Nat → Nat) (x : Nat → Nat → Int32) : (wX ct a x)[3]? = some (a 3, .inl (ct 1, 10, .inl (x 3))) := rfl
theorem wX_a3 (ct : Nat → ClassId) (a : Nat → Nat) (x : Nat → Nat → Int32) (g : Nat → Int32) : (wX ct a x).set 3 (a 3, .inl (ct 1, 10, .inl g)) = wX ct a (set2 x 3 g) := rfl
theorem wX_g4 (ct : Nat → ClassId) (a : Nat → Nat) (x : Nat → Nat → Int32) : (wX ct a x)[4]? = some (a 31, .inr (1, [.int (x 4 0), .ref (a 5), .ref (a 6), .ref (a 7), .ref (a 8), .ref (a 9), .ref (a 10), .ref (a 11)])) := rfl
theorem wX_s4_0 (ct : Nat → ClassId) (a : Nat → Nat) (x : Nat → Nat → Int32) (v : Int32) : (wX ct a x).set 4 (a 31, .inr (1, ([.int (x 4 0), .ref (a 5), .ref (a 6), .ref (a 7), .ref (a 8), .ref (a 9), .ref (a 10), .ref (a 11)] : List Value).set 0 (.int v))) = wX ct a (set2 x 4 (fun _ => v)) := rfl
theorem wX_g5 (ct : Nat → ClassId) (a : Nat → Nat) (x : Nat → Nat → Int32) : (wX ct a x)[5]? = some (a 5, .inl (ct 0, 2, .inl (x 5))) := rfl
theorem wX_a5 (ct : Nat → ClassId) (a : Nat → Nat) (x : Nat → Nat → Int32) (g : Nat → Int32) : (wX ct a x).set 5 (a 5, .inl (ct 0, 2, .inl g)) = wX ct a (set2 x 5 g) := rfl
theorem wX_g6 (ct : Nat → ClassId) (a : Nat → Nat) (x : Nat → Nat → Int32) : (wX ct a x)[6]? = some (a 6, .inl (ct 0, 8, .inl (x 6))) := rfl
theorem wX_a6 (ct : Nat → ClassId) (a : Nat → Nat) (x : Nat → Nat → Int32) (g : Nat → Int32) : (wX ct a x).set 6 (a 6, .inl (ct 0, 8, .inl g)) = wX ct a (set2 x 6 g) := rfl
theorem wX_g7 (ct : Nat → ClassId) (a : Nat → Nat) (x : Nat → Nat → Int32) : (wX ct a x)[7]? = some (a 7, .inl (ct 0, 8, .inl (x 7))) := rfl
theorem wX_a7 (ct : Nat → ClassId) (a : Nat → Nat) (x : Nat → Nat → Int32) (g : Nat → Int32) : (wX ct a x).set 7 (a 7, .inl (ct 0, 8, .inl g)) = wX ct a (set2 x 7 g) := rfl
theorem wX_g8 (ct : Nat → ClassId) (a : Nat → Nat) (x : Nat → Nat → Int32) : (wX ct a x)[8]? = some (a 8, .inl (ct 0, 10, .inl (x 8))) := rfl
theorem wX_a8 (ct : Nat → ClassId) (a : Nat → Nat) (x : Nat → Nat → Int32) (g : Nat → Int32) : (wX ct a x).set 8 (a 8, .inl (ct 0, 10, .inl g)) = wX ct a (set2 x 8 g) := rfl
theorem wX_g9 (ct : Nat → ClassId) (a : Nat → Nat) (x : Nat → Nat → Int32) : (wX ct a x)[9]? = some (a 9, .inl (ct 0, 10, .inl (x 9))) := rfl
theorem wX_a9 (ct : Nat → ClassId) (a : Nat → Nat) (x : Nat → Nat → Int32) (g : Nat → Int32) : (wX ct a x).set 9 (a 9, .inl (ct 0, 10, .inl g)) = wX ct a (set2 x 9 g) := rfl
theorem wX_g10 (ct : Nat → ClassId) (a : Nat → Nat) (x : Nat → Nat → Int32) : (wX ct a x)[10]? = some (a 10, .inl (ct 0, 10, .inl (x 10))) := rfl
theorem wX_a10 (ct : Nat → ClassId) (a : Nat → Nat) (x : Nat → Nat → Int32) (g : Nat → Int32) : (wX ct a x).set 10 (a 10, .inl (ct 0, 10, .inl g)) = wX ct a (set2 x 10 g) := rfl
theorem wX_g11 (ct : Nat → ClassId) (a : Nat → Nat) (x : Nat → Nat → Int32) : (wX ct a x)[11]? = some (a 11, .inl (ct 0, 10, .inl (x 11))) := rfl
theorem wX_a11 (ct : Nat → ClassId) (a : Nat → Nat) (x : Nat → Nat → Int32) (g : Nat → Int32) : (wX ct a x).set 11 (a 11, .inl (ct 0, 10, .inl g)) = wX ct a (set2 x 11 g) := rfl
theorem wX_g12 (ct : Nat → ClassId) (a : Nat → Nat) (x : Nat → Nat → Int32) : (wX ct a x)[12]? = some (a 32, .inr (0, [.ref (a 12), .ref (a 13), .ref (a 14), .ref (a 15)])) := rfl
theorem wX_g13 (ct : Nat → ClassId) (a : Nat → Nat) (x : Nat → Nat → Int32) : (wX ct a x)[13]? = some (a 12, .inl (ct 0, 10, .inl (x 12))) := rfl
theorem wX_a13 (ct : Nat → ClassId) (a : Nat → Nat) (x : Nat → Nat → Int32) (g : Nat → Int32) : (wX ct a x).set 13 (a 12, .inl (ct 0, 10, .inl g)) = wX ct a (set2 x 12 g) := rfl
theorem wX_g14 (ct : Nat → ClassId) (a : Nat → Nat) (x : Nat → Nat → Int32) : (wX ct a x)[14]? = some (a 13, .inl (ct 0, 10, .inl (x 13))) := rfl
theorem wX_a14 (ct : Nat → ClassId) (a : Nat → Nat) (x : Nat → Nat → Int32) (g : Nat → Int32) : (wX ct a x).set 14 (a 13, .inl (ct 0, 10, .inl g)) = wX ct a (set2 x 13 g) := rfl
theorem wX_g15 (ct : Nat → ClassId) (a : Nat → Nat) (x : Nat → Nat → Int32) : (wX ct a x)[15]? = some (a 14, .inl (ct 0, 10, .inl (x 14))) := rfl
theorem wX_a15 (ct : Nat → ClassId) (a : Nat → Nat) (x : Nat → Nat → Int32) (g : Nat → Int32) : (wX ct a x).set 15 (a 14, .inl (ct 0, 10, .inl g)) = wX ct a (set2 x 14 g) := rfl
theorem wX_g16 (ct : Nat → ClassId) (a : Nat → Nat) (x : Nat → Nat → Int32) : (wX ct a x)[16]? = some (a 15, .inl (ct 0, 10, .inl (x 15))) := rfl
theorem wX_a16 (ct : Nat → ClassId) (a : Nat → Nat) (x : Nat → Nat → Int32) (g : Nat → Int32) : (wX ct a x).set 16 (a 15, .inl (ct 0, 10, .inl g)) = wX ct a (set2 x 15 g) := rfl
theorem wX_g17 (ct : Nat → ClassId) (a : Nat → Nat) (x : Nat → Nat → Int32) : (wX ct a x)[17]? = some (a 33, .inr (2, [.int (x 16 0), .ref (a 17), .ref (a 18), .ref (a 19), .ref (a 20), .int (x 21 0), .int (x 22 0), .ref (a 23), .ref (a 24), .ref (a 25), .ref (a 26)])) := rfl
theorem wX_s17_0 (ct : Nat → ClassId) (a : Nat → Nat) (x : Nat → Nat → Int32) (v : Int32) : (wX ct a x).set 17 (a 33, .inr (2, ([.int (x 16 0), .ref (a 17), .ref (a 18), .ref (a 19), .ref (a 20), .int (x 21 0), .int (x 22 0), .ref (a 23), .ref (a 24), .ref (a 25), .ref (a 26)] : List Value).set 0 (.int v))) = wX ct a (set2 x 16 (fun _ => v)) := rfl
theorem wX_s17_5 (ct : Nat → ClassId) (a : Nat → Nat) (x : Nat → Nat → Int32) (v : Int32) : (wX ct a x).set 17 (a 33, .inr (2, ([.int (x 16 0), .ref (a 17), .ref (a 18), .ref (a 19), .ref (a 20), .int (x 21 0), .int (x 22 0), .ref (a 23), .ref (a 24), .ref (a 25), .ref (a 26)] : List Value).set 5 (.int v))) = wX ct a (set2 x 21 (fun _ => v)) := rfl
theorem wX_s17_6 (ct : Nat → ClassId) (a : Nat → Nat) (x : Nat → Nat → Int32) (v : Int32) : (wX ct a x).set 17 (a 33, .inr (2, ([.int (x 16 0), .ref (a 17), .ref (a 18), .ref (a 19), .ref (a 20), .int (x 21 0), .int (x 22 0), .ref (a 23), .ref (a 24), .ref (a 25), .ref (a 26)] : List Value).set 6 (.int v))) = wX ct a (set2 x 22 (fun _ => v)) := rfl
theorem wX_g18 (ct : Nat → ClassId) (a : Nat → Nat) (x : Nat → Nat → Int32) : (wX ct a x)[18]? = some (a 17, .inl (ct 0, 8, .inl (x 17))) := rfl
theorem wX_a18 (ct : Nat → ClassId) (a : Nat → Nat) (x : Nat → Nat → Int32) (g : Nat → Int32) : (wX ct a x).set 18 (a 17, .inl (ct 0, 8, .inl g)) = wX ct a (set2 x 17 g) := rfl
theorem wX_g19 (ct : Nat → ClassId) (a : Nat → Nat) (x : Nat → Nat → Int32) : (wX ct a x)[19]? = some (a 18, .inl (ct 0, 8, .inl (x 18))) := rfl
theorem wX_a19 (ct : Nat → ClassId) (a : Nat → Nat) (x : Nat → Nat → Int32) (g : Nat → Int32) : (wX ct a x).set 19 (a 18, .inl (ct 0, 8, .inl g)) = wX ct a (set2 x 18 g) := rfl
theorem wX_g20 (ct : Nat → ClassId) (a : Nat → Nat) (x : Nat → Nat → Int32) : (wX ct a x)[20]? = some (a 19, .inl (ct 0, 8, .inl (x 19))) := rfl
theorem wX_a20 (ct : Nat → ClassId) (a : Nat → Nat) (x : Nat → Nat → Int32) (g : Nat → Int32) : (wX ct a x).set 20 (a 19, .inl (ct 0, 8, .inl g)) = wX ct a (set2 x 19 g) := rfl
theorem wX_g21 (ct : Nat → ClassId) (a : Nat → Nat) (x : Nat → Nat → Int32) : (wX ct a x)[21]? = some (a 20, .inl (ct 0, 80, .inl (x 20))) := rfl
theorem wX_a21 (ct : Nat → ClassId) (a : Nat → Nat) (x : Nat → Nat → Int32) (g : Nat → Int32) : (wX ct a x).set 21 (a 20, .inl (ct 0, 80, .inl g)) = wX ct a (set2 x 20 g) := rfl
theorem wX_g22 (ct : Nat → ClassId) (a : Nat → Nat) (x : Nat → Nat → Int32) : (wX ct a x)[22]? = some (a 23, .inl (ct 0, 8, .inl (x 23))) := rfl
theorem wX_a22 (ct : Nat → ClassId) (a : Nat → Nat) (x : Nat → Nat → Int32) (g : Nat → Int32) : (wX ct a x).set 22 (a 23, .inl (ct 0, 8, .inl g)) = wX ct a (set2 x 23 g) := rfl
theorem wX_g23 (ct : Nat → ClassId) (a : Nat → Nat) (x : Nat → Nat → Int32) : (wX ct a x)[23]? = some (a 24, .inl (ct 0, 10, .inl (x 24))) := rfl
theorem wX_a23 (ct : Nat → ClassId) (a : Nat → Nat) (x : Nat → Nat → Int32) (g : Nat → Int32) : (wX ct a x).set 23 (a 24, .inl (ct 0, 10, .inl g)) = wX ct a (set2 x 24 g) := rfl
theorem wX_g24 (ct : Nat → ClassId) (a : Nat → Nat) (x : Nat → Nat → Int32) : (wX ct a x)[24]? = some (a 25, .inl (ct 0, 10, .inl (x 25))) := rfl
theorem wX_a24 (ct : Nat → ClassId) (a : Nat → Nat) (x : Nat → Nat → Int32) (g : Nat → Int32) : (wX ct a x).set 24 (a 25, .inl (ct 0, 10, .inl g)) = wX ct a (set2 x 25 g) := rfl
theorem wX_g25 (ct : Nat → ClassId) (a : Nat → Nat) (x : Nat → Nat → Int32) : (wX ct a x)[25]? = some (a 26, .inl (ct 0, 10, .inl (x 26))) := rfl
theorem wX_a25 (ct : Nat → ClassId) (a : Nat → Nat) (x : Nat → Nat → Int32) (g : Nat → Int32) : (wX ct a x).set 25 (a 26, .inl (ct 0, 10, .inl g)) = wX ct a (set2 x 26 g) := rfl
theorem wL_g0 (ct : Nat → ClassId) (a : Nat → Nat) (x : Nat → Nat → Int32) : (wL ct a x)[0]? = some (a 40, .inl (ct 0, 8, .inl (x 40))) := rfl
theorem wL_a0 (ct : Nat → ClassId) (a : Nat → Nat) (x : Nat → Nat → Int32) (g : Nat → Int32) : (wL ct a x).set 0 (a 40, .inl (ct 0, 8, .inl g)) = wL ct a (set2 x 40 g) := rfl
theorem wL_g1 (ct : Nat → ClassId) (a : Nat → Nat) (x : Nat → Nat → Int32) : (wL ct a x)[1]? = some (a 41, .inl (ct 0, 8, .inl (x 41))) := rfl
theorem wL_a1 (ct : Nat → ClassId) (a : Nat → Nat) (x : Nat → Nat → Int32) (g : Nat → Int32) : (wL ct a x).set 1 (a 41, .inl (ct 0, 8, .inl g)) = wL ct a (set2 x 41 g) := rfl
theorem wL_g2 (ct : Nat → ClassId) (a : Nat → Nat) (x : Nat → Nat → Int32) : (wL ct a x)[2]? = some (a 42, .inl (ct 0, 40, .inl (x 42))) := rfl
theorem wL_a2 (ct : Nat → ClassId) (a : Nat → Nat) (x : Nat → Nat → Int32) (g : Nat → Int32) : (wL ct a x).set 2 (a 42, .inl (ct 0, 40, .inl g)) = wL ct a (set2 x 42 g) := rfl
theorem wL_g3 (ct : Nat → ClassId) (a : Nat → Nat) (x : Nat → Nat → Int32) : (wL ct a x)[3]? = some (a 43, .inl (ct 0, 12, .inl (x 43))) := rfl
theorem wL_a3 (ct : Nat → ClassId) (a : Nat → Nat) (x : Nat → Nat → Int32) (g : Nat → Int32) : (wL ct a x).set 3 (a 43, .inl (ct 0, 12, .inl g)) = wL ct a (set2 x 43 g) := rfl
theorem wL_g4 (ct : Nat → ClassId) (a : Nat → Nat) (x : Nat → Nat → Int32) : (wL ct a x)[4]? = some (a 44, .inl (ct 0, 20, .inl (x 44))) := rfl
theorem wL_a4 (ct : Nat → ClassId) (a : Nat → Nat) (x : Nat → Nat → Int32) (g : Nat → Int32) : (wL ct a x).set 4 (a 44, .inl (ct 0, 20, .inl g)) = wL ct a (set2 x 44 g) := rfl
theorem wL_g5 (ct : Nat → ClassId) (a : Nat → Nat) (x : Nat → Nat → Int32) : (wL ct a x)[5]? = some (a 45, .inl (ct 0, 32, .inl (x 45))) := rfl
theorem wL_a5 (ct : Nat → ClassId) (a : Nat → Nat) (x : Nat → Nat → Int32) (g : Nat → Int32) : (wL ct a x).set 5 (a 45, .inl (ct 0, 32, .inl g)) = wL ct a (set2 x 45 g) := rfl
theorem wA_g0 (ct : Nat → ClassId) (a : Nat → Nat) (x : Nat → Nat → Int32) : (wA ct a x)[0]? = some (a 30, .inr (3, [.int (x 0 0), .ref (a 1), .ref (a 2), .ref (a 3), .ref (a 31), .ref (a 32), .ref (a 33)])) := rfl
theorem wA_s0_0 (ct : Nat → ClassId) (a : Nat → Nat) (x : Nat → Nat → Int32) (v : Int32) : (wA ct a x).set 0 (a 30, .inr (3, ([.int (x 0 0), .ref (a 1), .ref (a 2), .ref (a 3), .ref (a 31), .ref (a 32), .ref (a 33)] : List Value).set 0 (.int v))) = wA ct a (set2 x 0 (fun _ => v)) := rfl
theorem wA_g1 (ct : Nat → ClassId) (a : Nat → Nat) (x : Nat → Nat → Int32) : (wA ct a x)[1]? = some (a 1, .inl (ct 0, 10, .inl (x 1))) := rfl
theorem wA_a1 (ct : Nat → ClassId) (a : Nat → Nat) (x : Nat → Nat → Int32) (g : Nat → Int32) : (wA ct a x).set 1 (a 1, .inl (ct 0, 10, .inl g)) = wA ct a (set2 x 1 g) := rfl
theorem wA_g2 (ct : Nat → ClassId) (a : Nat → Nat) (x : Nat → Nat → Int32) : (wA ct a x)[2]? = some (a 2, .inl (ct 0, 10, .inl (x 2))) := rfl
theorem wA_a2 (ct : Nat → ClassId) (a : Nat → Nat) (x : Nat → Nat → Int32) (g : Nat → Int32) : (wA ct a x).set 2 (a 2, .inl (ct 0, 10, .inl g)) = wA ct a (set2 x 2 g) := rfl
theorem wA_g3 (ct : Nat → ClassId) (a : Nat → Nat) (x : Nat → Nat → Int32) : (wA ct a x)[3]? = some (a 3, .inl (ct 1, 10, .inl (x 3))) := rfl
theorem wA_a3 (ct : Nat → ClassId) (a : Nat → Nat) (x : Nat → Nat → Int32) (g : Nat → Int32) : (wA ct a x).set 3 (a 3, .inl (ct 1, 10, .inl g)) = wA ct a (set2 x 3 g) := rfl
theorem wA_g4 (ct : Nat → ClassId) (a : Nat → Nat) (x : Nat → Nat → Int32) : (wA ct a x)[4]? = some (a 31, .inr (1, [.int (x 4 0), .ref (a 5), .ref (a 6), .ref (a 7), .ref (a 8), .ref (a 9), .ref (a 10), .ref (a 11)])) := rfl
theorem wA_s4_0 (ct : Nat → ClassId) (a : Nat → Nat) (x : Nat → Nat → Int32) (v : Int32) : (wA ct a x).set 4 (a 31, .inr (1, ([.int (x 4 0), .ref (a 5), .ref (a 6), .ref (a 7), .ref (a 8), .ref (a 9), .ref (a 10), .ref (a 11)] : List Value).set 0 (.int v))) = wA ct a (set2 x 4 (fun _ => v)) := rfl
theorem wA_g5 (ct : Nat → ClassId) (a : Nat → Nat) (x : Nat → Nat → Int32) : (wA ct a x)[5]? = some (a 5, .inl (ct 0, 2, .inl (x 5))) := rfl
theorem wA_a5 (ct : Nat → ClassId) (a : Nat → Nat) (x : Nat → Nat → Int32) (g : Nat → Int32) : (wA ct a x).set 5 (a 5, .inl (ct 0, 2, .inl g)) = wA ct a (set2 x 5 g) := rfl
theorem wA_g6 (ct : Nat → ClassId) (a : Nat → Nat) (x : Nat → Nat → Int32) : (wA ct a x)[6]? = some (a 6, .inl (ct 0, 8, .inl (x 6))) := rfl
theorem wA_a6 (ct : Nat → ClassId) (a : Nat → Nat) (x : Nat → Nat → Int32) (g : Nat → Int32) : (wA ct a x).set 6 (a 6, .inl (ct 0, 8, .inl g)) = wA ct a (set2 x 6 g) := rfl
theorem wA_g7 (ct : Nat → ClassId) (a : Nat → Nat) (x : Nat → Nat → Int32) : (wA ct a x)[7]? = some (a 7, .inl (ct 0, 8, .inl (x 7))) := rfl
theorem wA_a7 (ct : Nat → ClassId) (a : Nat → Nat) (x : Nat → Nat → Int32) (g : Nat → Int32) : (wA ct a x).set 7 (a 7, .inl (ct 0, 8, .inl g)) = wA ct a (set2 x 7 g) := rfl
theorem wA_g8 (ct : Nat → ClassId) (a : Nat → Nat) (x : Nat → Nat → Int32) : (wA ct a x)[8]? = some (a 8, .inl (ct 0, 10, .inl (x 8))) := rfl
theorem wA_a8 (ct : Nat → ClassId) (a : Nat → Nat) (x : Nat → Nat → Int32) (g : Nat → Int32) : (wA ct a x).set 8 (a 8, .inl (ct 0, 10, .inl g)) = wA ct a (set2 x 8 g) := rfl
theorem wA_g9 (ct : Nat → ClassId) (a : Nat → Nat) (x : Nat → Nat → Int32) : (wA ct a x)[9]? = some (a 9, .inl (ct 0, 10, .inl (x 9))) := rfl
theorem wA_a9 (ct : Nat → ClassId) (a : Nat → Nat) (x : Nat → Nat → Int32) (g : Nat → Int32) : (wA ct a x).set 9 (a 9, .inl (ct 0, 10, .inl g)) = wA ct a (set2 x 9 g) := rfl
theorem wA_g10 (ct : Nat → ClassId) (a : Nat → Nat) (x : Nat → Nat → Int32) : (wA ct a x)[10]? = some (a 10, .inl (ct 0, 10, .inl (x 10))) := rfl
theorem wA_a10 (ct : Nat → ClassId) (a : Nat → Nat) (x : Nat → Nat → Int32) (g : Nat → Int32) : (wA ct a x).set 10 (a 10, .inl (ct 0, 10, .inl g)) = wA ct a (set2 x 10 g) := rfl
theorem wA_g11 (ct : Nat → ClassId) (a : Nat → Nat) (x : Nat → Nat → Int32) : (wA ct a x)[11]? = some (a 11, .inl (ct 0, 10, .inl (x 11))) := rfl
theorem wA_a11 (ct : Nat → ClassId) (a : Nat → Nat) (x : Nat → Nat → Int32) (g : Nat → Int32) : (wA ct a x).set 11 (a 11, .inl (ct 0, 10, .inl g)) = wA ct a (set2 x 11 g) := rfl
theorem wA_g12 (ct : Nat → ClassId) (a : Nat → Nat) (x : Nat → Nat → Int32) : (wA ct a x)[12]? = some (a 32, .inr (0, [.ref (a 12), .ref (a 13), .ref (a 14), .ref (a 15)])) := rfl
theorem wA_g13 (ct : Nat → ClassId) (a : Nat → Nat) (x : Nat → Nat → Int32) : (wA ct a x)[13]? = some (a 12, .inl (ct 0, 10, .inl (x 12))) := rfl
theorem wA_a13 (ct : Nat → ClassId) (a : Nat → Nat) (x : Nat → Nat → Int32) (g : Nat → Int32) : (wA ct a x).set 13 (a 12, .inl (ct 0, 10, .inl g)) = wA ct a (set2 x 12 g) := rfl
theorem wA_g14 (ct : Nat → ClassId) (a : Nat → Nat) (x : Nat → Nat → Int32) : (wA ct a x)[14]? = some (a 13, .inl (ct 0, 10, .inl (x 13))) := rfl
theorem wA_a14 (ct : Nat → ClassId) (a : Nat → Nat) (x : Nat → Nat → Int32) (g : Nat → Int32) : (wA ct a x).set 14 (a 13, .inl (ct 0, 10, .inl g)) = wA ct a (set2 x 13 g) := rfl
theorem wA_g15 (ct : Nat → ClassId) (a : Nat → Nat) (x : Nat → Nat → Int32) : (wA ct a x)[15]? = some (a 14, .inl (ct 0, 10, .inl (x 14))) := rfl
theorem wA_a15 (ct : Nat → ClassId) (a : Nat → Nat) (x : Nat → Nat → Int32) (g : Nat → Int32) : (wA ct a x).set 15 (a 14, .inl (ct 0, 10, .inl g)) = wA ct a (set2 x 14 g) := rfl
theorem wA_g16 (ct : Nat → ClassId) (a : Nat → Nat) (x : Nat → Nat → Int32) : (wA ct a x)[16]? = some (a 15, .inl (ct 0, 10, .inl (x 15))) := rfl
theorem wA_a16 (ct : Nat → ClassId) (a : Nat → Nat) (x : Nat → Nat → Int32) (g : Nat → Int32) : (wA ct a x).set 16 (a 15, .inl (ct 0, 10, .inl g)) = wA ct a (set2 x 15 g) := rfl
theorem wA_g17 (ct : Nat → ClassId) (a : Nat → Nat) (x : Nat → Nat → Int32) : (wA ct a x)[17]? = some (a 33, .inr (2, [.int (x 16 0), .ref (a 17), .ref (a 18), .ref (a 19), .ref (a 20), .int (x 21 0), .int (x 22 0), .ref (a 23), .ref (a 24), .ref (a 25), .ref (a 26)])) := rfl
theorem wA_s17_0 (ct : Nat → ClassId) (a : Nat → Nat) (x : Nat → Nat → Int32) (v : Int32) : (wA ct a x).set 17 (a 33, .inr (2, ([.int (x 16 0), .ref (a 17), .ref (a 18), .ref (a 19), .ref (a 20), .int (x 21 0), .int (x 22 0), .ref (a 23), .ref (a 24), .ref (a 25), .ref (a 26)] : List Value).set 0 (.int v))) = wA ct a (set2 x 16 (fun _ => v)) := rfl
theorem wA_s17_5 (ct : Nat → ClassId) (a : Nat → Nat) (x : Nat → Nat → Int32) (v : Int32) : (wA ct a x).set 17 (a 33, .inr (2, ([.int (x 16 0), .ref (a 17), .ref (a 18), .ref (a 19), .ref (a 20), .int (x 21 0), .int (x 22 0), .ref (a 23), .ref (a 24), .ref (a 25), .ref (a 26)] : List Value).set 5 (.int v))) = wA ct a (set2 x 21 (fun _ => v)) := rfl
theorem wA_s17_6 (ct : Nat → ClassId) (a : Nat → Nat) (x : Nat → Nat → Int32) (v : Int32) : (wA ct a x).set 17 (a 33, .inr (2, ([.int (x 16 0), .ref (a 17), .ref (a 18), .ref (a 19), .ref (a 20), .int (x 21 0), .int (x 22 0), .ref (a 23), .ref (a 24), .ref (a 25), .ref (a 26)] : List Value).set 6 (.int v))) = wA ct a (set2 x 22 (fun _ => v)) := rfl
theorem wA_g18 (ct : Nat → ClassId) (a : Nat → Nat) (x : Nat → Nat → Int32) : (wA ct a x)[18]? = some (a 17, .inl (ct 0, 8, .inl (x 17))) := rfl
theorem wA_a18 (ct : Nat → ClassId) (a : Nat → Nat) (x : Nat → Nat → Int32) (g : Nat → Int32) : (wA ct a x).set 18 (a 17, .inl (ct 0, 8, .inl g)) = wA ct a (set2 x 17 g) := rfl
theorem wA_g19 (ct : Nat → ClassId) (a : Nat → Nat) (x : Nat → Nat → Int32) : (wA ct a x)[19]? = some (a 18, .inl (ct 0, 8, .inl (x 18))) := rfl
theorem wA_a19 (ct : Nat → ClassId) (a : Nat → Nat) (x : Nat → Nat → Int32) (g : Nat → Int32) : (wA ct a x).set 19 (a 18, .inl (ct 0, 8, .inl g)) = wA ct a (set2 x 18 g) := rfl
theorem wA_g20 (ct : Nat → ClassId) (a : Nat → Nat) (x : Nat → Nat → Int32) : (wA ct a x)[20]? = some (a 19, .inl (ct 0, 8, .inl (x 19))) := rfl
theorem wA_a20 (ct : Nat → ClassId) (a : Nat → Nat) (x : Nat → Nat → Int32) (g : Nat → Int32) : (wA ct a x).set 20 (a 19, .inl (ct 0, 8, .inl g)) = wA ct a (set2 x 19 g) := rfl
theorem wA_g21 (ct : Nat → ClassId) (a : Nat → Nat) (x : Nat → Nat → Int32) : (wA ct a x)[21]? = some (a 20, .inl (ct 0, 80, .inl (x 20))) := rfl
theorem wA_a21 (ct : Nat → ClassId) (a : Nat → Nat) (x : Nat → Nat → Int32) (g : Nat → Int32) : (wA ct a x).set 21 (a 20, .inl (ct 0, 80, .inl g)) = wA ct a (set2 x 20 g) := rfl
theorem wA_g22 (ct : Nat → ClassId) (a : Nat → Nat) (x : Nat → Nat → Int32) : (wA ct a x)[22]? = some (a 23, .inl (ct 0, 8, .inl (x 23))) := rfl
theorem wA_a22 (ct : Nat → ClassId) (a : Nat → Nat) (x : Nat → Nat → Int32) (g : Nat → Int32) : (wA ct a x).set 22 (a 23, .inl (ct 0, 8, .inl g)) = wA ct a (set2 x 23 g) := rfl
theorem wA_g23 (ct : Nat → ClassId) (a : Nat → Nat) (x : Nat → Nat → Int32) : (wA ct a x)[23]? = some (a 24, .inl (ct 0, 10, .inl (x 24))) := rfl
theorem wA_a23 (ct : Nat → ClassId) (a : Nat → Nat) (x : Nat → Nat → Int32) (g : Nat → Int32) : (wA ct a x).set 23 (a 24, .inl (ct 0, 10, .inl g)) = wA ct a (set2 x 24 g) := rfl
theorem wA_g24 (ct : Nat → ClassId) (a : Nat → Nat) (x : Nat → Nat → Int32) : (wA ct a x)[24]? = some (a 25, .inl (ct 0, 10, .inl (x 25))) := rfl
theorem wA_a24 (ct : Nat → ClassId) (a : Nat → Nat) (x : Nat → Nat → Int32) (g : Nat → Int32) : (wA ct a x).set 24 (a 25, .inl (ct 0, 10, .inl g)) = wA ct a (set2 x 25 g) := rfl
theorem wA_g25 (ct : Nat → ClassId) (a : Nat → Nat) (x : Nat → Nat → Int32) : (wA ct a x)[25]? = some (a 26, .inl (ct 0, 10, .inl (x 26))) := rfl
theorem wA_a25 (ct : Nat → ClassId) (a : Nat → Nat) (x : Nat → Nat → Int32) (g : Nat → Int32) : (wA ct a x).set 25 (a 26, .inl (ct 0, 10, .inl g)) = wA ct a (set2 x 26 g) := rfl
theorem wA_g26 (ct : Nat → ClassId) (a : Nat → Nat) (x : Nat → Nat → Int32) : (wA ct a x)[26]? = some (a 40, .inl (ct 0, 8, .inl (x 40))) := rfl
theorem wA_a26 (ct : Nat → ClassId) (a : Nat → Nat) (x : Nat → Nat → Int32) (g : Nat → Int32) : (wA ct a x).set 26 (a 40, .inl (ct 0, 8, .inl g)) = wA ct a (set2 x 40 g) := rfl
theorem wA_g27 (ct : Nat → ClassId) (a : Nat → Nat) (x : Nat → Nat → Int32) : (wA ct a x)[27]? = some (a 41, .inl (ct 0, 8, .inl (x 41))) := rfl
theorem wA_a27 (ct : Nat → ClassId) (a : Nat → Nat) (x : Nat → Nat → Int32) (g : Nat → Int32) : (wA ct a x).set 27 (a 41, .inl (ct 0, 8, .inl g)) = wA ct a (set2 x 41 g) := rfl
theorem wA_g28 (ct : Nat → ClassId) (a : Nat → Nat) (x : Nat → Nat → Int32) : (wA ct a x)[28]? = some (a 42, .inl (ct 0, 40, .inl (x 42))) := rfl
theorem wA_a28 (ct : Nat → ClassId) (a : Nat → Nat) (x : Nat → Nat → Int32) (g : Nat → Int32) : (wA ct a x).set 28 (a 42, .inl (ct 0, 40, .inl g)) = wA ct a (set2 x 42 g) := rfl
theorem wA_g29 (ct : Nat → ClassId) (a : Nat → Nat) (x : Nat → Nat → Int32) : (wA ct a x)[29]? = some (a 43, .inl (ct 0, 12, .inl (x 43))) := rfl
theorem wA_a29 (ct : Nat → ClassId) (a : Nat → Nat) (x : Nat → Nat → Int32) (g : Nat → Int32) : (wA ct a x).set 29 (a 43, .inl (ct 0, 12, .inl g)) = wA ct a (set2 x 43 g) := rfl
theorem wA_g30 (ct : Nat → ClassId) (a : Nat → Nat) (x : Nat → Nat → Int32) : (wA ct a x)[30]? = some (a 44, .inl (ct 0, 20, .inl (x 44))) := rfl
theorem wA_a30 (ct : Nat → ClassId) (a : Nat → Nat) (x : Nat → Nat → Int32) (g : Nat → Int32) : (wA ct a x).set 30 (a 44, .inl (ct 0, 20, .inl g)) = wA ct a (set2 x 44 g) := rfl
theorem wA_g31 (ct : Nat → ClassId) (a : Nat → Nat) (x : Nat → Nat → Int32) : (wA ct a x)[31]? = some (a 45, .inl (ct 0, 32, .inl (x 45))) := rfl
theorem wA_a31 (ct : Nat → ClassId) (a : Nat → Nat) (x : Nat → Nat → Int32) (g : Nat → Int32) : (wA ct a x).set 31 (a 45, .inl (ct 0, 32, .inl g)) = wA ct a (set2 x 45 g) := rfl
theorem wO_g0 (ct : Nat → ClassId) (a : Nat → Nat) (o n : Nat) (x : Nat → Nat → Int32) : (wO ct a o n x)[0]? = some (a 30, .inr (3, [.int (x 0 0), .ref (a 1), .ref (a 2), .ref (a 3), .ref (a 31), .ref (a 32), .ref (a 33)])) := rfl
theorem wO_g1 (ct : Nat → ClassId) (a : Nat → Nat) (o n : Nat) (x : Nat → Nat → Int32) : (wO ct a o n x)[1]? = some (a 1, .inl (ct 0, 10, .inl (x 1))) := rfl
theorem wO_g2 (ct : Nat → ClassId) (a : Nat → Nat) (o n : Nat) (x : Nat → Nat → Int32) : (wO ct a o n x)[2]? = some (a 2, .inl (ct 0, 10, .inl (x 2))) := rfl
theorem wO_g3 (ct : Nat → ClassId) (a : Nat → Nat) (o n : Nat) (x : Nat → Nat → Int32) : (wO ct a o n x)[3]? = some (a 3, .inl (ct 1, 10, .inl (x 3))) := rfl
theorem wO_g4 (ct : Nat → ClassId) (a : Nat → Nat) (o n : Nat) (x : Nat → Nat → Int32) : (wO ct a o n x)[4]? = some (a 31, .inr (1, [.int (x 4 0), .ref (a 5), .ref (a 6), .ref (a 7), .ref (a 8), .ref (a 9), .ref (a 10), .ref (a 11)])) := rfl
theorem wO_g5 (ct : Nat → ClassId) (a : Nat → Nat) (o n : Nat) (x : Nat → Nat → Int32) : (wO ct a o n x)[5]? = some (a 5, .inl (ct 0, 2, .inl (x 5))) := rfl
theorem wO_g6 (ct : Nat → ClassId) (a : Nat → Nat) (o n : Nat) (x : Nat → Nat → Int32) : (wO ct a o n x)[6]? = some (a 6, .inl (ct 0, 8, .inl (x 6))) := rfl
theorem wO_g7 (ct : Nat → ClassId) (a : Nat → Nat) (o n : Nat) (x : Nat → Nat → Int32) : (wO ct a o n x)[7]? = some (a 7, .inl (ct 0, 8, .inl (x 7))) := rfl
theorem wO_g8 (ct : Nat → ClassId) (a : Nat → Nat) (o n : Nat) (x : Nat → Nat → Int32) : (wO ct a o n x)[8]? = some (a 8, .inl (ct 0, 10, .inl (x 8))) := rfl
theorem wO_g9 (ct : Nat → ClassId) (a : Nat → Nat) (o n : Nat) (x : Nat → Nat → Int32) : (wO ct a o n x)[9]? = some (a 9, .inl (ct 0, 10, .inl (x 9))) := rfl
theorem wO_g10 (ct : Nat → ClassId) (a : Nat → Nat) (o n : Nat) (x : Nat → Nat → Int32) : (wO ct a o n x)[10]? = some (a 10, .inl (ct 0, 10, .inl (x 10))) := rfl
theorem wO_g11 (ct : Nat → ClassId) (a : Nat → Nat) (o n : Nat) (x : Nat → Nat → Int32) : (wO ct a o n x)[11]? = some (a 11, .inl (ct 0, 10, .inl (x 11))) := rfl
theorem wO_g12 (ct : Nat → ClassId) (a : Nat → Nat) (o n : Nat) (x : Nat → Nat → Int32) : (wO ct a o n x)[12]? = some (a 32, .inr (0, [.ref (a 12), .ref (a 13), .ref (a 14), .ref (a 15)])) := rfl
theorem wO_g13 (ct : Nat → ClassId) (a : Nat → Nat) (o n : Nat) (x : Nat → Nat → Int32) : (wO ct a o n x)[13]? = some (a 12, .inl (ct 0, 10, .inl (x 12))) := rfl
theorem wO_g14 (ct : Nat → ClassId) (a : Nat → Nat) (o n : Nat) (x : Nat → Nat → Int32) : (wO ct a o n x)[14]? = some (a 13, .inl (ct 0, 10, .inl (x 13))) := rfl
theorem wO_g15 (ct : Nat → ClassId) (a : Nat → Nat) (o n : Nat) (x : Nat → Nat → Int32) : (wO ct a o n x)[15]? = some (a 14, .inl (ct 0, 10, .inl (x 14))) := rfl
theorem wO_g16 (ct : Nat → ClassId) (a : Nat → Nat) (o n : Nat) (x : Nat → Nat → Int32) : (wO ct a o n x)[16]? = some (a 15, .inl (ct 0, 10, .inl (x 15))) := rfl
theorem wO_g17 (ct : Nat → ClassId) (a : Nat → Nat) (o n : Nat) (x : Nat → Nat → Int32) : (wO ct a o n x)[17]? = some (a 33, .inr (2, [.int (x 16 0), .ref (a 17), .ref (a 18), .ref (a 19), .ref (a 20), .int (x 21 0), .int (x 22 0), .ref (a 23), .ref (a 24), .ref (a 25), .ref (a 26)])) := rfl
theorem wO_g18 (ct : Nat → ClassId) (a : Nat → Nat) (o n : Nat) (x : Nat → Nat → Int32) : (wO ct a o n x)[18]? = some (a 17, .inl (ct 0, 8, .inl (x 17))) := rfl
theorem wO_g19 (ct : Nat → ClassId) (a : Nat → Nat) (o n : Nat) (x : Nat → Nat → Int32) : (wO ct a o n x)[19]? = some (a 18, .inl (ct 0, 8, .inl (x 18))) := rfl
theorem wO_g20 (ct : Nat → ClassId) (a : Nat → Nat) (o n : Nat) (x : Nat → Nat → Int32) : (wO ct a o n x)[20]? = some (a 19, .inl (ct 0, 8, .inl (x 19))) := rfl
theorem wO_g21 (ct : Nat → ClassId) (a : Nat → Nat) (o n : Nat) (x : Nat → Nat → Int32) : (wO ct a o n x)[21]? = some (a 20, .inl (ct 0, 80, .inl (x 20))) := rfl
theorem wO_g22 (ct : Nat → ClassId) (a : Nat → Nat) (o n : Nat) (x : Nat → Nat → Int32) : (wO ct a o n x)[22]? = some (a 23, .inl (ct 0, 8, .inl (x 23))) := rfl
theorem wO_g23 (ct : Nat → ClassId) (a : Nat → Nat) (o n : Nat) (x : Nat → Nat → Int32) : (wO ct a o n x)[23]? = some (a 24, .inl (ct 0, 10, .inl (x 24))) := rfl
theorem wO_g24 (ct : Nat → ClassId) (a : Nat → Nat) (o n : Nat) (x : Nat → Nat → Int32) : (wO ct a o n x)[24]? = some (a 25, .inl (ct 0, 10, .inl (x 25))) := rfl
theorem wO_g25 (ct : Nat → ClassId) (a : Nat → Nat) (o n : Nat) (x : Nat → Nat → Int32) : (wO ct a o n x)[25]? = some (a 26, .inl (ct 0, 10, .inl (x 26))) := rfl
theorem wO_g26 (ct : Nat → ClassId) (a : Nat → Nat) (o n : Nat) (x : Nat → Nat → Int32) : (wO ct a o n x)[26]? = some (a 40, .inl (ct 0, 8, .inl (x 40))) := rfl
theorem wO_a26 (ct : Nat → ClassId) (a : Nat → Nat) (o n : Nat) (x : Nat → Nat → Int32) (g : Nat → Int32) : (wO ct a o n x).set 26 (a 40, .inl (ct 0, 8, .inl g)) = wO ct a o n (set2 x 40 g) := rfl
theorem wO_g27 (ct : Nat → ClassId) (a : Nat → Nat) (o n : Nat) (x : Nat → Nat → Int32) : (wO ct a o n x)[27]? = some (a 41, .inl (ct 0, 8, .inl (x 41))) := rfl
theorem wO_a27 (ct : Nat → ClassId) (a : Nat → Nat) (o n : Nat) (x : Nat → Nat → Int32) (g : Nat → Int32) : (wO ct a o n x).set 27 (a 41, .inl (ct 0, 8, .inl g)) = wO ct a o n (set2 x 41 g) := rfl
theorem wO_g28 (ct : Nat → ClassId) (a : Nat → Nat) (o n : Nat) (x : Nat → Nat → Int32) : (wO ct a o n x)[28]? = some (a 42, .inl (ct 0, 40, .inl (x 42))) := rfl
theorem wO_a28 (ct : Nat → ClassId) (a : Nat → Nat) (o n : Nat) (x : Nat → Nat → Int32) (g : Nat → Int32) : (wO ct a o n x).set 28 (a 42, .inl (ct 0, 40, .inl g)) = wO ct a o n (set2 x 42 g) := rfl
theorem wO_g29 (ct : Nat → ClassId) (a : Nat → Nat) (o n : Nat) (x : Nat → Nat → Int32) : (wO ct a o n x)[29]? = some (a 43, .inl (ct 0, 12, .inl (x 43))) := rfl
theorem wO_a29 (ct : Nat → ClassId) (a : Nat → Nat) (o n : Nat) (x : Nat → Nat → Int32) (g : Nat → Int32) : (wO ct a o n x).set 29 (a 43, .inl (ct 0, 12, .inl g)) = wO ct a o n (set2 x 43 g) := rfl
theorem wO_g30 (ct : Nat → ClassId) (a : Nat → Nat) (o n : Nat) (x : Nat → Nat → Int32) : (wO ct a o n x)[30]? = some (a 44, .inl (ct 0, 20, .inl (x 44))) := rfl
theorem wO_a30 (ct : Nat → ClassId) (a : Nat → Nat) (o n : Nat) (x : Nat → Nat → Int32) (g : Nat → Int32) : (wO ct a o n x).set 30 (a 44, .inl (ct 0, 20, .inl g)) = wO ct a o n (set2 x 44 g) := rfl
theorem wO_g31 (ct : Nat → ClassId) (a : Nat → Nat) (o n : Nat) (x : Nat → Nat → Int32) : (wO ct a o n x)[31]? = some (a 45, .inl (ct 0, 32, .inl (x 45))) := rfl
theorem wO_a31 (ct : Nat → ClassId) (a : Nat → Nat) (o n : Nat) (x : Nat → Nat → Int32) (g : Nat → Int32) : (wO ct a o n x).set 31 (a 45, .inl (ct 0, 32, .inl g)) = wO ct a o n (set2 x 45 g) := rfl
theorem wO_g32 (ct : Nat → ClassId) (a : Nat → Nat) (o n : Nat) (x : Nat → Nat → Int32) : (wO ct a o n x)[32]? = some (o, .inl (ct 0, n, .inl (x 46))) := rfl
theorem wO_a32 (ct : Nat → ClassId) (a : Nat → Nat) (o n : Nat) (x : Nat → Nat → Int32) (g : Nat → Int32) : (wO ct a o n x).set 32 (o, .inl (ct 0, n, .inl g)) = wO ct a o n (set2 x 46 g) := rfl
theorem wA_CX (ct : Nat → ClassId) (a : Nat → Nat) (x : Nat → Nat → Int32) : [0, 1, 2, 3, 4, 5, 6, 7, 8, 9, 10, 11, 12, 13, 14, 15, 16, 17, 18, 19, 20, 21, 22, 23, 24, 25].map (fun i => (wA ct a x)[i]?) = (wX ct a x).map some := rfl
theorem wA_RX (ct : Nat → ClassId) (a : Nat → Nat) (x : Nat → Nat → Int32) : [26, 27, 28, 29, 30, 31].map (fun i => (wA ct a x)[i]?) = (qWr (wA ct a x) [26, 27, 28, 29, 30, 31]).map some := rfl
/-- the class's part of x behind, the law's as before -/
theorem wA_2X (ct : Nat → ClassId) (a : Nat → Nat) (x : Nat → Nat → Int32) (x' : Nat → Nat → Int32) : [6, 7, 8, 9, 10, 11, 12, 13, 14, 15, 16, 17, 18, 19, 20, 21, 22, 23, 24, 25, 26, 27, 28, 29, 30, 31, 0, 1, 2, 3, 4, 5].map (fun i => (qWr (wA ct a x) [26, 27, 28, 29, 30, 31] ++ wX ct a x')[i]?) = (wA ct a (mrgX x x')).map some := rfl
theorem wA_CL (ct : Nat → ClassId) (a : Nat → Nat) (x : Nat → Nat → Int32) : [26, 27, 28, 29, 30, 31].map (fun i => (wA ct a x)[i]?) = (wL ct a x).map some := rfl
theorem wA_RL (ct : Nat → ClassId) (a : Nat → Nat) (x : Nat → Nat → Int32) : [0, 1, 2, 3, 4, 5, 6, 7, 8, 9, 10, 11, 12, 13, 14, 15, 16, 17, 18, 19, 20, 21, 22, 23, 24, 25].map (fun i => (wA ct a x)[i]?) = (qWr (wA ct a x) [0, 1, 2, 3, 4, 5, 6, 7, 8, 9, 10, 11, 12, 13, 14, 15, 16, 17, 18, 19, 20, 21, 22, 23, 24, 25]).map some := rfl
theorem wA_2L (ct : Nat → ClassId) (a : Nat → Nat) (x : Nat → Nat → Int32) (x' : Nat → Nat → Int32) : [0, 1, 2, 3, 4, 5, 6, 7, 8, 9, 10, 11, 12, 13, 14, 15, 16, 17, 18, 19, 20, 21, 22, 23, 24, 25, 26, 27, 28, 29, 30, 31].map (fun i => (qWr (wA ct a x) [0, 1, 2, 3, 4, 5, 6, 7, 8, 9, 10, 11, 12, 13, 14, 15, 16, 17, 18, 19, 20, 21, 22, 23, 24, 25] ++ wL ct a x')[i]?) = (wA ct a (mrgL x x')).map some := rfl
theorem wO_CX (ct : Nat → ClassId) (a : Nat → Nat) (o n : Nat) (x : Nat → Nat → Int32) : [0, 1, 2, 3, 4, 5, 6, 7, 8, 9, 10, 11, 12, 13, 14, 15, 16, 17, 18, 19, 20, 21, 22, 23, 24, 25].map (fun i => (wO ct a o n x)[i]?) = (wX ct a x).map some := rfl
theorem wO_RX (ct : Nat → ClassId) (a : Nat → Nat) (o n : Nat) (x : Nat → Nat → Int32) : [26, 27, 28, 29, 30, 31, 32].map (fun i => (wO ct a o n x)[i]?) = (qWr (wO ct a o n x) [26, 27, 28, 29, 30, 31, 32]).map some := rfl
theorem wO_2X (ct : Nat → ClassId) (a : Nat → Nat) (o n : Nat) (x : Nat → Nat → Int32) (x' : Nat → Nat → Int32) : [7, 8, 9, 10, 11, 12, 13, 14, 15, 16, 17, 18, 19, 20, 21, 22, 23, 24, 25, 26, 27, 28, 29, 30, 31, 32, 0, 1, 2, 3, 4, 5, 6].map (fun i => (qWr (wO ct a o n x) [26, 27, 28, 29, 30, 31, 32] ++ wX ct a x')[i]?) = (wO ct a o n (mrgX x x')).map some := rfl
theorem wO_CL (ct : Nat → ClassId) (a : Nat → Nat) (o n : Nat) (x : Nat → Nat → Int32) : [26, 27, 28, 29, 30, 31].map (fun i => (wO ct a o n x)[i]?) = (wL ct a x).map some := rfl
theorem wO_RL (ct : Nat → ClassId) (a : Nat → Nat) (o n : Nat) (x : Nat → Nat → Int32) : [0, 1, 2, 3, 4, 5, 6, 7, 8, 9, 10, 11, 12, 13, 14, 15, 16, 17, 18, 19, 20, 21, 22, 23, 24, 25, 32].map (fun i => (wO ct a o n x)[i]?) = (qWr (wO ct a o n x) [0, 1, 2, 3, 4, 5, 6, 7, 8, 9, 10, 11, 12, 13, 14, 15, 16, 17, 18, 19, 20, 21, 22, 23, 24, 25, 32]).map some := rfl
theorem wO_2L (ct : Nat → ClassId) (a : Nat → Nat) (o n : Nat) (x : Nat → Nat → Int32) (x' : Nat → Nat → Int32) : [0, 1, 2, 3, 4, 5, 6, 7, 8, 9, 10, 11, 12, 13, 14, 15, 16, 17, 18, 19, 20, 21, 22, 23, 24, 25, 27, 28, 29, 30, 31, 32, 26].map (fun i => (qWr (wO ct a o n x) [0, 1, 2, 3, 4, 5, 6, 7, 8, 9, 10, 11, 12, 13, 14, 15, 16, 17, 18, 19, 20, 21, 22, 23, 24, 25, 32] ++ wL ct a x')[i]?) = (wO ct a o n (mrgL x x')).map some := rfl
