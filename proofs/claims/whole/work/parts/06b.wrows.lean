/-! what a world holds at a place, and what it is behind a store, row by row -/
theorem wR_g0 (ct : Nat → ClassId) (a : Nat → Nat) (x : Nat → Nat → Int32) : (wR ct a x)[0]? = some (a 31, .inr (1, [.int (x 4 0), .ref (a 5), .ref (a 6), .ref (a 7), .ref (a 8), .ref (a 9), .ref (a 10), .ref (a 11)])) := rfl
theorem wR_s0_0 (ct : Nat → ClassId) (a : Nat → Nat) (x : Nat → Nat → Int32) (v : Int32) : (wR ct a x).set 0 (a 31, .inr (1, ([.int (x 4 0), .ref (a 5), .ref (a 6), .ref (a 7), .ref (a 8), .ref (a 9), .ref (a 10), .ref (a 11)] : List Value).set 0 (.int v))) = wR ct a (set2 x 4 (fun _ => v)) := rfl
theorem wR_g1 (ct : Nat → ClassId) (a : Nat → Nat) (x : Nat → Nat → Int32) : (wR ct a x)[1]? = some (a 5, .inl (ct 0, 2, .inl (x 5))) := rfl
theorem wR_a1 (ct : Nat → ClassId) (a : Nat → Nat) (x : Nat → Nat → Int32) (g : Nat → Int32) : (wR ct a x).set 1 (a 5, .inl (ct 0, 2, .inl g)) = wR ct a (set2 x 5 g) := rfl
theorem wR_g2 (ct : Nat → ClassId) (a : Nat → Nat) (x : Nat → Nat → Int32) : (wR ct a x)[2]? = some (a 6, .inl (ct 0, 8, .inl (x 6))) := rfl
theorem wR_a2 (ct : Nat → ClassId) (a : Nat → Nat) (x : Nat → Nat → Int32) (g : Nat → Int32) : (wR ct a x).set 2 (a 6, .inl (ct 0, 8, .inl g)) = wR ct a (set2 x 6 g) := rfl
theorem wR_g3 (ct : Nat → ClassId) (a : Nat → Nat) (x : Nat → Nat → Int32) : (wR ct a x)[3]? = some (a 7, .inl (ct 0, 8, .inl (x 7))) := rfl
theorem wR_a3 (ct : Nat → ClassId) (a : Nat → Nat) (x : Nat → Nat → Int32) (g : Nat → Int32) : (wR ct a x).set 3 (a 7, .inl (ct 0, 8, .inl g)) = wR ct a (set2 x 7 g) := rfl
theorem wR_g4 (ct : Nat → ClassId) (a : Nat → Nat) (x : Nat → Nat → Int32) : (wR ct a x)[4]? = some (a 8, .inl (ct 0, 10, .inl (x 8))) := rfl
theorem wR_a4 (ct : Nat → ClassId) (a : Nat → Nat) (x : Nat → Nat → Int32) (g : Nat → Int32) : (wR ct a x).set 4 (a 8, .inl (ct 0, 10, .inl g)) = wR ct a (set2 x 8 g) := rfl
theorem wR_g5 (ct : Nat → ClassId) (a : Nat → Nat) (x : Nat → Nat → Int32) : (wR ct a x)[5]? = some (a 9, .inl (ct 0, 10, .inl (x 9))) := rfl
theorem wR_a5 (ct : Nat → ClassId) (a : Nat → Nat) (x : Nat → Nat → Int32) (g : Nat → Int32) : (wR ct a x).set 5 (a 9, .inl (ct 0, 10, .inl g)) = wR ct a (set2 x 9 g) := rfl
theorem wR_g6 (ct : Nat → ClassId) (a : Nat → Nat) (x : Nat → Nat → Int32) : (wR ct a x)[6]? = some (a 10, .inl (ct 0, 10, .inl (x 10))) := rfl
theorem wR_a6 (ct : Nat → ClassId) (a : Nat → Nat) (x : Nat → Nat → Int32) (g : Nat → Int32) : (wR ct a x).set 6 (a 10, .inl (ct 0, 10, .inl g)) = wR ct a (set2 x 10 g) := rfl
theorem wR_g7 (ct : Nat → ClassId) (a : Nat → Nat) (x : Nat → Nat → Int32) : (wR ct a x)[7]? = some (a 11, .inl (ct 0, 10, .inl (x 11))) := rfl
theorem wR_a7 (ct : Nat → ClassId) (a : Nat → Nat) (x : Nat → Nat → Int32) (g : Nat → Int32) : (wR ct a x).set 7 (a 11, .inl (ct 0, 10, .inl g)) = wR ct a (set2 x 11 g) := rfl
theorem wB_g0 (ct : Nat → ClassId) (a : Nat → Nat) (x : Nat → Nat → Int32) : (wB ct a x)[0]? = some (a 32, .inr (0, [.ref (a 12), .ref (a 13), .ref (a 14), .ref (a 15)])) := rfl
theorem wB_g1 (ct : Nat → ClassId) (a : Nat → Nat) (x : Nat → Nat → Int32) : (wB ct a x)[1]? = some (a 12, .inl (ct 0, 10, .inl (x 12))) := rfl
theorem wB_a1 (ct : Nat → ClassId) (a : Nat → Nat) (x : Nat → Nat → Int32) (g : Nat → Int32) : (wB ct a x).set 1 (a 12, .inl (ct 0, 10, .inl g)) = wB ct a (set2 x 12 g) := rfl
theorem wB_g2 (ct : Nat → ClassId) (a : Nat → Nat) (x : Nat → Nat → Int32) : (wB ct a x)[2]? = some (a 13, .inl (ct 0, 10, .inl (x 13))) := rfl
theorem wB_a2 (ct : Nat → ClassId) (a : Nat → Nat) (x : Nat → Nat → Int32) (g : Nat → Int32) : (wB ct a x).set 2 (a 13, .inl (ct 0, 10, .inl g)) = wB ct a (set2 x 13 g) := rfl
theorem wB_g3 (ct : Nat → ClassId) (a : Nat → Nat) (x : Nat → Nat → Int32) : (wB ct a x)[3]? = some (a 14, .inl (ct 0, 10, .inl (x 14))) := rfl
theorem wB_a3 (ct : Nat → ClassId) (a : Nat → Nat) (x : Nat → Nat → Int32) (g : Nat → Int32) : (wB ct a x).set 3 (a 14, .inl (ct 0, 10, .inl g)) = wB ct a (set2 x 14 g) := rfl
theorem wB_g4 (ct : Nat → ClassId) (a : Nat → Nat) (x : Nat → Nat → Int32) : (wB ct a x)[4]? = some (a 15, .inl (ct 0, 10, .inl (x 15))) := rfl
theorem wB_a4 (ct : Nat → ClassId) (a : Nat → Nat) (x : Nat → Nat → Int32) (g : Nat → Int32) : (wB ct a x).set 4 (a 15, .inl (ct 0, 10, .inl g)) = wB ct a (set2 x 15 g) := rfl
theorem wS_g0 (ct : Nat → ClassId) (a : Nat → Nat) (x : Nat → Nat → Int32) : (wS ct a x)[0]? = some (a 33, .inr (2, [.int (x 16 0), .ref (a 17), .ref (a 18), .ref (a 19), .ref (a 20), .int (x 21 0), .int (x 22 0), .ref (a 23), .ref (a 24), .ref (a 25), .ref (a 26)])) := rfl
theorem wS_s0_0 (ct : Nat → ClassId) (a : Nat → Nat) (x : Nat → Nat → Int32) (v : Int32) : (wS ct a x).set 0 (a 33, .inr (2, ([.int (x 16 0), .ref (a 17), .ref (a 18), .ref (a 19), .ref (a 20), .int (x 21 0), .int (x 22 0), .ref (a 23), .ref (a 24), .ref (a 25), .ref (a 26)] : List Value).set 0 (.int v))) = wS ct a (set2 x 16 (fun _ => v)) := rfl
theorem wS_s0_5 (ct : Nat → ClassId) (a : Nat → Nat) (x : Nat → Nat → Int32) (v : Int32) : (wS ct a x).set 0 (a 33, .inr (2, ([.int (x 16 0), .ref (a 17), .ref (a 18), .ref (a 19), .ref (a 20), .int (x 21 0), .int (x 22 0), .ref (a 23), .ref (a 24), .ref (a 25), .ref (a 26)] : List Value).set 5 (.int v))) = wS ct a (set2 x 21 (fun _ => v)) := rfl
theorem wS_s0_6 (ct : Nat → ClassId) (a : Nat → Nat) (x : Nat → Nat → Int32) (v : Int32) : (wS ct a x).set 0 (a 33, .inr (2, ([.int (x 16 0), .ref (a 17), .ref (a 18), .ref (a 19), .ref (a 20), .int (x 21 0), .int (x 22 0), .ref (a 23), .ref (a 24), .ref (a 25), .ref (a 26)] : List Value).set 6 (.int v))) = wS ct a (set2 x 22 (fun _ => v)) := rfl
theorem wS_g1 (ct : Nat → ClassId) (a : Nat → Nat) (x : Nat → Nat → Int32) : (wS ct a x)[1]? = some (a 17, .inl (ct 0, 8, .inl (x 17))) := rfl
theorem wS_a1 (ct : Nat → ClassId) (a : Nat → Nat) (x : Nat → Nat → Int32) (g : Nat → Int32) : (wS ct a x).set 1 (a 17, .inl (ct 0, 8, .inl g)) = wS ct a (set2 x 17 g) := rfl
theorem wS_g2 (ct : Nat → ClassId) (a : Nat → Nat) (x : Nat → Nat → Int32) : (wS ct a x)[2]? = some (a 18, .inl (ct 0, 8, .inl (x 18))) := rfl
theorem wS_a2 (ct : Nat → ClassId) (a : Nat → Nat) (x : Nat → Nat → Int32) (g : Nat → Int32) : (wS ct a x).set 2 (a 18, .inl (ct 0, 8, .inl g)) = wS ct a (set2 x 18 g) := rfl
theorem wS_g3 (ct : Nat → ClassId) (a : Nat → Nat) (x : Nat → Nat → Int32) : (wS ct a x)[3]? = some (a 19, .inl (ct 0, 8, .inl (x 19))) := rfl
theorem wS_a3 (ct : Nat → ClassId) (a : Nat → Nat) (x : Nat → Nat → Int32) (g : Nat → Int32) : (wS ct a x).set 3 (a 19, .inl (ct 0, 8, .inl g)) = wS ct a (set2 x 19 g) := rfl
theorem wS_g4 (ct : Nat → ClassId) (a : Nat → Nat) (x : Nat → Nat → Int32) : (wS ct a x)[4]? = some (a 20, .inl (ct 0, 80, .inl (x 20))) := rfl
theorem wS_a4 (ct : Nat → ClassId) (a : Nat → Nat) (x : Nat → Nat → Int32) (g : Nat → Int32) : (wS ct a x).set 4 (a 20, .inl (ct 0, 80, .inl g)) = wS ct a (set2 x 20 g) := rfl
theorem wS_g5 (ct : Nat → ClassId) (a : Nat → Nat) (x : Nat → Nat → Int32) : (wS ct a x)[5]? = some (a 23, .inl (ct 0, 8, .inl (x 23))) := rfl
theorem wS_a5 (ct : Nat → ClassId) (a : Nat → Nat) (x : Nat → Nat → Int32) (g : Nat → Int32) : (wS ct a x).set 5 (a 23, .inl (ct 0, 8, .inl g)) = wS ct a (set2 x 23 g) := rfl
theorem wS_g6 (ct : Nat → ClassId) (a : Nat → Nat) (x : Nat → Nat → Int32) : (wS ct a x)[6]? = some (a 24, .inl (ct 0, 10, .inl (x 24))) := rfl
theorem wS_a6 (ct : Nat → ClassId) (a : Nat → Nat) (x : Nat → Nat → Int32) (g : Nat → Int32) : (wS ct a x).set 6 (a 24, .inl (ct 0, 10, .inl g)) = wS ct a (set2 x 24 g) := rfl
theorem wS_g7 (ct : Nat → ClassId) (a : Nat → Nat) (x : Nat → Nat → Int32) : (wS ct a x)[7]? = some (a 25, .inl (ct 0, 10, .inl (x 25))) := rfl
theorem wS_a7 (ct : Nat → ClassId) (a : Nat → Nat) (x : Nat → Nat → Int32) (g : Nat → Int32) : (wS ct a x).set 7 (a 25, .inl (ct 0, 10, .inl g)) = wS ct a (set2 x 25 g) := rfl
theorem wS_g8 (ct : Nat → ClassId) (a : Nat → Nat) (x : Nat → Nat → Int32) : (wS ct a x)[8]? = some (a 26, .inl (ct 0, 10, .inl (x 26))) := rfl
theorem wS_a8 (ct : Nat → ClassId) (a : Nat → Nat) (x : Nat → Nat → Int32) (g : Nat → Int32) : (wS ct a x).set 8 (a 26, .inl (ct 0, 10, .inl g)) = wS ct a (set2 x 26 g) := rfl
theorem wX_g0 (ct : Nat → ClassId) (a : Nat → Nat) (x : Nat → Nat → Int32) : (wX ct a x)[0]? = some (a 30, .inr (3, [.int (x 0 0), .ref (a 1), .ref (a 2), .ref (a 3), .ref (a 31), .ref (a 32), .ref (a 33)])) := rfl
theorem wX_s0_0 (ct : Nat → ClassId) (a : Nat → Nat) (x : Nat → Nat → Int32) (v : Int32) : (wX ct a x).set 0 (a 30, .inr (3, ([.int (x 0 0), .ref (a 1), .ref (a 2), .ref (a 3), .ref (a 31), .ref (a 32), .ref (a 33)] : List Value).set 0 (.int v))) = wX ct a (set2 x 0 (fun _ => v)) := rfl
theorem wX_g1 (ct : Nat → ClassId) (a : Nat → Nat) (x : Nat → Nat → Int32) : (wX ct a x)[1]? = some (a 1, .inl (ct 0, 10, .inl (x 1))) := rfl
theorem wX_a1 (ct : Nat → ClassId) (a : Nat → Nat) (x : Nat → Nat → Int32) (g : Nat → Int32) : (wX ct a x).set 1 (a 1, .inl (ct 0, 10, .inl g)) = wX ct a (set2 x 1 g) := rfl
theorem wX_g2 (ct : Nat → ClassId) (a : Nat → Nat) (x : Nat → Nat → Int32) : (wX ct a x)[2]? = some (a 2, .inl (ct 0, 10, .inl (x 2))) := rfl
theorem wX_a2 (ct : Nat → ClassId) (a : Nat → Nat) (x : Nat → Nat → Int32) (g : Nat → Int32) : (wX ct a x).set 2 (a 2, .inl (ct 0, 10, .inl g)) = wX ct a (set2 x 2 g) := rfl
theorem wX_g3 (ct : Nat → ClassId) (a : Nat → Nat) (x : Nat → Nat → Int32) : (wX ct a x)[3]? = some (a 3, .inl (ct 1, 10, .inl (x 3))) := rfl
theorem wX_a3 (ct : Nat → ClassId) (a : Nat → Nat) (x : Nat → Nat → Int32) (g : Nat → Int32) : (wX ct a x).set 3 (a 3, .inl (ct 1, 10, .inl g)) = wX ct a (set2 x 3 g) := rfl
theorem wX_g4 (ct : Nat → ClassId) (a : Nat → Nat) (x : Nat → Nat → Int32) : (wX ct a x)[4]? = some (a 31, .inr (1, [.int (x 4 0), .ref (a 5), .ref (a 6), .ref (a 7), .ref (a 8), .ref (a 9), .ref (a 10), .ref (a 11)])) := rfl
theorem wX_s4_0 (ct : Nat → ClassId) (a : Nat → Nat) (x : Nat → Nat → Int32) (v : Int32) : (wX ct a x).set 4 (a 31, .inr (1, ([.int (x 4 0), .ref (a 5), .ref (a 6), .ref (a 7), .ref (a 8), .ref (a 9), .ref (a 10), .ref (a 11)] : List Value).set 0 (.int v))) = wX ct a (set2 x 4 (fun _ => v)) := rfl
theorem wX_g5 (ct : Nat → ClassId) (a : Nat → Nat) (x : Nat → Nat → Int32) : (wX ct a x)[5]? = some (a 5, .inl (ct 0, 2, .inl (x 5))) := rfl
theorem wX_a5 (ct : Nat → ClassId) (a : Nat → Nat) (x : Nat → Nat → Int32) (g : Nat → Int32) : (wX ct a x).set 5 (a 5, .inl (ct 0, 2, .inl g)) = wX ct a (set2 x 5 g) := rfl
theorem wX_g6 (ct : Nat → ClassId) (a : Nat → Nat) (x : Nat → Nat → Int32) : (wX ct a x)[6]? = some (a 6, .inl (ct 0, 8, .inl (x 6))) := rfl
theorem wX_a6 (ct : Nat → ClassId) (a : Nat → Nat) (x : Nat → Nat → Int32) (g : Nat → Int32) : (wX ct a x).set 6 (a 6, .inl (ct 0, 8, .inl g)) = wX ct a (set2 x 6 g) := rfl
theorem wX_g7 (ct : Nat → ClassId) (a : Nat → Nat) (x : Nat → Nat → Int32) : (wX ct a x)[7]? = some (a 7, .inl (ct 0, 8, .inl (x 7))) := rfl
theorem wX_a7 (ct : Nat → ClassId) (a : Nat → Nat) (x : Nat → Nat → Int32) (g : Nat → Int32) : (wX ct a x).set 7 (a 7, .inl (ct 0, 8, .inl g)) = wX ct a (set2 x 7 g) := rfl
theorem wX_g8 (ct : Nat → ClassId) (a : Nat → Nat) (x : Nat → Nat → Int32) : (wX ct a x)[8]? = some (a 8, .inl (ct 0, 10, .inl (x 8))) := rfl
theorem wX_a8 (ct : Nat → ClassId) (a : Nat → Nat) (x : Nat → Nat → Int32) (g : Nat → Int32) : (wX ct a x).set 8 (a 8, .inl (ct 0, 10, .inl g)) = wX ct a (set2 x 8 g) := rfl
theorem wX_g9 (ct : Nat → ClassId) (a : Nat → Nat) (x : Nat → Nat → Int32) : (wX ct a x)[9]? = some (a 9, .inl (ct 0, 10, .inl (x 9))) := rfl
theorem wX_a9 (ct : Nat → ClassId) (a : Nat → Nat) (x : Nat → Nat → Int32) (g : Nat → Int32) : (wX ct a x).set 9 (a 9, .inl (ct 0, 10, .inl g)) = wX ct a (set2 x 9 g) := rfl
theorem wX_g10 (ct : Nat → ClassId) (a : Nat → Nat) (x : Nat → Nat → Int32) : (wX ct a x)[10]? = some (a 10, .inl (ct 0, 10, .inl (x 10))) := rfl
theorem wX_a10 (ct : Nat → ClassId) (a : Nat → Nat) (x : Nat → Nat → Int32) (g : Nat → Int32) : (wX ct a x).set 10 (a 10, .inl (ct 0, 10, .inl g)) = wX ct a (set2 x 10 g) := rfl
theorem wX_g11 (ct : Nat → ClassId) (a : Nat → Nat) (x : Nat → Nat → Int32) : (wX ct a x)[11]? = some (a 11, .inl (ct 0, 10, .inl (x 11))) := rfl
theorem wX_a11 (ct : Nat → ClassId) (a : Nat → Nat) (x : Nat → Nat → Int32) (g : Nat → Int32) : (wX ct a x).set 11 (a 11, .inl (ct 0, 10, .inl g)) = wX ct a (set2 x 11 g) := rfl
theorem wX_g12 (ct : Nat → ClassId) (a : Nat → Nat) (x : Nat → Nat → Int32) : (wX ct a x)[12]? = some (a 32, .inr (0, [.ref (a 12), .ref (a 13), .ref (a 14), .ref (a 15)])) := rfl
theorem wX_g13 (ct : Nat → ClassId) (a : Nat → Nat) (x : Nat → Nat → Int32) : (wX ct a x)[13]? = some (a 12, .inl (ct 0, 10, .inl (x 12))) := rfl
theorem wX_a13 (ct : Nat → ClassId) (a : Nat → Nat) (x : Nat → Nat → Int32) (g : Nat → Int32) : (wX ct a x).set 13 (a 12, .inl (ct 0, 10, .inl g)) = wX ct a (set2 x 12 g) := rfl
theorem wX_g14 (ct : Nat → ClassId) (a : Nat → Nat) (x : Nat → Nat → Int32) : (wX ct a x)[14]? = some (a 13, .inl (ct 0, 10, .inl (x 13))) := rfl
theorem wX_a14 (ct : Nat → ClassId) (a : Nat → Nat) (x : Nat → Nat → Int32) (g : Nat → Int32) : (wX ct a x).set 14 (a 13, .inl (ct 0, 10, .inl g)) = wX ct a (set2 x 13 g) := rfl
theorem wX_g15 (ct : Nat → ClassId) (a : Nat → Nat) (x : Nat → Nat → Int32) : (wX ct a x)[15]? = some (a 14, .inl (ct 0, 10, .inl (x 14))) := rfl
theorem wX_a15 (ct : Nat → ClassId) (a : Nat → Nat) (x : Nat → Nat → Int32) (g : Nat → Int32) : (wX ct a x).set 15 (a 14, .inl (ct 0, 10, .inl g)) = wX ct a (set2 x 14 g) := rfl
theorem wX_g16 (ct : Nat → ClassId) (a : Nat → Nat) (x : Nat → Nat → Int32) : (wX ct a x)[16]? = some (a 15, .inl (ct 0, 10, .inl (x 15))) := rfl
theorem wX_a16 (ct : Nat → ClassId) (a : Nat → Nat) (x : Nat → Nat → Int32) (g : Nat → Int32) : (wX ct a x).set 16 (a 15, .inl (ct 0, 10, .inl g)) = wX ct a (set2 x 15 g) := rfl
theorem wX_g17 (ct : Nat → ClassId) (a : Nat → Nat) (x : Nat → Nat → Int32) : (wX ct a x)[17]? = some (a 33, .inr (2, [.int (x 16 0), .ref (a 17), .ref (a 18), .ref (a 19), .ref (a 20), .int (x 21 0), .int (x 22 0), .ref (a 23), .ref (a 24), .ref (a 25), .ref (a 26)])) := rfl
theorem wX_s17_0 (ct : Nat → ClassId) (a : Nat → Nat) (x : Nat → Nat → Int32) (v : Int32) : (wX ct a x).set 17 (a 33, .inr (2, ([.int (x 16 0), .ref (a 17), .ref (a 18), .ref (a 19), .ref (a 20), .int (x 21 0), .int (x 22 0), .ref (a 23), .ref (a 24), .ref (a 25), .ref (a 26)] : List Value).set 0 (.int v))) = wX ct a (set2 x 16 (fun _ => v)) := rfl
theorem wX_s17_5 (ct : Nat → ClassId) (a : Nat → Nat) (x : Nat → Nat → Int32) (v : Int32) : (wX ct a x).set 17 (a 33, .inr (2, ([.int (x 16 0), .ref (a 17), .ref (a 18), .ref (a 19), .ref (a 20), .int (x 21 0), .int (x 22 0), .ref (a 23), .ref (a 24), .ref (a 25), .ref (a 26)] : List Value).set 5 (.int v))) = wX ct a (set2 x 21 (fun _ => v)) := rfl
theorem wX_s17_6 (ct : Nat → ClassId) (a : Nat → Nat) (x : Nat → Nat → Int32) (v : Int32) : (wX ct a x).set 17 (a 33, .inr (2, ([.int (x 16 0), .ref (a 17), .ref (a 18), .ref (a 19), .ref (a 20), .int (x 21 0), .int (x 22 0), .ref (a 23), .ref (a 24), .ref (a 25), .ref (a 26)] : List Value).set 6 (.int v))) = wX ct a (set2 x 22 (fun _ => v)) := rfl
theorem wX_g18 (ct : Nat → ClassId) (a : Nat → Nat) (x : Nat → Nat → Int32) : (wX ct a x)[18]? = some (a 17, .inl (ct 0, 8, .inl (x 17))) := rfl
theorem wX_a18 (ct : Nat → ClassId) (a : Nat → Nat) (x : Nat → Nat → Int32) (g : Nat → Int32) : (wX ct a x).set 18 (a 17, .inl (ct 0, 8, .inl g)) = wX ct a (set2 x 17 g) := rfl
theorem wX_g19 (ct : Nat → ClassId) (a : Nat → Nat) (x : Nat → Nat → Int32) : (wX ct a x)[19]? = some (a 18, .inl (ct 0, 8, .inl (x 18))) := rfl
theorem wX_a19 (ct : Nat → ClassId) (a : Nat → Nat) (x : Nat → Nat → Int32) (g : Nat → Int32) : (wX ct a x).set 19 (a 18, .inl (ct 0, 8, .inl g)) = wX ct a (set2 x 18 g) := rfl
theorem wX_g20 (ct : Nat → ClassId) (a : Nat → Nat) (x : Nat → Nat → Int32) : (wX ct a x)[20]? = some (a 19, .inl (ct 0, 8, .inl (x 19))) := rfl
theorem wX_a20 (ct : Nat → ClassId) (a : Nat → Nat) (x : Nat → Nat → Int32) (g : Nat → Int32) : (wX ct a x).set 20 (a 19, .inl (ct 0, 8, .inl g)) = wX ct a (set2 x 19 g) := rfl
theorem wX_g21 (ct : Nat → ClassId) (a : Nat → Nat) (x : Nat → Nat → Int32) : (wX ct a x)[21]? = some (a 20, .inl (ct 0, 80, .inl (x 20))) := rfl
theorem wX_a21 (ct : Nat → ClassId) (a : Nat → Nat) (x : Nat → Nat → Int32) (g : Nat → Int32) : (wX ct a x).set 21 (a 20, .inl (ct 0, 80, .inl g)) = wX ct a (set2 x 20 g) := rfl
theorem wX_g22 (ct : Nat → ClassId) (a : Nat → Nat) (x : Nat → Nat → Int32) : (wX ct a x)[22]? = some (a 23, .inl (ct 0, 8, .inl (x 23))) := rfl
theorem wX_a22 (ct : Nat → ClassId) (a : Nat → Nat) (x : Nat → Nat → Int32) (g : Nat → Int32) : (wX ct a x).set 22 (a 23, .inl (ct 0, 8, .inl g)) = wX ct a (set2 x 23 g) := rfl
theorem wX_g23 (ct : Nat → ClassId) (a : Nat → Nat) (x : Nat → Nat → Int32) : (wX ct a x)[23]? = some (a 24, .inl (ct 0, 10, .inl (x 24))) := rfl
theorem wX_a23 (ct : Nat → ClassId) (a : Nat → Nat) (x : Nat → Nat → Int32) (g : Nat → Int32) : (wX ct a x).set 23 (a 24, .inl (ct 0, 10, .inl g)) = wX ct a (set2 x 24 g) := rfl
theorem wX_g24 (ct : Nat → ClassId) (a : Nat → Nat) (x : Nat → Nat → Int32) : (wX ct a x)[24]? = some (a 25, .inl (ct 0, 10, .inl (x 25))) := rfl
theorem wX_a24 (ct : Nat → ClassId) (a : Nat → Nat) (x : Nat → Nat → Int32) (g : Nat → Int32) : (wX ct a x).set 24 (a 25, .inl (ct 0, 10, .inl g)) = wX ct a (set2 x 25 g) := rfl
theorem wX_g25 (ct : Nat → ClassId) (a : Nat → Nat) (x : Nat → Nat → Int32) : (wX ct a x)[25]? = some (a 26, .inl (ct 0, 10, .inl (x 26))) := rfl
theorem wX_a25 (ct : Nat → ClassId) (a : Nat → Nat) (x : Nat → Nat → Int32) (g : Nat → Int32) : (wX ct a x).set 25 (a 26, .inl (ct 0, 10, .inl g)) = wX ct a (set2 x 26 g) := rfl
theorem wM_g0 (ct : Nat → ClassId) (b : Nat → Nat) (y : Nat → Nat → Int32) : (wM ct b y)[0]? = some (b 30, .inr (4, [.int (y 0 0), .ref (b 1), .ref (b 2), .ref (b 3), .int (y 4 0), .ref (b 5), .ref (b 6), .ref (b 7), .ref (b 8), .ref (b 9), .ref (b 10), .ref (b 11), .ref (b 12), .ref (b 13), .ref (b 14), .ref (b 15), .ref (b 16), .ref (b 17), .int (y 18 0), .ref (b 19), .ref (b 20), .ref (b 21), .ref (b 22), .int (y 23 0), .int (y 24 0), .int (y 25 0), .ref (b 26), .int (y 27 0)])) := rfl
theorem wM_s0_0 (ct : Nat → ClassId) (b : Nat → Nat) (y : Nat → Nat → Int32) (v : Int32) : (wM ct b y).set 0 (b 30, .inr (4, ([.int (y 0 0), .ref (b 1), .ref (b 2), .ref (b 3), .int (y 4 0), .ref (b 5), .ref (b 6), .ref (b 7), .ref (b 8), .ref (b 9), .ref (b 10), .ref (b 11), .ref (b 12), .ref (b 13), .ref (b 14), .ref (b 15), .ref (b 16), .ref (b 17), .int (y 18 0), .ref (b 19), .ref (b 20), .ref (b 21), .ref (b 22), .int (y 23 0), .int (y 24 0), .int (y 25 0), .ref (b 26), .int (y 27 0)] : List Value).set 0 (.int v))) = wM ct b (set2 y 0 (fun _ => v)) := rfl
theorem wM_s0_4 (ct : Nat → ClassId) (b : Nat → Nat) (y : Nat → Nat → Int32) (v : Int32) : (wM ct b y).set 0 (b 30, .inr (4, ([.int (y 0 0), .ref (b 1), .ref (b 2), .ref (b 3), .int (y 4 0), .ref (b 5), .ref (b 6), .ref (b 7), .ref (b 8), .ref (b 9), .ref (b 10), .ref (b 11), .ref (b 12), .ref (b 13), .ref (b 14), .ref (b 15), .ref (b 16), .ref (b 17), .int (y 18 0), .ref (b 19), .ref (b 20), .ref (b 21), .ref (b 22), .int (y 23 0), .int (y 24 0), .int (y 25 0), .ref (b 26), .int (y 27 0)] : List Value).set 4 (.int v))) = wM ct b (set2 y 4 (fun _ => v)) := rfl
theorem wM_s0_18 (ct : Nat → ClassId) (b : Nat → Nat) (y : Nat → Nat → Int32) (v : Int32) : (wM ct b y).set 0 (b 30, .inr (4, ([.int (y 0 0), .ref (b 1), .ref (b 2), .ref (b 3), .int (y 4 0), .ref (b 5), .ref (b 6), .ref (b 7), .ref (b 8), .ref (b 9), .ref (b 10), .ref (b 11), .ref (b 12), .ref (b 13), .ref (b 14), .ref (b 15), .ref (b 16), .ref (b 17), .int (y 18 0), .ref (b 19), .ref (b 20), .ref (b 21), .ref (b 22), .int (y 23 0), .int (y 24 0), .int (y 25 0), .ref (b 26), .int (y 27 0)] : List Value).set 18 (.int v))) = wM ct b (set2 y 18 (fun _ => v)) := rfl
theorem wM_s0_23 (ct : Nat → ClassId) (b : Nat → Nat) (y : Nat → Nat → Int32) (v : Int32) : (wM ct b y).set 0 (b 30, .inr (4, ([.int (y 0 0), .ref (b 1), .ref (b 2), .ref (b 3), .int (y 4 0), .ref (b 5), .ref (b 6), .ref (b 7), .ref (b 8), .ref (b 9), .ref (b 10), .ref (b 11), .ref (b 12), .ref (b 13), .ref (b 14), .ref (b 15), .ref (b 16), .ref (b 17), .int (y 18 0), .ref (b 19), .ref (b 20), .ref (b 21), .ref (b 22), .int (y 23 0), .int (y 24 0), .int (y 25 0), .ref (b 26), .int (y 27 0)] : List Value).set 23 (.int v))) = wM ct b (set2 y 23 (fun _ => v)) := rfl
theorem wM_s0_24 (ct : Nat → ClassId) (b : Nat → Nat) (y : Nat → Nat → Int32) (v : Int32) : (wM ct b y).set 0 (b 30, .inr (4, ([.int (y 0 0), .ref (b 1), .ref (b 2), .ref (b 3), .int (y 4 0), .ref (b 5), .ref (b 6), .ref (b 7), .ref (b 8), .ref (b 9), .ref (b 10), .ref (b 11), .ref (b 12), .ref (b 13), .ref (b 14), .ref (b 15), .ref (b 16), .ref (b 17), .int (y 18 0), .ref (b 19), .ref (b 20), .ref (b 21), .ref (b 22), .int (y 23 0), .int (y 24 0), .int (y 25 0), .ref (b 26), .int (y 27 0)] : List Value).set 24 (.int v))) = wM ct b (set2 y 24 (fun _ => v)) := rfl
theorem wM_s0_25 (ct : Nat → ClassId) (b : Nat → Nat) (y : Nat → Nat → Int32) (v : Int32) : (wM ct b y).set 0 (b 30, .inr (4, ([.int (y 0 0), .ref (b 1), .ref (b 2), .ref (b 3), .int (y 4 0), .ref (b 5), .ref (b 6), .ref (b 7), .ref (b 8), .ref (b 9), .ref (b 10), .ref (b 11), .ref (b 12), .ref (b 13), .ref (b 14), .ref (b 15), .ref (b 16), .ref (b 17), .int (y 18 0), .ref (b 19), .ref (b 20), .ref (b 21), .ref (b 22), .int (y 23 0), .int (y 24 0), .int (y 25 0), .ref (b 26), .int (y 27 0)] : List Value).set 25 (.int v))) = wM ct b (set2 y 25 (fun _ => v)) := rfl
theorem wM_s0_27 (ct : Nat → ClassId) (b : Nat → Nat) (y : Nat → Nat → Int32) (v : Int32) : (wM ct b y).set 0 (b 30, .inr (4, ([.int (y 0 0), .ref (b 1), .ref (b 2), .ref (b 3), .int (y 4 0), .ref (b 5), .ref (b 6), .ref (b 7), .ref (b 8), .ref (b 9), .ref (b 10), .ref (b 11), .ref (b 12), .ref (b 13), .ref (b 14), .ref (b 15), .ref (b 16), .ref (b 17), .int (y 18 0), .ref (b 19), .ref (b 20), .ref (b 21), .ref (b 22), .int (y 23 0), .int (y 24 0), .int (y 25 0), .ref (b 26), .int (y 27 0)] : List Value).set 27 (.int v))) = wM ct b (set2 y 27 (fun _ => v)) := rfl
theorem wM_g1 (ct : Nat → ClassId) (b : Nat → Nat) (y : Nat → Nat → Int32) : (wM ct b y)[1]? = some (b 1, .inl (ct 0, 2, .inl (y 1))) := rfl
theorem wM_a1 (ct : Nat → ClassId) (b : Nat → Nat) (y : Nat → Nat → Int32) (g : Nat → Int32) : (wM ct b y).set 1 (b 1, .inl (ct 0, 2, .inl g)) = wM ct b (set2 y 1 g) := rfl
theorem wM_g2 (ct : Nat → ClassId) (b : Nat → Nat) (y : Nat → Nat → Int32) : (wM ct b y)[2]? = some (b 2, .inl (ct 0, 8, .inl (y 2))) := rfl
theorem wM_a2 (ct : Nat → ClassId) (b : Nat → Nat) (y : Nat → Nat → Int32) (g : Nat → Int32) : (wM ct b y).set 2 (b 2, .inl (ct 0, 8, .inl g)) = wM ct b (set2 y 2 g) := rfl
theorem wM_g3 (ct : Nat → ClassId) (b : Nat → Nat) (y : Nat → Nat → Int32) : (wM ct b y)[3]? = some (b 3, .inl (ct 0, 8, .inl (y 3))) := rfl
theorem wM_a3 (ct : Nat → ClassId) (b : Nat → Nat) (y : Nat → Nat → Int32) (g : Nat → Int32) : (wM ct b y).set 3 (b 3, .inl (ct 0, 8, .inl g)) = wM ct b (set2 y 3 g) := rfl
theorem wM_g4 (ct : Nat → ClassId) (b : Nat → Nat) (y : Nat → Nat → Int32) : (wM ct b y)[4]? = some (b 5, .inl (ct 0, 10, .inl (y 5))) := rfl
theorem wM_a4 (ct : Nat → ClassId) (b : Nat → Nat) (y : Nat → Nat → Int32) (g : Nat → Int32) : (wM ct b y).set 4 (b 5, .inl (ct 0, 10, .inl g)) = wM ct b (set2 y 5 g) := rfl
theorem wM_g5 (ct : Nat → ClassId) (b : Nat → Nat) (y : Nat → Nat → Int32) : (wM ct b y)[5]? = some (b 6, .inl (ct 0, 10, .inl (y 6))) := rfl
theorem wM_a5 (ct : Nat → ClassId) (b : Nat → Nat) (y : Nat → Nat → Int32) (g : Nat → Int32) : (wM ct b y).set 5 (b 6, .inl (ct 0, 10, .inl g)) = wM ct b (set2 y 6 g) := rfl
theorem wM_g6 (ct : Nat → ClassId) (b : Nat → Nat) (y : Nat → Nat → Int32) : (wM ct b y)[6]? = some (b 7, .inl (ct 0, 10, .inl (y 7))) := rfl
theorem wM_a6 (ct : Nat → ClassId) (b : Nat → Nat) (y : Nat → Nat → Int32) (g : Nat → Int32) : (wM ct b y).set 6 (b 7, .inl (ct 0, 10, .inl g)) = wM ct b (set2 y 7 g) := rfl
theorem wM_g7 (ct : Nat → ClassId) (b : Nat → Nat) (y : Nat → Nat → Int32) : (wM ct b y)[7]? = some (b 8, .inl (ct 0, 10, .inl (y 8))) := rfl
theorem wM_a7 (ct : Nat → ClassId) (b : Nat → Nat) (y : Nat → Nat → Int32) (g : Nat → Int32) : (wM ct b y).set 7 (b 8, .inl (ct 0, 10, .inl g)) = wM ct b (set2 y 8 g) := rfl
theorem wM_g8 (ct : Nat → ClassId) (b : Nat → Nat) (y : Nat → Nat → Int32) : (wM ct b y)[8]? = some (b 9, .inl (ct 0, 10, .inl (y 9))) := rfl
theorem wM_a8 (ct : Nat → ClassId) (b : Nat → Nat) (y : Nat → Nat → Int32) (g : Nat → Int32) : (wM ct b y).set 8 (b 9, .inl (ct 0, 10, .inl g)) = wM ct b (set2 y 9 g) := rfl
theorem wM_g9 (ct : Nat → ClassId) (b : Nat → Nat) (y : Nat → Nat → Int32) : (wM ct b y)[9]? = some (b 10, .inl (ct 0, 10, .inl (y 10))) := rfl
theorem wM_a9 (ct : Nat → ClassId) (b : Nat → Nat) (y : Nat → Nat → Int32) (g : Nat → Int32) : (wM ct b y).set 9 (b 10, .inl (ct 0, 10, .inl g)) = wM ct b (set2 y 10 g) := rfl
theorem wM_g10 (ct : Nat → ClassId) (b : Nat → Nat) (y : Nat → Nat → Int32) : (wM ct b y)[10]? = some (b 11, .inl (ct 1, 10, .inl (y 11))) := rfl
theorem wM_a10 (ct : Nat → ClassId) (b : Nat → Nat) (y : Nat → Nat → Int32) (g : Nat → Int32) : (wM ct b y).set 10 (b 11, .inl (ct 1, 10, .inl g)) = wM ct b (set2 y 11 g) := rfl
theorem wM_g11 (ct : Nat → ClassId) (b : Nat → Nat) (y : Nat → Nat → Int32) : (wM ct b y)[11]? = some (b 12, .inl (ct 0, 10, .inl (y 12))) := rfl
theorem wM_a11 (ct : Nat → ClassId) (b : Nat → Nat) (y : Nat → Nat → Int32) (g : Nat → Int32) : (wM ct b y).set 11 (b 12, .inl (ct 0, 10, .inl g)) = wM ct b (set2 y 12 g) := rfl
theorem wM_g12 (ct : Nat → ClassId) (b : Nat → Nat) (y : Nat → Nat → Int32) : (wM ct b y)[12]? = some (b 13, .inl (ct 0, 10, .inl (y 13))) := rfl
theorem wM_a12 (ct : Nat → ClassId) (b : Nat → Nat) (y : Nat → Nat → Int32) (g : Nat → Int32) : (wM ct b y).set 12 (b 13, .inl (ct 0, 10, .inl g)) = wM ct b (set2 y 13 g) := rfl
theorem wM_g13 (ct : Nat → ClassId) (b : Nat → Nat) (y : Nat → Nat → Int32) : (wM ct b y)[13]? = some (b 14, .inl (ct 0, 10, .inl (y 14))) := rfl
theorem wM_a13 (ct : Nat → ClassId) (b : Nat → Nat) (y : Nat → Nat → Int32) (g : Nat → Int32) : (wM ct b y).set 13 (b 14, .inl (ct 0, 10, .inl g)) = wM ct b (set2 y 14 g) := rfl
theorem wM_g14 (ct : Nat → ClassId) (b : Nat → Nat) (y : Nat → Nat → Int32) : (wM ct b y)[14]? = some (b 15, .inl (ct 0, 10, .inl (y 15))) := rfl
theorem wM_a14 (ct : Nat → ClassId) (b : Nat → Nat) (y : Nat → Nat → Int32) (g : Nat → Int32) : (wM ct b y).set 14 (b 15, .inl (ct 0, 10, .inl g)) = wM ct b (set2 y 15 g) := rfl
theorem wM_g15 (ct : Nat → ClassId) (b : Nat → Nat) (y : Nat → Nat → Int32) : (wM ct b y)[15]? = some (b 16, .inl (ct 0, 10, .inl (y 16))) := rfl
theorem wM_a15 (ct : Nat → ClassId) (b : Nat → Nat) (y : Nat → Nat → Int32) (g : Nat → Int32) : (wM ct b y).set 15 (b 16, .inl (ct 0, 10, .inl g)) = wM ct b (set2 y 16 g) := rfl
theorem wM_g16 (ct : Nat → ClassId) (b : Nat → Nat) (y : Nat → Nat → Int32) : (wM ct b y)[16]? = some (b 17, .inl (ct 0, 10, .inl (y 17))) := rfl
theorem wM_a16 (ct : Nat → ClassId) (b : Nat → Nat) (y : Nat → Nat → Int32) (g : Nat → Int32) : (wM ct b y).set 16 (b 17, .inl (ct 0, 10, .inl g)) = wM ct b (set2 y 17 g) := rfl
theorem wM_g17 (ct : Nat → ClassId) (b : Nat → Nat) (y : Nat → Nat → Int32) : (wM ct b y)[17]? = some (b 19, .inl (ct 0, 8, .inl (y 19))) := rfl
theorem wM_a17 (ct : Nat → ClassId) (b : Nat → Nat) (y : Nat → Nat → Int32) (g : Nat → Int32) : (wM ct b y).set 17 (b 19, .inl (ct 0, 8, .inl g)) = wM ct b (set2 y 19 g) := rfl
theorem wM_g18 (ct : Nat → ClassId) (b : Nat → Nat) (y : Nat → Nat → Int32) : (wM ct b y)[18]? = some (b 20, .inl (ct 0, 8, .inl (y 20))) := rfl
theorem wM_a18 (ct : Nat → ClassId) (b : Nat → Nat) (y : Nat → Nat → Int32) (g : Nat → Int32) : (wM ct b y).set 18 (b 20, .inl (ct 0, 8, .inl g)) = wM ct b (set2 y 20 g) := rfl
theorem wM_g19 (ct : Nat → ClassId) (b : Nat → Nat) (y : Nat → Nat → Int32) : (wM ct b y)[19]? = some (b 21, .inl (ct 0, 8, .inl (y 21))) := rfl
theorem wM_a19 (ct : Nat → ClassId) (b : Nat → Nat) (y : Nat → Nat → Int32) (g : Nat → Int32) : (wM ct b y).set 19 (b 21, .inl (ct 0, 8, .inl g)) = wM ct b (set2 y 21 g) := rfl
theorem wM_g20 (ct : Nat → ClassId) (b : Nat → Nat) (y : Nat → Nat → Int32) : (wM ct b y)[20]? = some (b 22, .inl (ct 0, 80, .inl (y 22))) := rfl
theorem wM_a20 (ct : Nat → ClassId) (b : Nat → Nat) (y : Nat → Nat → Int32) (g : Nat → Int32) : (wM ct b y).set 20 (b 22, .inl (ct 0, 80, .inl g)) = wM ct b (set2 y 22 g) := rfl
theorem wM_g21 (ct : Nat → ClassId) (b : Nat → Nat) (y : Nat → Nat → Int32) : (wM ct b y)[21]? = some (b 26, .inl (ct 0, 10, .inl (y 26))) := rfl
theorem wM_a21 (ct : Nat → ClassId) (b : Nat → Nat) (y : Nat → Nat → Int32) (g : Nat → Int32) : (wM ct b y).set 21 (b 26, .inl (ct 0, 10, .inl g)) = wM ct b (set2 y 26 g) := rfl
