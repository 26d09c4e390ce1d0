set_option maxHeartbeats 4000000 in
set_option maxRecDepth 100000 in
theorem cs_20 (l : Launch) (hlt : l.stackTraces = false) {p : Program} {e : Env} {s : State} {m : MethodId} {below : List Frame} {meth : Method} {c : Code} {D : va_G} {cy : Nat → ClassId} {A : Nat → Prop} {b : Nat} {xs : Nat → Int32} {H : Heap} {locs : List Loc} {ls : Array Slot} {Q : State → Prop} (a : Nat → Nat) (hX : Ex p s m #[Value.ref b] meth c code ret 8 RL) (hE : Ew D cy A s) (hx7 : va_X b 7 xs s s.heap) (hbl : b < s.heap.size) (hbA : ¬ A b) (hP : va_P D vwCl [((a 0), .inr (10, [.ref (a 1), .int 0, .int 0, .int (-1), .ref (a 2), .ref (a 3), .ref (a 4), .ref (a 5), .ref (a 6), .ref (a 7), .ref (a 8), .ref (a 9), .int 0])), ((a 3), .inr (6, [.ref (a 10), .int 0, .ref (a 21), .ref (a 22), .ref (a 23), .ref (a 24), .ref (a 25), .int 0])), ((a 21), .inl (cy 0, 8, .inl (fun _ => 0))), ((a 22), .inl (cy 0, 8, .inl (fun _ => 0))), ((a 23), .inl (cy 0, 8, .inl (fun _ => 0))), ((a 24), .inl (cy 0, 8, .inl (fun _ => 0))), ((a 25), .inl (cy 0, 4, .inl (fun _ => 0))), ((a 10), .inr (0, [.int 0, .int 1, .int 1, .int 0, .int 0, .ref (a 11), .ref (a 12), .ref (a 13), .null, .null])), ((a 5), .inr (1, [.ref (a 40), .int 0, .int 0, .ref (a 46), .ref (a 47)])), ((a 40), .inr (6, [.ref (a 10), .int 0, .ref (a 41), .ref (a 42), .ref (a 43), .ref (a 44), .ref (a 45), .int 0])), ((a 41), .inl (cy 0, 8, .inl (fun _ => 0))), ((a 42), .inl (cy 0, 8, .inl (fun _ => 0))), ((a 43), .inl (cy 0, 8, .inl (fun _ => 0))), ((a 44), .inl (cy 0, 8, .inl (fun _ => 0))), ((a 45), .inl (cy 0, 4, .inl (fun _ => 0))), ((a 200), .inr (11, [.ref (a 201), .ref (a 202), .ref (a 203), .ref (a 204), .int 0, .ref (a 205), .int 0, .int 0, .int 0, .int 0, .int 0, .int 0, .int 0, .int 0, .int 0, .int (-1), .int 0, .int 0, .int 0, .ref (a 206), .ref (a 207), .int 0, .int 0, .ref (a 208), .int 0, .int 0, .int 0, .int 0, .ref (a 209), .ref (a 210), .ref (a 211), .ref (a 212), .ref (a 213), .ref (a 214), .ref (a 215), .int 0, .ref (a 216), .ref (a 217), .ref (a 218)])), ((a 201), .inl (cy 0, 2260, .inl (upd (upd (fun _ => 0) (1 : Int32).toNatClampNeg 1) (2 : Int32).toNatClampNeg 1))), ((a 202), .inl (cy 0, 2260, .inl (fun _ => 0))), ((a 203), .inl (cy 0, 6780, .inl (fun _ => 0))), ((a 204), .inl (cy 3, 3, .inl (fun _ => 0))), ((a 205), .inl (cy 0, 900, .inl (fun _ => 0))), ((a 206), .inl (cy 0, 64, .inl (fun _ => 0))), ((a 207), .inl (cy 0, 6, .inl (fun _ => 0))), ((a 208), .inl (cy 0, 37, .inl (fun _ => 0))), ((a 209), .inl (cy 0, 61, .inl (fun _ => 0))), ((a 210), .inl (cy 0, 61, .inl (fun _ => 0))), ((a 211), .inl (cy 0, 61, .inl (fun _ => 0))), ((a 212), .inl (cy 0, 61, .inl (fun _ => 0))), ((a 213), .inl (cy 0, 61, .inl (fun _ => 0))), ((a 214), .inl (cy 2, 6, .inr (.inl (fun _ => 0)))), ((a 215), .inl (cy 2, 6, .inr (.inl (fun _ => 0)))), ((a 216), .inl (cy 0, 4, .inl (upd (upd (upd (upd (fun _ => 0) (0 : Int32).toNatClampNeg (-1)) (1 : Int32).toNatClampNeg (-1)) (2 : Int32).toNatClampNeg (-1)) (3 : Int32).toNatClampNeg (-1)))), ((a 217), .inl (cy 0, 4, .inl (fun _ => 0))), ((a 218), .inl (cy 2, 120, .inr (.inl (fun _ => 0))))] H) (hD : va_D A [((a 0), .inr (10, [.ref (a 1), .int 0, .int 0, .int (-1), .ref (a 2), .ref (a 3), .ref (a 4), .ref (a 5), .ref (a 6), .ref (a 7), .ref (a 8), .ref (a 9), .int 0])), ((a 3), .inr (6, [.ref (a 10), .int 0, .ref (a 21), .ref (a 22), .ref (a 23), .ref (a 24), .ref (a 25), .int 0])), ((a 21), .inl (cy 0, 8, .inl (fun _ => 0))), ((a 22), .inl (cy 0, 8, .inl (fun _ => 0))), ((a 23), .inl (cy 0, 8, .inl (fun _ => 0))), ((a 24), .inl (cy 0, 8, .inl (fun _ => 0))), ((a 25), .inl (cy 0, 4, .inl (fun _ => 0))), ((a 10), .inr (0, [.int 0, .int 1, .int 1, .int 0, .int 0, .ref (a 11), .ref (a 12), .ref (a 13), .null, .null])), ((a 5), .inr (1, [.ref (a 40), .int 0, .int 0, .ref (a 46), .ref (a 47)])), ((a 40), .inr (6, [.ref (a 10), .int 0, .ref (a 41), .ref (a 42), .ref (a 43), .ref (a 44), .ref (a 45), .int 0])), ((a 41), .inl (cy 0, 8, .inl (fun _ => 0))), ((a 42), .inl (cy 0, 8, .inl (fun _ => 0))), ((a 43), .inl (cy 0, 8, .inl (fun _ => 0))), ((a 44), .inl (cy 0, 8, .inl (fun _ => 0))), ((a 45), .inl (cy 0, 4, .inl (fun _ => 0))), ((a 200), .inr (11, [.ref (a 201), .ref (a 202), .ref (a 203), .ref (a 204), .int 0, .ref (a 205), .int 0, .int 0, .int 0, .int 0, .int 0, .int 0, .int 0, .int 0, .int 0, .int (-1), .int 0, .int 0, .int 0, .ref (a 206), .ref (a 207), .int 0, .int 0, .ref (a 208), .int 0, .int 0, .int 0, .int 0, .ref (a 209), .ref (a 210), .ref (a 211), .ref (a 212), .ref (a 213), .ref (a 214), .ref (a 215), .int 0, .ref (a 216), .ref (a 217), .ref (a 218)])), ((a 201), .inl (cy 0, 2260, .inl (upd (upd (fun _ => 0) (1 : Int32).toNatClampNeg 1) (2 : Int32).toNatClampNeg 1))), ((a 202), .inl (cy 0, 2260, .inl (fun _ => 0))), ((a 203), .inl (cy 0, 6780, .inl (fun _ => 0))), ((a 204), .inl (cy 3, 3, .inl (fun _ => 0))), ((a 205), .inl (cy 0, 900, .inl (fun _ => 0))), ((a 206), .inl (cy 0, 64, .inl (fun _ => 0))), ((a 207), .inl (cy 0, 6, .inl (fun _ => 0))), ((a 208), .inl (cy 0, 37, .inl (fun _ => 0))), ((a 209), .inl (cy 0, 61, .inl (fun _ => 0))), ((a 210), .inl (cy 0, 61, .inl (fun _ => 0))), ((a 211), .inl (cy 0, 61, .inl (fun _ => 0))), ((a 212), .inl (cy 0, 61, .inl (fun _ => 0))), ((a 213), .inl (cy 0, 61, .inl (fun _ => 0))), ((a 214), .inl (cy 2, 6, .inr (.inl (fun _ => 0)))), ((a 215), .inl (cy 2, 6, .inr (.inl (fun _ => 0)))), ((a 216), .inl (cy 0, 4, .inl (upd (upd (upd (upd (fun _ => 0) (0 : Int32).toNatClampNeg (-1)) (1 : Int32).toNatClampNeg (-1)) (2 : Int32).toNatClampNeg (-1)) (3 : Int32).toNatClampNeg (-1)))), ((a 217), .inl (cy 0, 4, .inl (fun _ => 0))), ((a 218), .inl (cy 2, 120, .inr (.inl (fun _ => 0))))]) (hS : va_S A s.heap H locs) (hl : lv_has ls 8 [(4, .int 0), (3, .ref (a 300)), (2, .ref (a 200)), (1, .ref (a 0)), (0, .ref b)]) (kk : ∀ (H : Heap) (locs : List Loc) (ls : Array Slot), va_S A s.heap H locs → lv_has ls 8 [(4, .int 0), (0, .ref b)] → W p l e room_1 s m #[Value.ref b] below meth c H locs 600000 7300000 Q (F0 m 3161 ls [])) : W p l e room_1 s m #[Value.ref b] below meth c H locs 131 17485 Q (F0 m 1322 ls []) := by
  obtain ⟨hx, hb, hr, hml, hown, htA, hlk⟩ := id hX
  have hK := hE.1
  refine lv_aload_n hx hb dL_law_1322 rfl (lv_at hl 3 rfl) ?_
  refine kVi (As := []) (rest := []) (wr := [((a 200), .inr (11, [.ref (a 201), .ref (a 202), .ref (a 203), .ref (a 204), .int 0, .ref (a 205), .int 0, .int 0, .int 0, .int 0, .int 0, .int 0, .int 0, .int 0, .int 0, .int (-1), .int 0, .int 0, .int 0, .ref (a 206), .ref (a 207), .int 0, .int 0, .ref (a 208), .int 0, .int 0, .int 0, .int 0, .ref (a 209), .ref (a 210), .ref (a 211), .ref (a 212), .ref (a 213), .ref (a 214), .ref (a 215), .int 0, .ref (a 216), .ref (a 217), .ref (a 218)])), ((a 201), .inl (cy 0, 2260, .inl (upd (upd (fun _ => 0) (1 : Int32).toNatClampNeg 1) (2 : Int32).toNatClampNeg 1))), ((a 202), .inl (cy 0, 2260, .inl (fun _ => 0))), ((a 203), .inl (cy 0, 6780, .inl (fun _ => 0))), ((a 204), .inl (cy 3, 3, .inl (fun _ => 0))), ((a 205), .inl (cy 0, 900, .inl (fun _ => 0))), ((a 206), .inl (cy 0, 64, .inl (fun _ => 0))), ((a 207), .inl (cy 0, 6, .inl (fun _ => 0))), ((a 208), .inl (cy 0, 37, .inl (fun _ => 0))), ((a 209), .inl (cy 0, 61, .inl (fun _ => 0))), ((a 210), .inl (cy 0, 61, .inl (fun _ => 0))), ((a 211), .inl (cy 0, 61, .inl (fun _ => 0))), ((a 212), .inl (cy 0, 61, .inl (fun _ => 0))), ((a 213), .inl (cy 0, 61, .inl (fun _ => 0))), ((a 214), .inl (cy 2, 6, .inr (.inl (fun _ => 0)))), ((a 215), .inl (cy 2, 6, .inr (.inl (fun _ => 0)))), ((a 216), .inl (cy 0, 4, .inl (upd (upd (upd (upd (fun _ => 0) (0 : Int32).toNatClampNeg (-1)) (1 : Int32).toNatClampNeg (-1)) (2 : Int32).toNatClampNeg (-1)) (3 : Int32).toNatClampNeg (-1)))), ((a 217), .inl (cy 0, 4, .inl (fun _ => 0))), ((a 218), .inl (cy 2, 120, .inr (.inl (fun _ => 0))))]) hX hE (m_busiest l D cy a) (cwVA 0 htA wd_499 wd_496 wd_1 wd_497 wd_498 (by decide +kernel) ⟨by decide, by decide⟩) hP hD hS [0, 1, 2, 3, 4, 5, 6, 7, 8, 9, 10, 11, 12, 13, 14] [15, 16, 17, 18, 19, 20, 21, 22, 23, 24, 25, 26, 27, 28, 29, 30, 31, 32, 33] rfl rfl (by decide) 0 rfl rfl rfl rfl hl.1 rfl (Nat.le_of_ble_eq_true rfl) dL_law_1323 (by decide) (fun r_ W1 H locs hw hP hD hS => ?_)
  refine W.widen (k := 131) (n := 17485) (by decide) (by decide) ?_
  have hP : va_P D vwCl [((a 200), .inr (11, [.ref (a 201), .ref (a 202), .ref (a 203), .ref (a 204), .int 0, .ref (a 205), .int 0, .int 0, .int 0, .int 0, .int 0, .int 0, .int 0, .int 0, .int 0, .int (-1), .int 0, .int 0, .int 0, .ref (a 206), .ref (a 207), .int 0, .int 0, .ref (a 208), .int 0, .int 0, .int 0, .int 0, .ref (a 209), .ref (a 210), .ref (a 211), .ref (a 212), .ref (a 213), .ref (a 214), .ref (a 215), .int 0, .ref (a 216), .ref (a 217), .ref (a 218)])), ((a 201), .inl (cy 0, 2260, .inl (upd (upd (fun _ => 0) (1 : Int32).toNatClampNeg 1) (2 : Int32).toNatClampNeg 1))), ((a 202), .inl (cy 0, 2260, .inl (fun _ => 0))), ((a 203), .inl (cy 0, 6780, .inl (fun _ => 0))), ((a 204), .inl (cy 3, 3, .inl (fun _ => 0))), ((a 205), .inl (cy 0, 900, .inl (fun _ => 0))), ((a 206), .inl (cy 0, 64, .inl (fun _ => 0))), ((a 207), .inl (cy 0, 6, .inl (fun _ => 0))), ((a 208), .inl (cy 0, 37, .inl (fun _ => 0))), ((a 209), .inl (cy 0, 61, .inl (fun _ => 0))), ((a 210), .inl (cy 0, 61, .inl (fun _ => 0))), ((a 211), .inl (cy 0, 61, .inl (fun _ => 0))), ((a 212), .inl (cy 0, 61, .inl (fun _ => 0))), ((a 213), .inl (cy 0, 61, .inl (fun _ => 0))), ((a 214), .inl (cy 2, 6, .inr (.inl (fun _ => 0)))), ((a 215), .inl (cy 2, 6, .inr (.inl (fun _ => 0)))), ((a 216), .inl (cy 0, 4, .inl (upd (upd (upd (upd (fun _ => 0) (0 : Int32).toNatClampNeg (-1)) (1 : Int32).toNatClampNeg (-1)) (2 : Int32).toNatClampNeg (-1)) (3 : Int32).toNatClampNeg (-1)))), ((a 217), .inl (cy 0, 4, .inl (fun _ => 0))), ((a 218), .inl (cy 2, 120, .inr (.inl (fun _ => 0))))] H := hP.sub [0, 1, 2, 3, 4, 5, 6, 7, 8, 9, 10, 11, 12, 13, 14, 15, 16, 17, 18] rfl
  have hD : va_D A [((a 200), .inr (11, [.ref (a 201), .ref (a 202), .ref (a 203), .ref (a 204), .int 0, .ref (a 205), .int 0, .int 0, .int 0, .int 0, .int 0, .int 0, .int 0, .int 0, .int 0, .int (-1), .int 0, .int 0, .int 0, .ref (a 206), .ref (a 207), .int 0, .int 0, .ref (a 208), .int 0, .int 0, .int 0, .int 0, .ref (a 209), .ref (a 210), .ref (a 211), .ref (a 212), .ref (a 213), .ref (a 214), .ref (a 215), .int 0, .ref (a 216), .ref (a 217), .ref (a 218)])), ((a 201), .inl (cy 0, 2260, .inl (upd (upd (fun _ => 0) (1 : Int32).toNatClampNeg 1) (2 : Int32).toNatClampNeg 1))), ((a 202), .inl (cy 0, 2260, .inl (fun _ => 0))), ((a 203), .inl (cy 0, 6780, .inl (fun _ => 0))), ((a 204), .inl (cy 3, 3, .inl (fun _ => 0))), ((a 205), .inl (cy 0, 900, .inl (fun _ => 0))), ((a 206), .inl (cy 0, 64, .inl (fun _ => 0))), ((a 207), .inl (cy 0, 6, .inl (fun _ => 0))), ((a 208), .inl (cy 0, 37, .inl (fun _ => 0))), ((a 209), .inl (cy 0, 61, .inl (fun _ => 0))), ((a 210), .inl (cy 0, 61, .inl (fun _ => 0))), ((a 211), .inl (cy 0, 61, .inl (fun _ => 0))), ((a 212), .inl (cy 0, 61, .inl (fun _ => 0))), ((a 213), .inl (cy 0, 61, .inl (fun _ => 0))), ((a 214), .inl (cy 2, 6, .inr (.inl (fun _ => 0)))), ((a 215), .inl (cy 2, 6, .inr (.inl (fun _ => 0)))), ((a 216), .inl (cy 0, 4, .inl (upd (upd (upd (upd (fun _ => 0) (0 : Int32).toNatClampNeg (-1)) (1 : Int32).toNatClampNeg (-1)) (2 : Int32).toNatClampNeg (-1)) (3 : Int32).toNatClampNeg (-1)))), ((a 217), .inl (cy 0, 4, .inl (fun _ => 0))), ((a 218), .inl (cy 2, 120, .inr (.inl (fun _ => 0))))] := hD.sub [0, 1, 2, 3, 4, 5, 6, 7, 8, 9, 10, 11, 12, 13, 14, 15, 16, 17, 18] (by rfl) rfl
  obtain rfl := hw
  have hP : va_P D vwCl [((a 200), .inr (11, [.ref (a 201), .ref (a 202), .ref (a 203), .ref (a 204), .int 0, .ref (a 205), .int 0, .int 0, .int 0, .int 0, .int 0, .int 0, .int 0, .int 0, .int 0, .int (-1), .int 0, .int 0, .int 0, .ref (a 206), .ref (a 207), .int 0, .int 0, .ref (a 208), .int 0, .int 0, .int 0, .int 0, .ref (a 209), .ref (a 210), .ref (a 211), .ref (a 212), .ref (a 213), .ref (a 214), .ref (a 215), .int 0, .ref (a 216), .ref (a 217), .ref (a 218)])), ((a 201), .inl (cy 0, 2260, .inl (upd (upd (fun _ => 0) (1 : Int32).toNatClampNeg 1) (2 : Int32).toNatClampNeg 1))), ((a 202), .inl (cy 0, 2260, .inl (fun _ => 0))), ((a 203), .inl (cy 0, 6780, .inl (fun _ => 0))), ((a 204), .inl (cy 3, 3, .inl (fun _ => 0))), ((a 205), .inl (cy 0, 900, .inl (fun _ => 0))), ((a 206), .inl (cy 0, 64, .inl (fun _ => 0))), ((a 207), .inl (cy 0, 6, .inl (fun _ => 0))), ((a 208), .inl (cy 0, 37, .inl (fun _ => 0))), ((a 209), .inl (cy 0, 61, .inl (fun _ => 0))), ((a 210), .inl (cy 0, 61, .inl (fun _ => 0))), ((a 211), .inl (cy 0, 61, .inl (fun _ => 0))), ((a 212), .inl (cy 0, 61, .inl (fun _ => 0))), ((a 213), .inl (cy 0, 61, .inl (fun _ => 0))), ((a 214), .inl (cy 2, 6, .inr (.inl (fun _ => 0)))), ((a 215), .inl (cy 2, 6, .inr (.inl (fun _ => 0)))), ((a 216), .inl (cy 0, 4, .inl (upd (upd (upd (upd (fun _ => 0) (0 : Int32).toNatClampNeg (-1)) (1 : Int32).toNatClampNeg (-1)) (2 : Int32).toNatClampNeg (-1)) (3 : Int32).toNatClampNeg (-1)))), ((a 217), .inl (cy 0, 4, .inl (fun _ => 0))), ((a 218), .inl (cy 2, 120, .inr (.inl (fun _ => 0))))] H := hP
  have hD : va_D A [((a 200), .inr (11, [.ref (a 201), .ref (a 202), .ref (a 203), .ref (a 204), .int 0, .ref (a 205), .int 0, .int 0, .int 0, .int 0, .int 0, .int 0, .int 0, .int 0, .int 0, .int (-1), .int 0, .int 0, .int 0, .ref (a 206), .ref (a 207), .int 0, .int 0, .ref (a 208), .int 0, .int 0, .int 0, .int 0, .ref (a 209), .ref (a 210), .ref (a 211), .ref (a 212), .ref (a 213), .ref (a 214), .ref (a 215), .int 0, .ref (a 216), .ref (a 217), .ref (a 218)])), ((a 201), .inl (cy 0, 2260, .inl (upd (upd (fun _ => 0) (1 : Int32).toNatClampNeg 1) (2 : Int32).toNatClampNeg 1))), ((a 202), .inl (cy 0, 2260, .inl (fun _ => 0))), ((a 203), .inl (cy 0, 6780, .inl (fun _ => 0))), ((a 204), .inl (cy 3, 3, .inl (fun _ => 0))), ((a 205), .inl (cy 0, 900, .inl (fun _ => 0))), ((a 206), .inl (cy 0, 64, .inl (fun _ => 0))), ((a 207), .inl (cy 0, 6, .inl (fun _ => 0))), ((a 208), .inl (cy 0, 37, .inl (fun _ => 0))), ((a 209), .inl (cy 0, 61, .inl (fun _ => 0))), ((a 210), .inl (cy 0, 61, .inl (fun _ => 0))), ((a 211), .inl (cy 0, 61, .inl (fun _ => 0))), ((a 212), .inl (cy 0, 61, .inl (fun _ => 0))), ((a 213), .inl (cy 0, 61, .inl (fun _ => 0))), ((a 214), .inl (cy 2, 6, .inr (.inl (fun _ => 0)))), ((a 215), .inl (cy 2, 6, .inr (.inl (fun _ => 0)))), ((a 216), .inl (cy 0, 4, .inl (upd (upd (upd (upd (fun _ => 0) (0 : Int32).toNatClampNeg (-1)) (1 : Int32).toNatClampNeg (-1)) (2 : Int32).toNatClampNeg (-1)) (3 : Int32).toNatClampNeg (-1)))), ((a 217), .inl (cy 0, 4, .inl (fun _ => 0))), ((a 218), .inl (cy 2, 120, .inr (.inl (fun _ => 0))))] := hD
  refine lv_aload_n hx hb dL_law_1326 rfl (lv_at hl 2 rfl) ?_
  refine kVi (As := []) (rest := [.int vi_busiest]) (wr := []) hX hE (r_busiest l D cy a) (cwVA 0 htA wd_1897 wd_1894 wd_10 wd_1895 wd_1896 (by decide +kernel) ⟨by decide, by decide⟩) hP hD hS [0, 1, 2, 3, 4, 5, 6, 7, 8, 9, 10, 11, 12, 13, 14, 15, 16, 17, 18] [] rfl rfl (by decide) 0 rfl rfl rfl rfl hl.1 rfl (Nat.le_of_ble_eq_true rfl) dL_law_1327 (by decide) (fun r_ W1 H locs hw hP hD hS => ?_)
  refine W.widen (k := 131) (n := 17485) (by decide) (by decide) ?_
  obtain ⟨fs_, rfl, rfl⟩ := hw
  have hP : va_P D vwCl [((a 200), .inr (11, fs_))] H := hP
  have hD : va_D A [((a 200), .inr (11, fs_))] := hD
  refine lv_icmp_eq (tgt := 3161) hx hb dL_law_1330 (by decide) (fun _ => ?_) (fun q => absurd rfl q)
  exact W.widen (k := 600000) (n := 7300000) (Nat.le_of_ble_eq_true rfl) (Nat.le_of_ble_eq_true rfl) (kk H locs ls hS (lv_sub hl [0, 4] rfl))
set_option maxHeartbeats 4000000 in
set_option maxRecDepth 100000 in
theorem cs_21 (l : Launch) (hlt : l.stackTraces = false) {p : Program} {e : Env} {s : State} {m : MethodId} {below : List Frame} {meth : Method} {c : Code} {D : va_G} {cy : Nat → ClassId} {A : Nat → Prop} {b : Nat} {xs : Nat → Int32} {H : Heap} {locs : List Loc} {ls : Array Slot} {Q : State → Prop} (a : Nat → Nat) (hX : Ex p s m #[Value.ref b] meth c code ret 8 RL) (hE : Ew D cy A s) (hx7 : va_X b 7 xs s s.heap) (hbl : b < s.heap.size) (hbA : ¬ A b) (hP : va_P D vwCl [((a 0), .inr (10, [.ref (a 1), .int 0, .int 0, .int (-1), .ref (a 2), .ref (a 3), .ref (a 4), .ref (a 5), .ref (a 6), .ref (a 7), .ref (a 8), .ref (a 9), .int 0])), ((a 3), .inr (6, [.ref (a 10), .int 0, .ref (a 21), .ref (a 22), .ref (a 23), .ref (a 24), .ref (a 25), .int 0])), ((a 10), .inr (0, [.int 0, .int 1, .int 1, .int 0, .int 0, .ref (a 11), .ref (a 12), .ref (a 13), .null, .null])), ((a 300), .inl (cy 2, 1, .inr (.inl (fun _ => 0)))), ((a 200), .inr (11, [.ref (a 201), .ref (a 202), .ref (a 203), .ref (a 204), .int 0, .ref (a 205), .int 0, .int 0, .int 0, .int 0, .int 0, .int 0, .int 0, .int 0, .int 0, .int (-1), .int 0, .int 0, .int 0, .ref (a 206), .ref (a 207), .int 0, .int 0, .ref (a 208), .int 0, .int 0, .int 0, .int 0, .ref (a 209), .ref (a 210), .ref (a 211), .ref (a 212), .ref (a 213), .ref (a 214), .ref (a 215), .int 0, .ref (a 216), .ref (a 217), .ref (a 218)])), ((a 201), .inl (cy 0, 2260, .inl (upd (upd (fun _ => 0) (1 : Int32).toNatClampNeg 1) (2 : Int32).toNatClampNeg 1)))] H) (hD : va_D A [((a 0), .inr (10, [.ref (a 1), .int 0, .int 0, .int (-1), .ref (a 2), .ref (a 3), .ref (a 4), .ref (a 5), .ref (a 6), .ref (a 7), .ref (a 8), .ref (a 9), .int 0])), ((a 3), .inr (6, [.ref (a 10), .int 0, .ref (a 21), .ref (a 22), .ref (a 23), .ref (a 24), .ref (a 25), .int 0])), ((a 10), .inr (0, [.int 0, .int 1, .int 1, .int 0, .int 0, .ref (a 11), .ref (a 12), .ref (a 13), .null, .null])), ((a 300), .inl (cy 2, 1, .inr (.inl (fun _ => 0)))), ((a 200), .inr (11, [.ref (a 201), .ref (a 202), .ref (a 203), .ref (a 204), .int 0, .ref (a 205), .int 0, .int 0, .int 0, .int 0, .int 0, .int 0, .int 0, .int 0, .int 0, .int (-1), .int 0, .int 0, .int 0, .ref (a 206), .ref (a 207), .int 0, .int 0, .ref (a 208), .int 0, .int 0, .int 0, .int 0, .ref (a 209), .ref (a 210), .ref (a 211), .ref (a 212), .ref (a 213), .ref (a 214), .ref (a 215), .int 0, .ref (a 216), .ref (a 217), .ref (a 218)])), ((a 201), .inl (cy 0, 2260, .inl (upd (upd (fun _ => 0) (1 : Int32).toNatClampNeg 1) (2 : Int32).toNatClampNeg 1)))]) (hS : va_S A s.heap H locs) (hl : lv_has ls 8 [(4, .int 0), (3, .ref (a 300)), (2, .ref (a 200)), (1, .ref (a 0)), (0, .ref b)]) (kk : ∀ (H : Heap) (locs : List Loc) (ls : Array Slot), va_S A s.heap H locs → lv_has ls 8 [(4, .int 0), (0, .ref b)] → W p l e room_1 s m #[Value.ref b] below meth c H locs 600000 7300000 Q (F0 m 3161 ls [])) : W p l e room_1 s m #[Value.ref b] below meth c H locs 131 17485 Q (F0 m 1335 ls []) := by
  obtain ⟨hx, hb, hr, hml, hown, htA, hlk⟩ := id hX
  have hK := hE.1
  refine lv_aload_n hx hb dL_law_1335 rfl (lv_at hl 3 rfl) ?_
  refine lv_aload_n hx hb dL_law_1336 rfl (lv_at hl 4 rfl) ?_
  refine lv_iload hx hb dL_law_1337 (lv_at hl 0 rfl) ?_
  refine lv_iconst (v := 1) hx hb dL_law_1339 (by decide) ?_
  refine lv_iadd hx hb dL_law_1340 ?_
  refine lv_topi (fun x1 ex1 => ?_)
  obtain rfl : x1 = 1 := ex1.trans (by decide)
  refine va_sld hx hb hx7 hbl hbA hS (in_lit (by decide)) dL_law_1341 ?_
  refine lv_aload_n hx hb dL_law_1342 rfl (lv_at hl 1 rfl) ?_
  refine kHi (As := [.ref (a 0), .int (xs (1 : Int32).toNatClampNeg), .ref (a 300)]) (rest := []) (wr := [((a 200), .inr (11, [.ref (a 201), .ref (a 202), .ref (a 203), .ref (a 204), .int 0, .ref (a 205), .int 0, .int 0, .int 0, .int 0, .int 0, .int 0, .int 0, .int 0, .int 0, .int (-1), .int 0, .int 0, .int 0, .ref (a 206), .ref (a 207), .int 0, .int 0, .ref (a 208), .int 0, .int 0, .int 0, .int 0, .ref (a 209), .ref (a 210), .ref (a 211), .ref (a 212), .ref (a 213), .ref (a 214), .ref (a 215), .int 0, .ref (a 216), .ref (a 217), .ref (a 218)])), ((a 201), .inl (cy 0, 2260, .inl (upd (upd (fun _ => 0) (1 : Int32).toNatClampNeg 1) (2 : Int32).toNatClampNeg 1)))]) hX hE (h_frees l hlt D cy a (xs (1 : Int32).toNatClampNeg)) (cwHA 3 htA wd_1057 wd_1055 wd_0 wd_1056 (by decide +kernel) ⟨by decide, by decide⟩) hP hD hS [0, 1, 2, 3] [4, 5] rfl rfl (by decide) rfl hl.1 rfl (Nat.le_of_ble_eq_true rfl) dL_law_1343 (by decide) (fun r_ W1 H locs hw hP hD hS => ?_)
  refine W.widen (k := 132) (n := 17491) (by decide) (by decide) ?_
  obtain ⟨rfl, g_, rfl, hv_⟩ := hw
  have hP : va_P D vwCl [((a 200), .inr (11, [.ref (a 201), .ref (a 202), .ref (a 203), .ref (a 204), .int 0, .ref (a 205), .int 0, .int 0, .int 0, .int 0, .int 0, .int 0, .int 0, .int 0, .int 0, .int (-1), .int 0, .int 0, .int 0, .ref (a 206), .ref (a 207), .int 0, .int 0, .ref (a 208), .int 0, .int 0, .int 0, .int 0, .ref (a 209), .ref (a 210), .ref (a 211), .ref (a 212), .ref (a 213), .ref (a 214), .ref (a 215), .int 0, .ref (a 216), .ref (a 217), .ref (a 218)])), ((a 201), .inl (cy 0, 2260, .inl (upd (upd (fun _ => 0) (1 : Int32).toNatClampNeg 1) (2 : Int32).toNatClampNeg 1))), ((a 300), .inl (cy 2, 1, .inr (.inl (g_))))] H := hP
  have hD : va_D A [((a 200), .inr (11, [.ref (a 201), .ref (a 202), .ref (a 203), .ref (a 204), .int 0, .ref (a 205), .int 0, .int 0, .int 0, .int 0, .int 0, .int 0, .int 0, .int 0, .int 0, .int (-1), .int 0, .int 0, .int 0, .ref (a 206), .ref (a 207), .int 0, .int 0, .ref (a 208), .int 0, .int 0, .int 0, .int 0, .ref (a 209), .ref (a 210), .ref (a 211), .ref (a 212), .ref (a 213), .ref (a 214), .ref (a 215), .int 0, .ref (a 216), .ref (a 217), .ref (a 218)])), ((a 201), .inl (cy 0, 2260, .inl (upd (upd (fun _ => 0) (1 : Int32).toNatClampNeg 1) (2 : Int32).toNatClampNeg 1))), ((a 300), .inl (cy 2, 1, .inr (.inl (g_))))] := hD
  refine lv_istore (lv' := [(5, .int (kf_frees (xs (1 : Int32).toNatClampNeg))), (4, .int 0), (3, .ref (a 300)), (2, .ref (a 200)), (1, .ref (a 0)), (0, .ref b)]) hx hb dL_law_1346 hl (by decide) rfl (fun ls hl => ?_)
  refine lv_aload_n hx hb dL_law_1348 rfl (lv_at hl 3 rfl) ?_
  refine lv_aload_n hx hb dL_law_1349 rfl (lv_at hl 5 rfl) ?_
  refine lv_iload hx hb dL_law_1350 (lv_at hl 1 rfl) ?_
  refine lv_iconst (v := 1) hx hb dL_law_1352 (by decide) ?_
  refine lv_iadd hx hb dL_law_1353 ?_
  refine lv_topi (fun x2 ex2 => ?_)
  obtain rfl : x2 = 1 := ex2.trans (by decide)
  refine va_sld hx hb hx7 hbl hbA hS (in_lit (by decide)) dL_law_1354 ?_
  refine kVi (As := [.int (xs (1 : Int32).toNatClampNeg)]) (rest := []) (wr := [((a 300), .inl (cy 2, 1, .inr (.inl (g_))))]) hX hE (r_frees l D cy a (xs (1 : Int32).toNatClampNeg)) (cwVA 1 htA wd_1902 wd_1899 wd_10 wd_1900 wd_1901 (by decide +kernel) ⟨by decide, by decide⟩) hP hD hS [0, 1] [2] rfl rfl (by decide) 0 rfl rfl rfl rfl hl.1 rfl (Nat.le_of_ble_eq_true rfl) dL_law_1355 (by decide) (fun r_ W1 H locs hw hP hD hS => ?_)
  refine W.widen (k := 132) (n := 17491) (by decide) (by decide) ?_
  obtain ⟨fs_, rfl, hf_, hr_⟩ := hw
  have hP : va_P D vwCl [((a 300), .inl (cy 2, 1, .inr (.inl (g_)))), ((a 200), .inr (11, fs_))] H := hP
  have hD : va_D A [((a 300), .inl (cy 2, 1, .inr (.inl (g_)))), ((a 200), .inr (11, fs_))] := hD
  refine lv_istore (lv' := [(6, .int r_), (5, .int (kf_frees (xs (1 : Int32).toNatClampNeg))), (4, .int 0), (3, .ref (a 300)), (2, .ref (a 200)), (1, .ref (a 0)), (0, .ref b)]) hx hb dL_law_1358 hl (by decide) rfl (fun ls hl => ?_)
  refine lv_aload_n hx hb dL_law_1360 rfl (lv_at hl 4 rfl) ?_
  refine kVi (As := []) (rest := []) (wr := [((a 300), .inl (cy 2, 1, .inr (.inl (g_))))]) hX hE (r_thrown l D cy a fs_ (kf_frees (xs (1 : Int32).toNatClampNeg)) hf_) (cwVA 0 htA wd_1476 wd_1473 wd_10 wd_1474 wd_1475 (by decide +kernel) ⟨by decide, by decide⟩) hP hD hS [1] [0] rfl rfl (by decide) 0 rfl rfl rfl rfl hl.1 rfl (Nat.le_of_ble_eq_true rfl) dL_law_1361 (by decide) (fun r_ W1 H locs hw hP hD hS => ?_)
  refine W.widen (k := 132) (n := 17491) (by decide) (by decide) ?_
  have hP : va_P D vwCl [((a 300), .inl (cy 2, 1, .inr (.inl (g_))))] H := hP.sub [0] rfl
  have hD : va_D A [((a 300), .inl (cy 2, 1, .inr (.inl (g_))))] := hD.sub [0] (by rfl) rfl
  obtain rfl := hw
  have hP : va_P D vwCl [((a 300), .inl (cy 2, 1, .inr (.inl (g_))))] H := hP
  have hD : va_D A [((a 300), .inl (cy 2, 1, .inr (.inl (g_))))] := hD
  refine lv_iload hx hb dL_law_1364 (lv_at hl 1 rfl) ?_
  refine lv_icmp_eq (tgt := 1371) hx hb dL_law_1366 (by decide) (fun _ => ?_) (fun q => absurd rfl q)
  refine lv_iload hx hb dL_law_1371 (lv_at hl 1 rfl) ?_
  refine lv_if_ne (tgt := 1388) hx hb dL_law_1373 (by decide) (fun c3 => ?_) (fun c3 => ?_)
  · refine lv_goto (tgt := 3161) hx hb dL_law_1388 (by decide) ?_
    exact W.widen (k := 600000) (n := 7300000) (Nat.le_of_ble_eq_true rfl) (Nat.le_of_ble_eq_true rfl) (kk H locs ls hS (lv_sub hl [2, 6] rfl))
  · refine lv_aload_n hx hb dL_law_1376 rfl (lv_at hl 3 rfl) ?_
    refine lv_iconst (v := 0) hx hb dL_law_1377 (by decide) ?_
    refine va_lald hx hb hK hP 0 2 rfl rfl (in_lit (by decide)) dL_law_1378 ?_
    refine lv_iload hx hb dL_law_1379 (lv_at hl 0 rfl) ?_
    refine lv_i2l hx hb dL_law_1381 rfl ?_
    refine W.lcmp hx hb dL_law_1382 ?_
    refine lv_if_eq (tgt := 1388) hx hb dL_law_1383 (by decide) (fun _ => ?_) (fun q => absurd (lgs ((hv_ c3).trans (hr_ c3).symm)) q)
    refine lv_goto (tgt := 3161) hx hb dL_law_1388 (by decide) ?_
    exact W.widen (k := 600000) (n := 7300000) (Nat.le_of_ble_eq_true rfl) (Nat.le_of_ble_eq_true rfl) (kk H locs ls hS (lv_sub hl [2, 6] rfl))
set_option maxHeartbeats 4000000 in
set_option maxRecDepth 100000 in
theorem cs_22 (l : Launch) (hlt : l.stackTraces = false) {p : Program} {e : Env} {s : State} {m : MethodId} {below : List Frame} {meth : Method} {c : Code} {D : va_G} {cy : Nat → ClassId} {A : Nat → Prop} {b : Nat} {xs : Nat → Int32} {H : Heap} {locs : List Loc} {ls : Array Slot} {Q : State → Prop} (a : Nat → Nat) (hX : Ex p s m #[Value.ref b] meth c code ret 8 RL) (hE : Ew D cy A s) (hx7 : va_X b 7 xs s s.heap) (hbl : b < s.heap.size) (hbA : ¬ A b) (hP : va_P D vwCl [((a 0), .inr (10, [.ref (a 1), .int 0, .int 0, .int (-1), .ref (a 2), .ref (a 3), .ref (a 4), .ref (a 5), .ref (a 6), .ref (a 7), .ref (a 8), .ref (a 9), .int 0])), ((a 3), .inr (6, [.ref (a 10), .int 0, .ref (a 21), .ref (a 22), .ref (a 23), .ref (a 24), .ref (a 25), .int 0])), ((a 21), .inl (cy 0, 8, .inl (fun _ => 0))), ((a 22), .inl (cy 0, 8, .inl (fun _ => 0))), ((a 23), .inl (cy 0, 8, .inl (fun _ => 0))), ((a 24), .inl (cy 0, 8, .inl (fun _ => 0))), ((a 25), .inl (cy 0, 4, .inl (fun _ => 0))), ((a 10), .inr (0, [.int 0, .int 1, .int 1, .int 0, .int 0, .ref (a 11), .ref (a 12), .ref (a 13), .null, .null])), ((a 5), .inr (1, [.ref (a 40), .int 0, .int 0, .ref (a 46), .ref (a 47)])), ((a 40), .inr (6, [.ref (a 10), .int 0, .ref (a 41), .ref (a 42), .ref (a 43), .ref (a 44), .ref (a 45), .int 0])), ((a 41), .inl (cy 0, 8, .inl (fun _ => 0))), ((a 42), .inl (cy 0, 8, .inl (fun _ => 0))), ((a 43), .inl (cy 0, 8, .inl (fun _ => 0))), ((a 44), .inl (cy 0, 8, .inl (fun _ => 0))), ((a 45), .inl (cy 0, 4, .inl (fun _ => 0))), ((a 300), .inl (cy 2, 1, .inr (.inl (fun _ => 0)))), ((a 200), .inr (11, [.ref (a 201), .ref (a 202), .ref (a 203), .ref (a 204), .int 0, .ref (a 205), .int 0, .int 0, .int 0, .int 0, .int 0, .int 0, .int 0, .int 0, .int 0, .int (-1), .int 0, .int 0, .int 0, .ref (a 206), .ref (a 207), .int 0, .int 0, .ref (a 208), .int 0, .int 0, .int 0, .int 0, .ref (a 209), .ref (a 210), .ref (a 211), .ref (a 212), .ref (a 213), .ref (a 214), .ref (a 215), .int 0, .ref (a 216), .ref (a 217), .ref (a 218)])), ((a 201), .inl (cy 0, 2260, .inl (upd (upd (fun _ => 0) (1 : Int32).toNatClampNeg 1) (2 : Int32).toNatClampNeg 1))), ((a 202), .inl (cy 0, 2260, .inl (fun _ => 0))), ((a 203), .inl (cy 0, 6780, .inl (fun _ => 0))), ((a 204), .inl (cy 3, 3, .inl (fun _ => 0))), ((a 205), .inl (cy 0, 900, .inl (fun _ => 0))), ((a 206), .inl (cy 0, 64, .inl (fun _ => 0))), ((a 207), .inl (cy 0, 6, .inl (fun _ => 0))), ((a 208), .inl (cy 0, 37, .inl (fun _ => 0))), ((a 209), .inl (cy 0, 61, .inl (fun _ => 0))), ((a 210), .inl (cy 0, 61, .inl (fun _ => 0))), ((a 211), .inl (cy 0, 61, .inl (fun _ => 0))), ((a 212), .inl (cy 0, 61, .inl (fun _ => 0))), ((a 213), .inl (cy 0, 61, .inl (fun _ => 0))), ((a 214), .inl (cy 2, 6, .inr (.inl (fun _ => 0)))), ((a 215), .inl (cy 2, 6, .inr (.inl (fun _ => 0)))), ((a 216), .inl (cy 0, 4, .inl (upd (upd (upd (upd (fun _ => 0) (0 : Int32).toNatClampNeg (-1)) (1 : Int32).toNatClampNeg (-1)) (2 : Int32).toNatClampNeg (-1)) (3 : Int32).toNatClampNeg (-1)))), ((a 217), .inl (cy 0, 4, .inl (fun _ => 0))), ((a 218), .inl (cy 2, 120, .inr (.inl (fun _ => 0))))] H) (hD : va_D A [((a 0), .inr (10, [.ref (a 1), .int 0, .int 0, .int (-1), .ref (a 2), .ref (a 3), .ref (a 4), .ref (a 5), .ref (a 6), .ref (a 7), .ref (a 8), .ref (a 9), .int 0])), ((a 3), .inr (6, [.ref (a 10), .int 0, .ref (a 21), .ref (a 22), .ref (a 23), .ref (a 24), .ref (a 25), .int 0])), ((a 21), .inl (cy 0, 8, .inl (fun _ => 0))), ((a 22), .inl (cy 0, 8, .inl (fun _ => 0))), ((a 23), .inl (cy 0, 8, .inl (fun _ => 0))), ((a 24), .inl (cy 0, 8, .inl (fun _ => 0))), ((a 25), .inl (cy 0, 4, .inl (fun _ => 0))), ((a 10), .inr (0, [.int 0, .int 1, .int 1, .int 0, .int 0, .ref (a 11), .ref (a 12), .ref (a 13), .null, .null])), ((a 5), .inr (1, [.ref (a 40), .int 0, .int 0, .ref (a 46), .ref (a 47)])), ((a 40), .inr (6, [.ref (a 10), .int 0, .ref (a 41), .ref (a 42), .ref (a 43), .ref (a 44), .ref (a 45), .int 0])), ((a 41), .inl (cy 0, 8, .inl (fun _ => 0))), ((a 42), .inl (cy 0, 8, .inl (fun _ => 0))), ((a 43), .inl (cy 0, 8, .inl (fun _ => 0))), ((a 44), .inl (cy 0, 8, .inl (fun _ => 0))), ((a 45), .inl (cy 0, 4, .inl (fun _ => 0))), ((a 300), .inl (cy 2, 1, .inr (.inl (fun _ => 0)))), ((a 200), .inr (11, [.ref (a 201), .ref (a 202), .ref (a 203), .ref (a 204), .int 0, .ref (a 205), .int 0, .int 0, .int 0, .int 0, .int 0, .int 0, .int 0, .int 0, .int 0, .int (-1), .int 0, .int 0, .int 0, .ref (a 206), .ref (a 207), .int 0, .int 0, .ref (a 208), .int 0, .int 0, .int 0, .int 0, .ref (a 209), .ref (a 210), .ref (a 211), .ref (a 212), .ref (a 213), .ref (a 214), .ref (a 215), .int 0, .ref (a 216), .ref (a 217), .ref (a 218)])), ((a 201), .inl (cy 0, 2260, .inl (upd (upd (fun _ => 0) (1 : Int32).toNatClampNeg 1) (2 : Int32).toNatClampNeg 1))), ((a 202), .inl (cy 0, 2260, .inl (fun _ => 0))), ((a 203), .inl (cy 0, 6780, .inl (fun _ => 0))), ((a 204), .inl (cy 3, 3, .inl (fun _ => 0))), ((a 205), .inl (cy 0, 900, .inl (fun _ => 0))), ((a 206), .inl (cy 0, 64, .inl (fun _ => 0))), ((a 207), .inl (cy 0, 6, .inl (fun _ => 0))), ((a 208), .inl (cy 0, 37, .inl (fun _ => 0))), ((a 209), .inl (cy 0, 61, .inl (fun _ => 0))), ((a 210), .inl (cy 0, 61, .inl (fun _ => 0))), ((a 211), .inl (cy 0, 61, .inl (fun _ => 0))), ((a 212), .inl (cy 0, 61, .inl (fun _ => 0))), ((a 213), .inl (cy 0, 61, .inl (fun _ => 0))), ((a 214), .inl (cy 2, 6, .inr (.inl (fun _ => 0)))), ((a 215), .inl (cy 2, 6, .inr (.inl (fun _ => 0)))), ((a 216), .inl (cy 0, 4, .inl (upd (upd (upd (upd (fun _ => 0) (0 : Int32).toNatClampNeg (-1)) (1 : Int32).toNatClampNeg (-1)) (2 : Int32).toNatClampNeg (-1)) (3 : Int32).toNatClampNeg (-1)))), ((a 217), .inl (cy 0, 4, .inl (fun _ => 0))), ((a 218), .inl (cy 2, 120, .inr (.inl (fun _ => 0))))]) (hS : va_S A s.heap H locs) (hl : lv_has ls 8 [(4, .int 0), (3, .ref (a 300)), (2, .ref (a 200)), (1, .ref (a 0)), (0, .ref b)]) (kk : ∀ (H : Heap) (locs : List Loc) (ls : Array Slot), va_S A s.heap H locs → lv_has ls 8 [(4, .int 0), (0, .ref b)] → W p l e room_1 s m #[Value.ref b] below meth c H locs 600000 7300000 Q (F0 m 3161 ls [])) : W p l e room_1 s m #[Value.ref b] below meth c H locs 131 17485 Q (F0 m 1391 ls []) := by
  obtain ⟨hx, hb, hr, hml, hown, htA, hlk⟩ := id hX
  have hK := hE.1
  refine lv_aload_n hx hb dL_law_1391 rfl (lv_at hl 3 rfl) ?_
  refine lv_aload_n hx hb dL_law_1392 rfl (lv_at hl 4 rfl) ?_
  refine lv_iload hx hb dL_law_1393 (lv_at hl 0 rfl) ?_
  refine lv_iconst (v := 1) hx hb dL_law_1395 (by decide) ?_
  refine lv_iadd hx hb dL_law_1396 ?_
  refine lv_topi (fun x1 ex1 => ?_)
  obtain rfl : x1 = 1 := ex1.trans (by decide)
  refine va_sld hx hb hx7 hbl hbA hS (in_lit (by decide)) dL_law_1397 ?_
  refine lv_aload_n hx hb dL_law_1398 rfl (lv_at hl 4 rfl) ?_
  refine lv_iload hx hb dL_law_1399 (lv_at hl 0 rfl) ?_
  refine lv_iconst (v := 2) hx hb dL_law_1401 (by decide) ?_
  refine lv_iadd hx hb dL_law_1402 ?_
  refine lv_topi (fun x2 ex2 => ?_)
  obtain rfl : x2 = 2 := ex2.trans (by decide)
  refine va_sld hx hb hx7 hbl hbA hS (in_lit (by decide)) dL_law_1403 ?_
  refine lv_aload_n hx hb dL_law_1404 rfl (lv_at hl 1 rfl) ?_
  refine kHi (As := [.ref (a 0), .int (xs (1 : Int32).toNatClampNeg), .int (xs (2 : Int32).toNatClampNeg), .ref (a 300)]) (rest := []) (wr := [((a 200), .inr (11, [.ref (a 201), .ref (a 202), .ref (a 203), .ref (a 204), .int 0, .ref (a 205), .int 0, .int 0, .int 0, .int 0, .int 0, .int 0, .int 0, .int 0, .int 0, .int (-1), .int 0, .int 0, .int 0, .ref (a 206), .ref (a 207), .int 0, .int 0, .ref (a 208), .int 0, .int 0, .int 0, .int 0, .ref (a 209), .ref (a 210), .ref (a 211), .ref (a 212), .ref (a 213), .ref (a 214), .ref (a 215), .int 0, .ref (a 216), .ref (a 217), .ref (a 218)])), ((a 201), .inl (cy 0, 2260, .inl (upd (upd (fun _ => 0) (1 : Int32).toNatClampNeg 1) (2 : Int32).toNatClampNeg 1))), ((a 202), .inl (cy 0, 2260, .inl (fun _ => 0))), ((a 203), .inl (cy 0, 6780, .inl (fun _ => 0))), ((a 204), .inl (cy 3, 3, .inl (fun _ => 0))), ((a 205), .inl (cy 0, 900, .inl (fun _ => 0))), ((a 206), .inl (cy 0, 64, .inl (fun _ => 0))), ((a 207), .inl (cy 0, 6, .inl (fun _ => 0))), ((a 208), .inl (cy 0, 37, .inl (fun _ => 0))), ((a 209), .inl (cy 0, 61, .inl (fun _ => 0))), ((a 210), .inl (cy 0, 61, .inl (fun _ => 0))), ((a 211), .inl (cy 0, 61, .inl (fun _ => 0))), ((a 212), .inl (cy 0, 61, .inl (fun _ => 0))), ((a 213), .inl (cy 0, 61, .inl (fun _ => 0))), ((a 214), .inl (cy 2, 6, .inr (.inl (fun _ => 0)))), ((a 215), .inl (cy 2, 6, .inr (.inl (fun _ => 0)))), ((a 216), .inl (cy 0, 4, .inl (upd (upd (upd (upd (fun _ => 0) (0 : Int32).toNatClampNeg (-1)) (1 : Int32).toNatClampNeg (-1)) (2 : Int32).toNatClampNeg (-1)) (3 : Int32).toNatClampNeg (-1)))), ((a 217), .inl (cy 0, 4, .inl (fun _ => 0))), ((a 218), .inl (cy 2, 120, .inr (.inl (fun _ => 0))))]) hX hE (h_heightIn l hlt D cy a (xs (1 : Int32).toNatClampNeg) (xs (2 : Int32).toNatClampNeg)) (cwHA 4 htA wd_1066 wd_1064 wd_0 wd_1065 (by decide +kernel) ⟨by decide, by decide⟩) hP hD hS [0, 1, 2, 3, 4, 5, 6, 7, 8, 9, 10, 11, 12, 13, 14, 15] [16, 17, 18, 19, 20, 21, 22, 23, 24, 25, 26, 27, 28, 29, 30, 31, 32, 33, 34] rfl rfl (by decide) rfl hl.1 rfl (Nat.le_of_ble_eq_true rfl) dL_law_1405 (by decide) (fun r_ W1 H locs hw hP hD hS => ?_)
  refine W.widen (k := 133) (n := 17497) (by decide) (by decide) ?_
  obtain ⟨rfl, g_, rfl, hv_⟩ := hw
  have hP : va_P D vwCl [((a 200), .inr (11, [.ref (a 201), .ref (a 202), .ref (a 203), .ref (a 204), .int 0, .ref (a 205), .int 0, .int 0, .int 0, .int 0, .int 0, .int 0, .int 0, .int 0, .int 0, .int (-1), .int 0, .int 0, .int 0, .ref (a 206), .ref (a 207), .int 0, .int 0, .ref (a 208), .int 0, .int 0, .int 0, .int 0, .ref (a 209), .ref (a 210), .ref (a 211), .ref (a 212), .ref (a 213), .ref (a 214), .ref (a 215), .int 0, .ref (a 216), .ref (a 217), .ref (a 218)])), ((a 201), .inl (cy 0, 2260, .inl (upd (upd (fun _ => 0) (1 : Int32).toNatClampNeg 1) (2 : Int32).toNatClampNeg 1))), ((a 202), .inl (cy 0, 2260, .inl (fun _ => 0))), ((a 203), .inl (cy 0, 6780, .inl (fun _ => 0))), ((a 204), .inl (cy 3, 3, .inl (fun _ => 0))), ((a 205), .inl (cy 0, 900, .inl (fun _ => 0))), ((a 206), .inl (cy 0, 64, .inl (fun _ => 0))), ((a 207), .inl (cy 0, 6, .inl (fun _ => 0))), ((a 208), .inl (cy 0, 37, .inl (fun _ => 0))), ((a 209), .inl (cy 0, 61, .inl (fun _ => 0))), ((a 210), .inl (cy 0, 61, .inl (fun _ => 0))), ((a 211), .inl (cy 0, 61, .inl (fun _ => 0))), ((a 212), .inl (cy 0, 61, .inl (fun _ => 0))), ((a 213), .inl (cy 0, 61, .inl (fun _ => 0))), ((a 214), .inl (cy 2, 6, .inr (.inl (fun _ => 0)))), ((a 215), .inl (cy 2, 6, .inr (.inl (fun _ => 0)))), ((a 216), .inl (cy 0, 4, .inl (upd (upd (upd (upd (fun _ => 0) (0 : Int32).toNatClampNeg (-1)) (1 : Int32).toNatClampNeg (-1)) (2 : Int32).toNatClampNeg (-1)) (3 : Int32).toNatClampNeg (-1)))), ((a 217), .inl (cy 0, 4, .inl (fun _ => 0))), ((a 218), .inl (cy 2, 120, .inr (.inl (fun _ => 0)))), ((a 300), .inl (cy 2, 1, .inr (.inl (g_))))] H := hP
  have hD : va_D A [((a 200), .inr (11, [.ref (a 201), .ref (a 202), .ref (a 203), .ref (a 204), .int 0, .ref (a 205), .int 0, .int 0, .int 0, .int 0, .int 0, .int 0, .int 0, .int 0, .int 0, .int (-1), .int 0, .int 0, .int 0, .ref (a 206), .ref (a 207), .int 0, .int 0, .ref (a 208), .int 0, .int 0, .int 0, .int 0, .ref (a 209), .ref (a 210), .ref (a 211), .ref (a 212), .ref (a 213), .ref (a 214), .ref (a 215), .int 0, .ref (a 216), .ref (a 217), .ref (a 218)])), ((a 201), .inl (cy 0, 2260, .inl (upd (upd (fun _ => 0) (1 : Int32).toNatClampNeg 1) (2 : Int32).toNatClampNeg 1))), ((a 202), .inl (cy 0, 2260, .inl (fun _ => 0))), ((a 203), .inl (cy 0, 6780, .inl (fun _ => 0))), ((a 204), .inl (cy 3, 3, .inl (fun _ => 0))), ((a 205), .inl (cy 0, 900, .inl (fun _ => 0))), ((a 206), .inl (cy 0, 64, .inl (fun _ => 0))), ((a 207), .inl (cy 0, 6, .inl (fun _ => 0))), ((a 208), .inl (cy 0, 37, .inl (fun _ => 0))), ((a 209), .inl (cy 0, 61, .inl (fun _ => 0))), ((a 210), .inl (cy 0, 61, .inl (fun _ => 0))), ((a 211), .inl (cy 0, 61, .inl (fun _ => 0))), ((a 212), .inl (cy 0, 61, .inl (fun _ => 0))), ((a 213), .inl (cy 0, 61, .inl (fun _ => 0))), ((a 214), .inl (cy 2, 6, .inr (.inl (fun _ => 0)))), ((a 215), .inl (cy 2, 6, .inr (.inl (fun _ => 0)))), ((a 216), .inl (cy 0, 4, .inl (upd (upd (upd (upd (fun _ => 0) (0 : Int32).toNatClampNeg (-1)) (1 : Int32).toNatClampNeg (-1)) (2 : Int32).toNatClampNeg (-1)) (3 : Int32).toNatClampNeg (-1)))), ((a 217), .inl (cy 0, 4, .inl (fun _ => 0))), ((a 218), .inl (cy 2, 120, .inr (.inl (fun _ => 0)))), ((a 300), .inl (cy 2, 1, .inr (.inl (g_))))] := hD
  refine lv_istore (lv' := [(5, .int (kf_heightIn (xs (1 : Int32).toNatClampNeg) (xs (2 : Int32).toNatClampNeg))), (4, .int 0), (3, .ref (a 300)), (2, .ref (a 200)), (1, .ref (a 0)), (0, .ref b)]) hx hb dL_law_1408 hl (by decide) rfl (fun ls hl => ?_)
  refine lv_aload_n hx hb dL_law_1410 rfl (lv_at hl 3 rfl) ?_
  refine lv_aload_n hx hb dL_law_1411 rfl (lv_at hl 5 rfl) ?_
  refine lv_iload hx hb dL_law_1412 (lv_at hl 1 rfl) ?_
  refine lv_iconst (v := 1) hx hb dL_law_1414 (by decide) ?_
  refine lv_iadd hx hb dL_law_1415 ?_
  refine lv_topi (fun x3 ex3 => ?_)
  obtain rfl : x3 = 1 := ex3.trans (by decide)
  refine va_sld hx hb hx7 hbl hbA hS (in_lit (by decide)) dL_law_1416 ?_
  refine lv_aload_n hx hb dL_law_1417 rfl (lv_at hl 5 rfl) ?_
  refine lv_iload hx hb dL_law_1418 (lv_at hl 1 rfl) ?_
  refine lv_iconst (v := 2) hx hb dL_law_1420 (by decide) ?_
  refine lv_iadd hx hb dL_law_1421 ?_
  refine lv_topi (fun x4 ex4 => ?_)
  obtain rfl : x4 = 2 := ex4.trans (by decide)
  refine va_sld hx hb hx7 hbl hbA hS (in_lit (by decide)) dL_law_1422 ?_
  refine kVi (As := [.int (xs (1 : Int32).toNatClampNeg), .int (xs (2 : Int32).toNatClampNeg)]) (rest := []) (wr := [((a 300), .inl (cy 2, 1, .inr (.inl (g_))))]) hX hE (r_heightIn l D cy a (xs (1 : Int32).toNatClampNeg) (xs (2 : Int32).toNatClampNeg)) (cwVA 2 htA wd_1906 wd_1903 wd_10 wd_1904 wd_1905 (by decide +kernel) ⟨by decide, by decide⟩) hP hD hS [0, 1, 2, 3, 4, 5, 6, 7, 8, 9, 10, 11, 12, 13, 14, 15, 16, 17, 18] [19] rfl rfl (by decide) 0 rfl rfl rfl rfl hl.1 rfl (Nat.le_of_ble_eq_true rfl) dL_law_1423 (by decide) (fun r_ W1 H locs hw hP hD hS => ?_)
  refine W.widen (k := 133) (n := 17497) (by decide) (by decide) ?_
  obtain ⟨fs_, rfl, hf_, hr_⟩ := hw
  have hP : va_P D vwCl [((a 300), .inl (cy 2, 1, .inr (.inl (g_)))), ((a 200), .inr (11, fs_))] H := hP
  have hD : va_D A [((a 300), .inl (cy 2, 1, .inr (.inl (g_)))), ((a 200), .inr (11, fs_))] := hD
  refine lv_istore (lv' := [(6, .int r_), (5, .int (kf_heightIn (xs (1 : Int32).toNatClampNeg) (xs (2 : Int32).toNatClampNeg))), (4, .int 0), (3, .ref (a 300)), (2, .ref (a 200)), (1, .ref (a 0)), (0, .ref b)]) hx hb dL_law_1426 hl (by decide) rfl (fun ls hl => ?_)
  refine lv_aload_n hx hb dL_law_1428 rfl (lv_at hl 4 rfl) ?_
  refine kVi (As := []) (rest := []) (wr := [((a 300), .inl (cy 2, 1, .inr (.inl (g_))))]) hX hE (r_thrown l D cy a fs_ (kf_heightIn (xs (1 : Int32).toNatClampNeg) (xs (2 : Int32).toNatClampNeg)) hf_) (cwVA 0 htA wd_1476 wd_1473 wd_10 wd_1474 wd_1475 (by decide +kernel) ⟨by decide, by decide⟩) hP hD hS [1] [0] rfl rfl (by decide) 0 rfl rfl rfl rfl hl.1 rfl (Nat.le_of_ble_eq_true rfl) dL_law_1429 (by decide) (fun r_ W1 H locs hw hP hD hS => ?_)
  refine W.widen (k := 133) (n := 17497) (by decide) (by decide) ?_
  have hP : va_P D vwCl [((a 300), .inl (cy 2, 1, .inr (.inl (g_))))] H := hP.sub [0] rfl
  have hD : va_D A [((a 300), .inl (cy 2, 1, .inr (.inl (g_))))] := hD.sub [0] (by rfl) rfl
  obtain rfl := hw
  have hP : va_P D vwCl [((a 300), .inl (cy 2, 1, .inr (.inl (g_))))] H := hP
  have hD : va_D A [((a 300), .inl (cy 2, 1, .inr (.inl (g_))))] := hD
  refine lv_iload hx hb dL_law_1432 (lv_at hl 1 rfl) ?_
  refine lv_icmp_eq (tgt := 1439) hx hb dL_law_1434 (by decide) (fun _ => ?_) (fun q => absurd rfl q)
  refine lv_iload hx hb dL_law_1439 (lv_at hl 1 rfl) ?_
  refine lv_if_ne (tgt := 1456) hx hb dL_law_1441 (by decide) (fun c5 => ?_) (fun c5 => ?_)
  · refine lv_goto (tgt := 3161) hx hb dL_law_1456 (by decide) ?_
    exact W.widen (k := 600000) (n := 7300000) (Nat.le_of_ble_eq_true rfl) (Nat.le_of_ble_eq_true rfl) (kk H locs ls hS (lv_sub hl [2, 6] rfl))
  · refine lv_aload_n hx hb dL_law_1444 rfl (lv_at hl 3 rfl) ?_
    refine lv_iconst (v := 0) hx hb dL_law_1445 (by decide) ?_
    refine va_lald hx hb hK hP 0 2 rfl rfl (in_lit (by decide)) dL_law_1446 ?_
    refine lv_iload hx hb dL_law_1447 (lv_at hl 0 rfl) ?_
    refine lv_i2l hx hb dL_law_1449 rfl ?_
    refine W.lcmp hx hb dL_law_1450 ?_
    refine lv_if_eq (tgt := 1456) hx hb dL_law_1451 (by decide) (fun _ => ?_) (fun q => absurd (lgs ((hv_ c5).trans (hr_ c5).symm)) q)
    refine lv_goto (tgt := 3161) hx hb dL_law_1456 (by decide) ?_
    exact W.widen (k := 600000) (n := 7300000) (Nat.le_of_ble_eq_true rfl) (Nat.le_of_ble_eq_true rfl) (kk H locs ls hS (lv_sub hl [2, 6] rfl))
set_option maxHeartbeats 4000000 in
set_option maxRecDepth 100000 in
theorem cs_23 (l : Launch) (hlt : l.stackTraces = false) {p : Program} {e : Env} {s : State} {m : MethodId} {below : List Frame} {meth : Method} {c : Code} {D : va_G} {cy : Nat → ClassId} {A : Nat → Prop} {b : Nat} {xs : Nat → Int32} {H : Heap} {locs : List Loc} {ls : Array Slot} {Q : State → Prop} (a : Nat → Nat) (hX : Ex p s m #[Value.ref b] meth c code ret 8 RL) (hE : Ew D cy A s) (hx7 : va_X b 7 xs s s.heap) (hbl : b < s.heap.size) (hbA : ¬ A b) (hP : va_P D vwCl [((a 0), .inr (10, [.ref (a 1), .int 0, .int 0, .int (-1), .ref (a 2), .ref (a 3), .ref (a 4), .ref (a 5), .ref (a 6), .ref (a 7), .ref (a 8), .ref (a 9), .int 0])), ((a 3), .inr (6, [.ref (a 10), .int 0, .ref (a 21), .ref (a 22), .ref (a 23), .ref (a 24), .ref (a 25), .int 0])), ((a 10), .inr (0, [.int 0, .int 1, .int 1, .int 0, .int 0, .ref (a 11), .ref (a 12), .ref (a 13), .null, .null])), ((a 300), .inl (cy 2, 1, .inr (.inl (fun _ => 0)))), ((a 200), .inr (11, [.ref (a 201), .ref (a 202), .ref (a 203), .ref (a 204), .int 0, .ref (a 205), .int 0, .int 0, .int 0, .int 0, .int 0, .int 0, .int 0, .int 0, .int 0, .int (-1), .int 0, .int 0, .int 0, .ref (a 206), .ref (a 207), .int 0, .int 0, .ref (a 208), .int 0, .int 0, .int 0, .int 0, .ref (a 209), .ref (a 210), .ref (a 211), .ref (a 212), .ref (a 213), .ref (a 214), .ref (a 215), .int 0, .ref (a 216), .ref (a 217), .ref (a 218)])), ((a 201), .inl (cy 0, 2260, .inl (upd (upd (fun _ => 0) (1 : Int32).toNatClampNeg 1) (2 : Int32).toNatClampNeg 1)))] H) (hD : va_D A [((a 0), .inr (10, [.ref (a 1), .int 0, .int 0, .int (-1), .ref (a 2), .ref (a 3), .ref (a 4), .ref (a 5), .ref (a 6), .ref (a 7), .ref (a 8), .ref (a 9), .int 0])), ((a 3), .inr (6, [.ref (a 10), .int 0, .ref (a 21), .ref (a 22), .ref (a 23), .ref (a 24), .ref (a 25), .int 0])), ((a 10), .inr (0, [.int 0, .int 1, .int 1, .int 0, .int 0, .ref (a 11), .ref (a 12), .ref (a 13), .null, .null])), ((a 300), .inl (cy 2, 1, .inr (.inl (fun _ => 0)))), ((a 200), .inr (11, [.ref (a 201), .ref (a 202), .ref (a 203), .ref (a 204), .int 0, .ref (a 205), .int 0, .int 0, .int 0, .int 0, .int 0, .int 0, .int 0, .int 0, .int 0, .int (-1), .int 0, .int 0, .int 0, .ref (a 206), .ref (a 207), .int 0, .int 0, .ref (a 208), .int 0, .int 0, .int 0, .int 0, .ref (a 209), .ref (a 210), .ref (a 211), .ref (a 212), .ref (a 213), .ref (a 214), .ref (a 215), .int 0, .ref (a 216), .ref (a 217), .ref (a 218)])), ((a 201), .inl (cy 0, 2260, .inl (upd (upd (fun _ => 0) (1 : Int32).toNatClampNeg 1) (2 : Int32).toNatClampNeg 1)))]) (hS : va_S A s.heap H locs) (hl : lv_has ls 8 [(4, .int 0), (3, .ref (a 300)), (2, .ref (a 200)), (1, .ref (a 0)), (0, .ref b)]) (kk : ∀ (H : Heap) (locs : List Loc) (ls : Array Slot), va_S A s.heap H locs → lv_has ls 8 [(4, .int 0), (0, .ref b)] → W p l e room_1 s m #[Value.ref b] below meth c H locs 600000 7300000 Q (F0 m 3161 ls [])) : W p l e room_1 s m #[Value.ref b] below meth c H locs 131 17485 Q (F0 m 1459 ls []) := by
  obtain ⟨hx, hb, hr, hml, hown, htA, hlk⟩ := id hX
  have hK := hE.1
  refine lv_aload_n hx hb dL_law_1459 rfl (lv_at hl 3 rfl) ?_
  refine lv_aload_n hx hb dL_law_1460 rfl (lv_at hl 4 rfl) ?_
  refine lv_iload hx hb dL_law_1461 (lv_at hl 0 rfl) ?_
  refine lv_iconst (v := 1) hx hb dL_law_1463 (by decide) ?_
  refine lv_iadd hx hb dL_law_1464 ?_
  refine lv_topi (fun x1 ex1 => ?_)
  obtain rfl : x1 = 1 := ex1.trans (by decide)
  refine va_sld hx hb hx7 hbl hbA hS (in_lit (by decide)) dL_law_1465 ?_
  refine lv_aload_n hx hb dL_law_1466 rfl (lv_at hl 1 rfl) ?_
  refine kHi (As := [.ref (a 0), .int (xs (1 : Int32).toNatClampNeg), .ref (a 300)]) (rest := []) (wr := [((a 200), .inr (11, [.ref (a 201), .ref (a 202), .ref (a 203), .ref (a 204), .int 0, .ref (a 205), .int 0, .int 0, .int 0, .int 0, .int 0, .int 0, .int 0, .int 0, .int 0, .int (-1), .int 0, .int 0, .int 0, .ref (a 206), .ref (a 207), .int 0, .int 0, .ref (a 208), .int 0, .int 0, .int 0, .int 0, .ref (a 209), .ref (a 210), .ref (a 211), .ref (a 212), .ref (a 213), .ref (a 214), .ref (a 215), .int 0, .ref (a 216), .ref (a 217), .ref (a 218)])), ((a 201), .inl (cy 0, 2260, .inl (upd (upd (fun _ => 0) (1 : Int32).toNatClampNeg 1) (2 : Int32).toNatClampNeg 1)))]) hX hE (h_hurtIn l hlt D cy a (xs (1 : Int32).toNatClampNeg)) (cwHA 3 htA wd_1073 wd_1071 wd_0 wd_1072 (by decide +kernel) ⟨by decide, by decide⟩) hP hD hS [0, 1, 2, 3] [4, 5] rfl rfl (by decide) rfl hl.1 rfl (Nat.le_of_ble_eq_true rfl) dL_law_1467 (by decide) (fun r_ W1 H locs hw hP hD hS => ?_)
  refine W.widen (k := 132) (n := 17491) (by decide) (by decide) ?_
  obtain ⟨rfl, g_, rfl, hv_⟩ := hw
  have hP : va_P D vwCl [((a 200), .inr (11, [.ref (a 201), .ref (a 202), .ref (a 203), .ref (a 204), .int 0, .ref (a 205), .int 0, .int 0, .int 0, .int 0, .int 0, .int 0, .int 0, .int 0, .int 0, .int (-1), .int 0, .int 0, .int 0, .ref (a 206), .ref (a 207), .int 0, .int 0, .ref (a 208), .int 0, .int 0, .int 0, .int 0, .ref (a 209), .ref (a 210), .ref (a 211), .ref (a 212), .ref (a 213), .ref (a 214), .ref (a 215), .int 0, .ref (a 216), .ref (a 217), .ref (a 218)])), ((a 201), .inl (cy 0, 2260, .inl (upd (upd (fun _ => 0) (1 : Int32).toNatClampNeg 1) (2 : Int32).toNatClampNeg 1))), ((a 300), .inl (cy 2, 1, .inr (.inl (g_))))] H := hP
  have hD : va_D A [((a 200), .inr (11, [.ref (a 201), .ref (a 202), .ref (a 203), .ref (a 204), .int 0, .ref (a 205), .int 0, .int 0, .int 0, .int 0, .int 0, .int 0, .int 0, .int 0, .int 0, .int (-1), .int 0, .int 0, .int 0, .ref (a 206), .ref (a 207), .int 0, .int 0, .ref (a 208), .int 0, .int 0, .int 0, .int 0, .ref (a 209), .ref (a 210), .ref (a 211), .ref (a 212), .ref (a 213), .ref (a 214), .ref (a 215), .int 0, .ref (a 216), .ref (a 217), .ref (a 218)])), ((a 201), .inl (cy 0, 2260, .inl (upd (upd (fun _ => 0) (1 : Int32).toNatClampNeg 1) (2 : Int32).toNatClampNeg 1))), ((a 300), .inl (cy 2, 1, .inr (.inl (g_))))] := hD
  refine lv_istore (lv' := [(5, .int (kf_hurtIn (xs (1 : Int32).toNatClampNeg))), (4, .int 0), (3, .ref (a 300)), (2, .ref (a 200)), (1, .ref (a 0)), (0, .ref b)]) hx hb dL_law_1470 hl (by decide) rfl (fun ls hl => ?_)
  refine lv_aload_n hx hb dL_law_1472 rfl (lv_at hl 3 rfl) ?_
  refine lv_aload_n hx hb dL_law_1473 rfl (lv_at hl 5 rfl) ?_
  refine lv_iload hx hb dL_law_1474 (lv_at hl 1 rfl) ?_
  refine lv_iconst (v := 1) hx hb dL_law_1476 (by decide) ?_
  refine lv_iadd hx hb dL_law_1477 ?_
  refine lv_topi (fun x2 ex2 => ?_)
  obtain rfl : x2 = 1 := ex2.trans (by decide)
  refine va_sld hx hb hx7 hbl hbA hS (in_lit (by decide)) dL_law_1478 ?_
  refine kVi (As := [.int (xs (1 : Int32).toNatClampNeg)]) (rest := []) (wr := [((a 300), .inl (cy 2, 1, .inr (.inl (g_))))]) hX hE (r_hurtIn l D cy a (xs (1 : Int32).toNatClampNeg)) (cwVA 1 htA wd_1910 wd_1907 wd_10 wd_1908 wd_1909 (by decide +kernel) ⟨by decide, by decide⟩) hP hD hS [0, 1] [2] rfl rfl (by decide) 0 rfl rfl rfl rfl hl.1 rfl (Nat.le_of_ble_eq_true rfl) dL_law_1479 (by decide) (fun r_ W1 H locs hw hP hD hS => ?_)
  refine W.widen (k := 132) (n := 17491) (by decide) (by decide) ?_
  obtain ⟨fs_, rfl, hf_, hr_⟩ := hw
  have hP : va_P D vwCl [((a 300), .inl (cy 2, 1, .inr (.inl (g_)))), ((a 200), .inr (11, fs_))] H := hP
  have hD : va_D A [((a 300), .inl (cy 2, 1, .inr (.inl (g_)))), ((a 200), .inr (11, fs_))] := hD
  refine lv_istore (lv' := [(6, .int r_), (5, .int (kf_hurtIn (xs (1 : Int32).toNatClampNeg))), (4, .int 0), (3, .ref (a 300)), (2, .ref (a 200)), (1, .ref (a 0)), (0, .ref b)]) hx hb dL_law_1482 hl (by decide) rfl (fun ls hl => ?_)
  refine lv_aload_n hx hb dL_law_1484 rfl (lv_at hl 4 rfl) ?_
  refine kVi (As := []) (rest := []) (wr := [((a 300), .inl (cy 2, 1, .inr (.inl (g_))))]) hX hE (r_thrown l D cy a fs_ (kf_hurtIn (xs (1 : Int32).toNatClampNeg)) hf_) (cwVA 0 htA wd_1476 wd_1473 wd_10 wd_1474 wd_1475 (by decide +kernel) ⟨by decide, by decide⟩) hP hD hS [1] [0] rfl rfl (by decide) 0 rfl rfl rfl rfl hl.1 rfl (Nat.le_of_ble_eq_true rfl) dL_law_1485 (by decide) (fun r_ W1 H locs hw hP hD hS => ?_)
  refine W.widen (k := 132) (n := 17491) (by decide) (by decide) ?_
  have hP : va_P D vwCl [((a 300), .inl (cy 2, 1, .inr (.inl (g_))))] H := hP.sub [0] rfl
  have hD : va_D A [((a 300), .inl (cy 2, 1, .inr (.inl (g_))))] := hD.sub [0] (by rfl) rfl
  obtain rfl := hw
  have hP : va_P D vwCl [((a 300), .inl (cy 2, 1, .inr (.inl (g_))))] H := hP
  have hD : va_D A [((a 300), .inl (cy 2, 1, .inr (.inl (g_))))] := hD
  refine lv_iload hx hb dL_law_1488 (lv_at hl 1 rfl) ?_
  refine lv_icmp_eq (tgt := 1495) hx hb dL_law_1490 (by decide) (fun _ => ?_) (fun q => absurd rfl q)
  refine lv_iload hx hb dL_law_1495 (lv_at hl 1 rfl) ?_
  refine lv_if_ne (tgt := 1512) hx hb dL_law_1497 (by decide) (fun c3 => ?_) (fun c3 => ?_)
  · refine lv_goto (tgt := 3161) hx hb dL_law_1512 (by decide) ?_
    exact W.widen (k := 600000) (n := 7300000) (Nat.le_of_ble_eq_true rfl) (Nat.le_of_ble_eq_true rfl) (kk H locs ls hS (lv_sub hl [2, 6] rfl))
  · refine lv_aload_n hx hb dL_law_1500 rfl (lv_at hl 3 rfl) ?_
    refine lv_iconst (v := 0) hx hb dL_law_1501 (by decide) ?_
    refine va_lald hx hb hK hP 0 2 rfl rfl (in_lit (by decide)) dL_law_1502 ?_
    refine lv_iload hx hb dL_law_1503 (lv_at hl 0 rfl) ?_
    refine lv_i2l hx hb dL_law_1505 rfl ?_
    refine W.lcmp hx hb dL_law_1506 ?_
    refine lv_if_eq (tgt := 1512) hx hb dL_law_1507 (by decide) (fun _ => ?_) (fun q => absurd (lgs ((hv_ c3).trans (hr_ c3).symm)) q)
    refine lv_goto (tgt := 3161) hx hb dL_law_1512 (by decide) ?_
    exact W.widen (k := 600000) (n := 7300000) (Nat.le_of_ble_eq_true rfl) (Nat.le_of_ble_eq_true rfl) (kk H locs ls hS (lv_sub hl [2, 6] rfl))
set_option maxHeartbeats 4000000 in
set_option maxRecDepth 100000 in
theorem cs_24 (l : Launch) (hlt : l.stackTraces = false) {p : Program} {e : Env} {s : State} {m : MethodId} {below : List Frame} {meth : Method} {c : Code} {D : va_G} {cy : Nat → ClassId} {A : Nat → Prop} {b : Nat} {xs : Nat → Int32} {H : Heap} {locs : List Loc} {ls : Array Slot} {Q : State → Prop} (a : Nat → Nat) (hX : Ex p s m #[Value.ref b] meth c code ret 8 RL) (hE : Ew D cy A s) (hx7 : va_X b 7 xs s s.heap) (hbl : b < s.heap.size) (hbA : ¬ A b) (hP : va_P D vwCl [((a 0), .inr (10, [.ref (a 1), .int 0, .int 0, .int (-1), .ref (a 2), .ref (a 3), .ref (a 4), .ref (a 5), .ref (a 6), .ref (a 7), .ref (a 8), .ref (a 9), .int 0])), ((a 3), .inr (6, [.ref (a 10), .int 0, .ref (a 21), .ref (a 22), .ref (a 23), .ref (a 24), .ref (a 25), .int 0])), ((a 10), .inr (0, [.int 0, .int 1, .int 1, .int 0, .int 0, .ref (a 11), .ref (a 12), .ref (a 13), .null, .null])), ((a 300), .inl (cy 2, 1, .inr (.inl (fun _ => 0)))), ((a 200), .inr (11, [.ref (a 201), .ref (a 202), .ref (a 203), .ref (a 204), .int 0, .ref (a 205), .int 0, .int 0, .int 0, .int 0, .int 0, .int 0, .int 0, .int 0, .int 0, .int (-1), .int 0, .int 0, .int 0, .ref (a 206), .ref (a 207), .int 0, .int 0, .ref (a 208), .int 0, .int 0, .int 0, .int 0, .ref (a 209), .ref (a 210), .ref (a 211), .ref (a 212), .ref (a 213), .ref (a 214), .ref (a 215), .int 0, .ref (a 216), .ref (a 217), .ref (a 218)])), ((a 201), .inl (cy 0, 2260, .inl (upd (upd (fun _ => 0) (1 : Int32).toNatClampNeg 1) (2 : Int32).toNatClampNeg 1)))] H) (hD : va_D A [((a 0), .inr (10, [.ref (a 1), .int 0, .int 0, .int (-1), .ref (a 2), .ref (a 3), .ref (a 4), .ref (a 5), .ref (a 6), .ref (a 7), .ref (a 8), .ref (a 9), .int 0])), ((a 3), .inr (6, [.ref (a 10), .int 0, .ref (a 21), .ref (a 22), .ref (a 23), .ref (a 24), .ref (a 25), .int 0])), ((a 10), .inr (0, [.int 0, .int 1, .int 1, .int 0, .int 0, .ref (a 11), .ref (a 12), .ref (a 13), .null, .null])), ((a 300), .inl (cy 2, 1, .inr (.inl (fun _ => 0)))), ((a 200), .inr (11, [.ref (a 201), .ref (a 202), .ref (a 203), .ref (a 204), .int 0, .ref (a 205), .int 0, .int 0, .int 0, .int 0, .int 0, .int 0, .int 0, .int 0, .int 0, .int (-1), .int 0, .int 0, .int 0, .ref (a 206), .ref (a 207), .int 0, .int 0, .ref (a 208), .int 0, .int 0, .int 0, .int 0, .ref (a 209), .ref (a 210), .ref (a 211), .ref (a 212), .ref (a 213), .ref (a 214), .ref (a 215), .int 0, .ref (a 216), .ref (a 217), .ref (a 218)])), ((a 201), .inl (cy 0, 2260, .inl (upd (upd (fun _ => 0) (1 : Int32).toNatClampNeg 1) (2 : Int32).toNatClampNeg 1)))]) (hS : va_S A s.heap H locs) (hl : lv_has ls 8 [(4, .int 0), (3, .ref (a 300)), (2, .ref (a 200)), (1, .ref (a 0)), (0, .ref b)]) (kk : ∀ (H : Heap) (locs : List Loc) (ls : Array Slot), va_S A s.heap H locs → lv_has ls 8 [(4, .int 0), (0, .ref b)] → W p l e room_1 s m #[Value.ref b] below meth c H locs 600000 7300000 Q (F0 m 3161 ls [])) : W p l e room_1 s m #[Value.ref b] below meth c H locs 131 17485 Q (F0 m 1515 ls []) := by
  obtain ⟨hx, hb, hr, hml, hown, htA, hlk⟩ := id hX
  have hK := hE.1
  refine lv_aload_n hx hb dL_law_1515 rfl (lv_at hl 3 rfl) ?_
  refine lv_aload_n hx hb dL_law_1516 rfl (lv_at hl 4 rfl) ?_
  refine lv_iload hx hb dL_law_1517 (lv_at hl 0 rfl) ?_
  refine lv_iconst (v := 1) hx hb dL_law_1519 (by decide) ?_
  refine lv_iadd hx hb dL_law_1520 ?_
  refine lv_topi (fun x1 ex1 => ?_)
  obtain rfl : x1 = 1 := ex1.trans (by decide)
  refine va_sld hx hb hx7 hbl hbA hS (in_lit (by decide)) dL_law_1521 ?_
  refine lv_aload_n hx hb dL_law_1522 rfl (lv_at hl 1 rfl) ?_
  refine kHi (As := [.ref (a 0), .int (xs (1 : Int32).toNatClampNeg), .ref (a 300)]) (rest := []) (wr := [((a 200), .inr (11, [.ref (a 201), .ref (a 202), .ref (a 203), .ref (a 204), .int 0, .ref (a 205), .int 0, .int 0, .int 0, .int 0, .int 0, .int 0, .int 0, .int 0, .int 0, .int (-1), .int 0, .int 0, .int 0, .ref (a 206), .ref (a 207), .int 0, .int 0, .ref (a 208), .int 0, .int 0, .int 0, .int 0, .ref (a 209), .ref (a 210), .ref (a 211), .ref (a 212), .ref (a 213), .ref (a 214), .ref (a 215), .int 0, .ref (a 216), .ref (a 217), .ref (a 218)])), ((a 201), .inl (cy 0, 2260, .inl (upd (upd (fun _ => 0) (1 : Int32).toNatClampNeg 1) (2 : Int32).toNatClampNeg 1)))]) hX hE (h_hurts l hlt D cy a (xs (1 : Int32).toNatClampNeg)) (cwHA 3 htA wd_1080 wd_1078 wd_0 wd_1079 (by decide +kernel) ⟨by decide, by decide⟩) hP hD hS [0, 1, 2, 3] [4, 5] rfl rfl (by decide) rfl hl.1 rfl (Nat.le_of_ble_eq_true rfl) dL_law_1523 (by decide) (fun r_ W1 H locs hw hP hD hS => ?_)
  refine W.widen (k := 132) (n := 17491) (by decide) (by decide) ?_
  obtain ⟨rfl, g_, rfl, hv_⟩ := hw
  have hP : va_P D vwCl [((a 200), .inr (11, [.ref (a 201), .ref (a 202), .ref (a 203), .ref (a 204), .int 0, .ref (a 205), .int 0, .int 0, .int 0, .int 0, .int 0, .int 0, .int 0, .int 0, .int 0, .int (-1), .int 0, .int 0, .int 0, .ref (a 206), .ref (a 207), .int 0, .int 0, .ref (a 208), .int 0, .int 0, .int 0, .int 0, .ref (a 209), .ref (a 210), .ref (a 211), .ref (a 212), .ref (a 213), .ref (a 214), .ref (a 215), .int 0, .ref (a 216), .ref (a 217), .ref (a 218)])), ((a 201), .inl (cy 0, 2260, .inl (upd (upd (fun _ => 0) (1 : Int32).toNatClampNeg 1) (2 : Int32).toNatClampNeg 1))), ((a 300), .inl (cy 2, 1, .inr (.inl (g_))))] H := hP
  have hD : va_D A [((a 200), .inr (11, [.ref (a 201), .ref (a 202), .ref (a 203), .ref (a 204), .int 0, .ref (a 205), .int 0, .int 0, .int 0, .int 0, .int 0, .int 0, .int 0, .int 0, .int 0, .int (-1), .int 0, .int 0, .int 0, .ref (a 206), .ref (a 207), .int 0, .int 0, .ref (a 208), .int 0, .int 0, .int 0, .int 0, .ref (a 209), .ref (a 210), .ref (a 211), .ref (a 212), .ref (a 213), .ref (a 214), .ref (a 215), .int 0, .ref (a 216), .ref (a 217), .ref (a 218)])), ((a 201), .inl (cy 0, 2260, .inl (upd (upd (fun _ => 0) (1 : Int32).toNatClampNeg 1) (2 : Int32).toNatClampNeg 1))), ((a 300), .inl (cy 2, 1, .inr (.inl (g_))))] := hD
  refine lv_istore (lv' := [(5, .int (kf_hurts (xs (1 : Int32).toNatClampNeg))), (4, .int 0), (3, .ref (a 300)), (2, .ref (a 200)), (1, .ref (a 0)), (0, .ref b)]) hx hb dL_law_1526 hl (by decide) rfl (fun ls hl => ?_)
  refine lv_aload_n hx hb dL_law_1528 rfl (lv_at hl 3 rfl) ?_
  refine lv_aload_n hx hb dL_law_1529 rfl (lv_at hl 5 rfl) ?_
  refine lv_iload hx hb dL_law_1530 (lv_at hl 1 rfl) ?_
  refine lv_iconst (v := 1) hx hb dL_law_1532 (by decide) ?_
  refine lv_iadd hx hb dL_law_1533 ?_
  refine lv_topi (fun x2 ex2 => ?_)
  obtain rfl : x2 = 1 := ex2.trans (by decide)
  refine va_sld hx hb hx7 hbl hbA hS (in_lit (by decide)) dL_law_1534 ?_
  refine kVi (As := [.int (xs (1 : Int32).toNatClampNeg)]) (rest := []) (wr := [((a 300), .inl (cy 2, 1, .inr (.inl (g_))))]) hX hE (r_hurts l D cy a (xs (1 : Int32).toNatClampNeg)) (cwVA 1 htA wd_1914 wd_1911 wd_10 wd_1912 wd_1913 (by decide +kernel) ⟨by decide, by decide⟩) hP hD hS [0, 1] [2] rfl rfl (by decide) 0 rfl rfl rfl rfl hl.1 rfl (Nat.le_of_ble_eq_true rfl) dL_law_1535 (by decide) (fun r_ W1 H locs hw hP hD hS => ?_)
  refine W.widen (k := 132) (n := 17491) (by decide) (by decide) ?_
  obtain ⟨fs_, rfl, hf_, hr_⟩ := hw
  have hP : va_P D vwCl [((a 300), .inl (cy 2, 1, .inr (.inl (g_)))), ((a 200), .inr (11, fs_))] H := hP
  have hD : va_D A [((a 300), .inl (cy 2, 1, .inr (.inl (g_)))), ((a 200), .inr (11, fs_))] := hD
  refine lv_istore (lv' := [(6, .int r_), (5, .int (kf_hurts (xs (1 : Int32).toNatClampNeg))), (4, .int 0), (3, .ref (a 300)), (2, .ref (a 200)), (1, .ref (a 0)), (0, .ref b)]) hx hb dL_law_1538 hl (by decide) rfl (fun ls hl => ?_)
  refine lv_aload_n hx hb dL_law_1540 rfl (lv_at hl 4 rfl) ?_
  refine kVi (As := []) (rest := []) (wr := [((a 300), .inl (cy 2, 1, .inr (.inl (g_))))]) hX hE (r_thrown l D cy a fs_ (kf_hurts (xs (1 : Int32).toNatClampNeg)) hf_) (cwVA 0 htA wd_1476 wd_1473 wd_10 wd_1474 wd_1475 (by decide +kernel) ⟨by decide, by decide⟩) hP hD hS [1] [0] rfl rfl (by decide) 0 rfl rfl rfl rfl hl.1 rfl (Nat.le_of_ble_eq_true rfl) dL_law_1541 (by decide) (fun r_ W1 H locs hw hP hD hS => ?_)
  refine W.widen (k := 132) (n := 17491) (by decide) (by decide) ?_
  have hP : va_P D vwCl [((a 300), .inl (cy 2, 1, .inr (.inl (g_))))] H := hP.sub [0] rfl
  have hD : va_D A [((a 300), .inl (cy 2, 1, .inr (.inl (g_))))] := hD.sub [0] (by rfl) rfl
  obtain rfl := hw
  have hP : va_P D vwCl [((a 300), .inl (cy 2, 1, .inr (.inl (g_))))] H := hP
  have hD : va_D A [((a 300), .inl (cy 2, 1, .inr (.inl (g_))))] := hD
  refine lv_iload hx hb dL_law_1544 (lv_at hl 1 rfl) ?_
  refine lv_icmp_eq (tgt := 1551) hx hb dL_law_1546 (by decide) (fun _ => ?_) (fun q => absurd rfl q)
  refine lv_iload hx hb dL_law_1551 (lv_at hl 1 rfl) ?_
  refine lv_if_ne (tgt := 1568) hx hb dL_law_1553 (by decide) (fun c3 => ?_) (fun c3 => ?_)
  · refine lv_goto (tgt := 3161) hx hb dL_law_1568 (by decide) ?_
    exact W.widen (k := 600000) (n := 7300000) (Nat.le_of_ble_eq_true rfl) (Nat.le_of_ble_eq_true rfl) (kk H locs ls hS (lv_sub hl [2, 6] rfl))
  · refine lv_aload_n hx hb dL_law_1556 rfl (lv_at hl 3 rfl) ?_
    refine lv_iconst (v := 0) hx hb dL_law_1557 (by decide) ?_
    refine va_lald hx hb hK hP 0 2 rfl rfl (in_lit (by decide)) dL_law_1558 ?_
    refine lv_iload hx hb dL_law_1559 (lv_at hl 0 rfl) ?_
    refine lv_i2l hx hb dL_law_1561 rfl ?_
    refine W.lcmp hx hb dL_law_1562 ?_
    refine lv_if_eq (tgt := 1568) hx hb dL_law_1563 (by decide) (fun _ => ?_) (fun q => absurd (lgs ((hv_ c3).trans (hr_ c3).symm)) q)
    refine lv_goto (tgt := 3161) hx hb dL_law_1568 (by decide) ?_
    exact W.widen (k := 600000) (n := 7300000) (Nat.le_of_ble_eq_true rfl) (Nat.le_of_ble_eq_true rfl) (kk H locs ls hS (lv_sub hl [2, 6] rfl))
set_option maxHeartbeats 4000000 in
set_option maxRecDepth 100000 in
theorem cs_25 (l : Launch) (hlt : l.stackTraces = false) {p : Program} {e : Env} {s : State} {m : MethodId} {below : List Frame} {meth : Method} {c : Code} {D : va_G} {cy : Nat → ClassId} {A : Nat → Prop} {b : Nat} {xs : Nat → Int32} {H : Heap} {locs : List Loc} {ls : Array Slot} {Q : State → Prop} (a : Nat → Nat) (hX : Ex p s m #[Value.ref b] meth c code ret 8 RL) (hE : Ew D cy A s) (hx7 : va_X b 7 xs s s.heap) (hbl : b < s.heap.size) (hbA : ¬ A b) (hP : va_P D vwCl [((a 0), .inr (10, [.ref (a 1), .int 0, .int 0, .int (-1), .ref (a 2), .ref (a 3), .ref (a 4), .ref (a 5), .ref (a 6), .ref (a 7), .ref (a 8), .ref (a 9), .int 0])), ((a 3), .inr (6, [.ref (a 10), .int 0, .ref (a 21), .ref (a 22), .ref (a 23), .ref (a 24), .ref (a 25), .int 0])), ((a 10), .inr (0, [.int 0, .int 1, .int 1, .int 0, .int 0, .ref (a 11), .ref (a 12), .ref (a 13), .null, .null])), ((a 300), .inl (cy 2, 1, .inr (.inl (fun _ => 0)))), ((a 200), .inr (11, [.ref (a 201), .ref (a 202), .ref (a 203), .ref (a 204), .int 0, .ref (a 205), .int 0, .int 0, .int 0, .int 0, .int 0, .int 0, .int 0, .int 0, .int 0, .int (-1), .int 0, .int 0, .int 0, .ref (a 206), .ref (a 207), .int 0, .int 0, .ref (a 208), .int 0, .int 0, .int 0, .int 0, .ref (a 209), .ref (a 210), .ref (a 211), .ref (a 212), .ref (a 213), .ref (a 214), .ref (a 215), .int 0, .ref (a 216), .ref (a 217), .ref (a 218)])), ((a 201), .inl (cy 0, 2260, .inl (upd (upd (fun _ => 0) (1 : Int32).toNatClampNeg 1) (2 : Int32).toNatClampNeg 1)))] H) (hD : va_D A [((a 0), .inr (10, [.ref (a 1), .int 0, .int 0, .int (-1), .ref (a 2), .ref (a 3), .ref (a 4), .ref (a 5), .ref (a 6), .ref (a 7), .ref (a 8), .ref (a 9), .int 0])), ((a 3), .inr (6, [.ref (a 10), .int 0, .ref (a 21), .ref (a 22), .ref (a 23), .ref (a 24), .ref (a 25), .int 0])), ((a 10), .inr (0, [.int 0, .int 1, .int 1, .int 0, .int 0, .ref (a 11), .ref (a 12), .ref (a 13), .null, .null])), ((a 300), .inl (cy 2, 1, .inr (.inl (fun _ => 0)))), ((a 200), .inr (11, [.ref (a 201), .ref (a 202), .ref (a 203), .ref (a 204), .int 0, .ref (a 205), .int 0, .int 0, .int 0, .int 0, .int 0, .int 0, .int 0, .int 0, .int 0, .int (-1), .int 0, .int 0, .int 0, .ref (a 206), .ref (a 207), .int 0, .int 0, .ref (a 208), .int 0, .int 0, .int 0, .int 0, .ref (a 209), .ref (a 210), .ref (a 211), .ref (a 212), .ref (a 213), .ref (a 214), .ref (a 215), .int 0, .ref (a 216), .ref (a 217), .ref (a 218)])), ((a 201), .inl (cy 0, 2260, .inl (upd (upd (fun _ => 0) (1 : Int32).toNatClampNeg 1) (2 : Int32).toNatClampNeg 1)))]) (hS : va_S A s.heap H locs) (hl : lv_has ls 8 [(4, .int 0), (3, .ref (a 300)), (2, .ref (a 200)), (1, .ref (a 0)), (0, .ref b)]) (kk : ∀ (H : Heap) (locs : List Loc) (ls : Array Slot), va_S A s.heap H locs → lv_has ls 8 [(4, .int 0), (0, .ref b)] → W p l e room_1 s m #[Value.ref b] below meth c H locs 600000 7300000 Q (F0 m 3161 ls [])) : W p l e room_1 s m #[Value.ref b] below meth c H locs 131 17485 Q (F0 m 1571 ls []) := by
  obtain ⟨hx, hb, hr, hml, hown, htA, hlk⟩ := id hX
  have hK := hE.1
  refine lv_aload_n hx hb dL_law_1571 rfl (lv_at hl 3 rfl) ?_
  refine lv_aload_n hx hb dL_law_1572 rfl (lv_at hl 4 rfl) ?_
  refine lv_iload hx hb dL_law_1573 (lv_at hl 0 rfl) ?_
  refine lv_iconst (v := 1) hx hb dL_law_1575 (by decide) ?_
  refine lv_iadd hx hb dL_law_1576 ?_
  refine lv_topi (fun x1 ex1 => ?_)
  obtain rfl : x1 = 1 := ex1.trans (by decide)
  refine va_sld hx hb hx7 hbl hbA hS (in_lit (by decide)) dL_law_1577 ?_
  refine lv_aload_n hx hb dL_law_1578 rfl (lv_at hl 4 rfl) ?_
  refine lv_iload hx hb dL_law_1579 (lv_at hl 0 rfl) ?_
  refine lv_iconst (v := 2) hx hb dL_law_1581 (by decide) ?_
  refine lv_iadd hx hb dL_law_1582 ?_
  refine lv_topi (fun x2 ex2 => ?_)
  obtain rfl : x2 = 2 := ex2.trans (by decide)
  refine va_sld hx hb hx7 hbl hbA hS (in_lit (by decide)) dL_law_1583 ?_
  refine lv_aload_n hx hb dL_law_1584 rfl (lv_at hl 1 rfl) ?_
  refine kHi (As := [.ref (a 0), .int (xs (1 : Int32).toNatClampNeg), .int (xs (2 : Int32).toNatClampNeg), .ref (a 300)]) (rest := []) (wr := [((a 200), .inr (11, [.ref (a 201), .ref (a 202), .ref (a 203), .ref (a 204), .int 0, .ref (a 205), .int 0, .int 0, .int 0, .int 0, .int 0, .int 0, .int 0, .int 0, .int 0, .int (-1), .int 0, .int 0, .int 0, .ref (a 206), .ref (a 207), .int 0, .int 0, .ref (a 208), .int 0, .int 0, .int 0, .int 0, .ref (a 209), .ref (a 210), .ref (a 211), .ref (a 212), .ref (a 213), .ref (a 214), .ref (a 215), .int 0, .ref (a 216), .ref (a 217), .ref (a 218)])), ((a 201), .inl (cy 0, 2260, .inl (upd (upd (fun _ => 0) (1 : Int32).toNatClampNeg 1) (2 : Int32).toNatClampNeg 1)))]) hX hE (h_spares l hlt D cy a (xs (1 : Int32).toNatClampNeg) (xs (2 : Int32).toNatClampNeg)) (cwHA 4 htA wd_1093 wd_1091 wd_0 wd_1092 (by decide +kernel) ⟨by decide, by decide⟩) hP hD hS [0, 1, 2, 3] [4, 5] rfl rfl (by decide) rfl hl.1 rfl (Nat.le_of_ble_eq_true rfl) dL_law_1585 (by decide) (fun r_ W1 H locs hw hP hD hS => ?_)
  refine W.widen (k := 132) (n := 17491) (by decide) (by decide) ?_
  obtain ⟨rfl, g_, rfl, hv_⟩ := hw
  have hP : va_P D vwCl [((a 200), .inr (11, [.ref (a 201), .ref (a 202), .ref (a 203), .ref (a 204), .int 0, .ref (a 205), .int 0, .int 0, .int 0, .int 0, .int 0, .int 0, .int 0, .int 0, .int 0, .int (-1), .int 0, .int 0, .int 0, .ref (a 206), .ref (a 207), .int 0, .int 0, .ref (a 208), .int 0, .int 0, .int 0, .int 0, .ref (a 209), .ref (a 210), .ref (a 211), .ref (a 212), .ref (a 213), .ref (a 214), .ref (a 215), .int 0, .ref (a 216), .ref (a 217), .ref (a 218)])), ((a 201), .inl (cy 0, 2260, .inl (upd (upd (fun _ => 0) (1 : Int32).toNatClampNeg 1) (2 : Int32).toNatClampNeg 1))), ((a 300), .inl (cy 2, 1, .inr (.inl (g_))))] H := hP
  have hD : va_D A [((a 200), .inr (11, [.ref (a 201), .ref (a 202), .ref (a 203), .ref (a 204), .int 0, .ref (a 205), .int 0, .int 0, .int 0, .int 0, .int 0, .int 0, .int 0, .int 0, .int 0, .int (-1), .int 0, .int 0, .int 0, .ref (a 206), .ref (a 207), .int 0, .int 0, .ref (a 208), .int 0, .int 0, .int 0, .int 0, .ref (a 209), .ref (a 210), .ref (a 211), .ref (a 212), .ref (a 213), .ref (a 214), .ref (a 215), .int 0, .ref (a 216), .ref (a 217), .ref (a 218)])), ((a 201), .inl (cy 0, 2260, .inl (upd (upd (fun _ => 0) (1 : Int32).toNatClampNeg 1) (2 : Int32).toNatClampNeg 1))), ((a 300), .inl (cy 2, 1, .inr (.inl (g_))))] := hD
  refine lv_istore (lv' := [(5, .int (kf_spares (xs (1 : Int32).toNatClampNeg) (xs (2 : Int32).toNatClampNeg))), (4, .int 0), (3, .ref (a 300)), (2, .ref (a 200)), (1, .ref (a 0)), (0, .ref b)]) hx hb dL_law_1588 hl (by decide) rfl (fun ls hl => ?_)
  refine lv_aload_n hx hb dL_law_1590 rfl (lv_at hl 3 rfl) ?_
  refine lv_aload_n hx hb dL_law_1591 rfl (lv_at hl 5 rfl) ?_
  refine lv_iload hx hb dL_law_1592 (lv_at hl 1 rfl) ?_
  refine lv_iconst (v := 1) hx hb dL_law_1594 (by decide) ?_
  refine lv_iadd hx hb dL_law_1595 ?_
  refine lv_topi (fun x3 ex3 => ?_)
  obtain rfl : x3 = 1 := ex3.trans (by decide)
  refine va_sld hx hb hx7 hbl hbA hS (in_lit (by decide)) dL_law_1596 ?_
  refine lv_aload_n hx hb dL_law_1597 rfl (lv_at hl 5 rfl) ?_
  refine lv_iload hx hb dL_law_1598 (lv_at hl 1 rfl) ?_
  refine lv_iconst (v := 2) hx hb dL_law_1600 (by decide) ?_
  refine lv_iadd hx hb dL_law_1601 ?_
  refine lv_topi (fun x4 ex4 => ?_)
  obtain rfl : x4 = 2 := ex4.trans (by decide)
  refine va_sld hx hb hx7 hbl hbA hS (in_lit (by decide)) dL_law_1602 ?_
  refine kVi (As := [.int (xs (1 : Int32).toNatClampNeg), .int (xs (2 : Int32).toNatClampNeg)]) (rest := []) (wr := [((a 300), .inl (cy 2, 1, .inr (.inl (g_))))]) hX hE (r_spares l D cy a (xs (1 : Int32).toNatClampNeg) (xs (2 : Int32).toNatClampNeg)) (cwVA 2 htA wd_1922 wd_1919 wd_10 wd_1920 wd_1921 (by decide +kernel) ⟨by decide, by decide⟩) hP hD hS [0, 1] [2] rfl rfl (by decide) 0 rfl rfl rfl rfl hl.1 rfl (Nat.le_of_ble_eq_true rfl) dL_law_1603 (by decide) (fun r_ W1 H locs hw hP hD hS => ?_)
  refine W.widen (k := 132) (n := 17491) (by decide) (by decide) ?_
  obtain ⟨fs_, rfl, hf_, hr_⟩ := hw
  have hP : va_P D vwCl [((a 300), .inl (cy 2, 1, .inr (.inl (g_)))), ((a 200), .inr (11, fs_))] H := hP
  have hD : va_D A [((a 300), .inl (cy 2, 1, .inr (.inl (g_)))), ((a 200), .inr (11, fs_))] := hD
  refine lv_istore (lv' := [(6, .int r_), (5, .int (kf_spares (xs (1 : Int32).toNatClampNeg) (xs (2 : Int32).toNatClampNeg))), (4, .int 0), (3, .ref (a 300)), (2, .ref (a 200)), (1, .ref (a 0)), (0, .ref b)]) hx hb dL_law_1606 hl (by decide) rfl (fun ls hl => ?_)
  refine lv_aload_n hx hb dL_law_1608 rfl (lv_at hl 4 rfl) ?_
  refine kVi (As := []) (rest := []) (wr := [((a 300), .inl (cy 2, 1, .inr (.inl (g_))))]) hX hE (r_thrown l D cy a fs_ (kf_spares (xs (1 : Int32).toNatClampNeg) (xs (2 : Int32).toNatClampNeg)) hf_) (cwVA 0 htA wd_1476 wd_1473 wd_10 wd_1474 wd_1475 (by decide +kernel) ⟨by decide, by decide⟩) hP hD hS [1] [0] rfl rfl (by decide) 0 rfl rfl rfl rfl hl.1 rfl (Nat.le_of_ble_eq_true rfl) dL_law_1609 (by decide) (fun r_ W1 H locs hw hP hD hS => ?_)
  refine W.widen (k := 132) (n := 17491) (by decide) (by decide) ?_
  have hP : va_P D vwCl [((a 300), .inl (cy 2, 1, .inr (.inl (g_))))] H := hP.sub [0] rfl
  have hD : va_D A [((a 300), .inl (cy 2, 1, .inr (.inl (g_))))] := hD.sub [0] (by rfl) rfl
  obtain rfl := hw
  have hP : va_P D vwCl [((a 300), .inl (cy 2, 1, .inr (.inl (g_))))] H := hP
  have hD : va_D A [((a 300), .inl (cy 2, 1, .inr (.inl (g_))))] := hD
  refine lv_iload hx hb dL_law_1612 (lv_at hl 1 rfl) ?_
  refine lv_icmp_eq (tgt := 1619) hx hb dL_law_1614 (by decide) (fun _ => ?_) (fun q => absurd rfl q)
  refine lv_iload hx hb dL_law_1619 (lv_at hl 1 rfl) ?_
  refine lv_if_ne (tgt := 1636) hx hb dL_law_1621 (by decide) (fun c5 => ?_) (fun c5 => ?_)
  · refine lv_goto (tgt := 3161) hx hb dL_law_1636 (by decide) ?_
    exact W.widen (k := 600000) (n := 7300000) (Nat.le_of_ble_eq_true rfl) (Nat.le_of_ble_eq_true rfl) (kk H locs ls hS (lv_sub hl [2, 6] rfl))
  · refine lv_aload_n hx hb dL_law_1624 rfl (lv_at hl 3 rfl) ?_
    refine lv_iconst (v := 0) hx hb dL_law_1625 (by decide) ?_
    refine va_lald hx hb hK hP 0 2 rfl rfl (in_lit (by decide)) dL_law_1626 ?_
    refine lv_iload hx hb dL_law_1627 (lv_at hl 0 rfl) ?_
    refine lv_i2l hx hb dL_law_1629 rfl ?_
    refine W.lcmp hx hb dL_law_1630 ?_
    refine lv_if_eq (tgt := 1636) hx hb dL_law_1631 (by decide) (fun _ => ?_) (fun q => absurd (lgs ((hv_ c5).trans (hr_ c5).symm)) q)
    refine lv_goto (tgt := 3161) hx hb dL_law_1636 (by decide) ?_
    exact W.widen (k := 600000) (n := 7300000) (Nat.le_of_ble_eq_true rfl) (Nat.le_of_ble_eq_true rfl) (kk H locs ls hS (lv_sub hl [2, 6] rfl))
set_option maxHeartbeats 4000000 in
set_option maxRecDepth 100000 in
theorem cs_26 (l : Launch) (hlt : l.stackTraces = false) {p : Program} {e : Env} {s : State} {m : MethodId} {below : List Frame} {meth : Method} {c : Code} {D : va_G} {cy : Nat → ClassId} {A : Nat → Prop} {b : Nat} {xs : Nat → Int32} {H : Heap} {locs : List Loc} {ls : Array Slot} {Q : State → Prop} (a : Nat → Nat) (hX : Ex p s m #[Value.ref b] meth c code ret 8 RL) (hE : Ew D cy A s) (hx7 : va_X b 7 xs s s.heap) (hbl : b < s.heap.size) (hbA : ¬ A b) (hP : va_P D vwCl [((a 0), .inr (10, [.ref (a 1), .int 0, .int 0, .int (-1), .ref (a 2), .ref (a 3), .ref (a 4), .ref (a 5), .ref (a 6), .ref (a 7), .ref (a 8), .ref (a 9), .int 0])), ((a 3), .inr (6, [.ref (a 10), .int 0, .ref (a 21), .ref (a 22), .ref (a 23), .ref (a 24), .ref (a 25), .int 0])), ((a 10), .inr (0, [.int 0, .int 1, .int 1, .int 0, .int 0, .ref (a 11), .ref (a 12), .ref (a 13), .null, .null])), ((a 300), .inl (cy 2, 1, .inr (.inl (fun _ => 0)))), ((a 200), .inr (11, [.ref (a 201), .ref (a 202), .ref (a 203), .ref (a 204), .int 0, .ref (a 205), .int 0, .int 0, .int 0, .int 0, .int 0, .int 0, .int 0, .int 0, .int 0, .int (-1), .int 0, .int 0, .int 0, .ref (a 206), .ref (a 207), .int 0, .int 0, .ref (a 208), .int 0, .int 0, .int 0, .int 0, .ref (a 209), .ref (a 210), .ref (a 211), .ref (a 212), .ref (a 213), .ref (a 214), .ref (a 215), .int 0, .ref (a 216), .ref (a 217), .ref (a 218)])), ((a 201), .inl (cy 0, 2260, .inl (upd (upd (fun _ => 0) (1 : Int32).toNatClampNeg 1) (2 : Int32).toNatClampNeg 1)))] H) (hD : va_D A [((a 0), .inr (10, [.ref (a 1), .int 0, .int 0, .int (-1), .ref (a 2), .ref (a 3), .ref (a 4), .ref (a 5), .ref (a 6), .ref (a 7), .ref (a 8), .ref (a 9), .int 0])), ((a 3), .inr (6, [.ref (a 10), .int 0, .ref (a 21), .ref (a 22), .ref (a 23), .ref (a 24), .ref (a 25), .int 0])), ((a 10), .inr (0, [.int 0, .int 1, .int 1, .int 0, .int 0, .ref (a 11), .ref (a 12), .ref (a 13), .null, .null])), ((a 300), .inl (cy 2, 1, .inr (.inl (fun _ => 0)))), ((a 200), .inr (11, [.ref (a 201), .ref (a 202), .ref (a 203), .ref (a 204), .int 0, .ref (a 205), .int 0, .int 0, .int 0, .int 0, .int 0, .int 0, .int 0, .int 0, .int 0, .int (-1), .int 0, .int 0, .int 0, .ref (a 206), .ref (a 207), .int 0, .int 0, .ref (a 208), .int 0, .int 0, .int 0, .int 0, .ref (a 209), .ref (a 210), .ref (a 211), .ref (a 212), .ref (a 213), .ref (a 214), .ref (a 215), .int 0, .ref (a 216), .ref (a 217), .ref (a 218)])), ((a 201), .inl (cy 0, 2260, .inl (upd (upd (fun _ => 0) (1 : Int32).toNatClampNeg 1) (2 : Int32).toNatClampNeg 1)))]) (hS : va_S A s.heap H locs) (hl : lv_has ls 8 [(4, .int 0), (3, .ref (a 300)), (2, .ref (a 200)), (1, .ref (a 0)), (0, .ref b)]) (kk : ∀ (H : Heap) (locs : List Loc) (ls : Array Slot), va_S A s.heap H locs → lv_has ls 8 [(4, .int 0), (0, .ref b)] → W p l e room_1 s m #[Value.ref b] below meth c H locs 600000 7300000 Q (F0 m 3161 ls [])) : W p l e room_1 s m #[Value.ref b] below meth c H locs 131 17485 Q (F0 m 1639 ls []) := by
  obtain ⟨hx, hb, hr, hml, hown, htA, hlk⟩ := id hX
  have hK := hE.1
  refine lv_aload_n hx hb dL_law_1639 rfl (lv_at hl 3 rfl) ?_
  refine lv_aload_n hx hb dL_law_1640 rfl (lv_at hl 4 rfl) ?_
  refine lv_iload hx hb dL_law_1641 (lv_at hl 0 rfl) ?_
  refine lv_iconst (v := 1) hx hb dL_law_1643 (by decide) ?_
  refine lv_iadd hx hb dL_law_1644 ?_
  refine lv_topi (fun x1 ex1 => ?_)
  obtain rfl : x1 = 1 := ex1.trans (by decide)
  refine va_sld hx hb hx7 hbl hbA hS (in_lit (by decide)) dL_law_1645 ?_
  refine lv_aload_n hx hb dL_law_1646 rfl (lv_at hl 4 rfl) ?_
  refine lv_iload hx hb dL_law_1647 (lv_at hl 0 rfl) ?_
  refine lv_iconst (v := 2) hx hb dL_law_1649 (by decide) ?_
  refine lv_iadd hx hb dL_law_1650 ?_
  refine lv_topi (fun x2 ex2 => ?_)
  obtain rfl : x2 = 2 := ex2.trans (by decide)
  refine va_sld hx hb hx7 hbl hbA hS (in_lit (by decide)) dL_law_1651 ?_
  refine lv_aload_n hx hb dL_law_1652 rfl (lv_at hl 4 rfl) ?_
  refine lv_iload hx hb dL_law_1653 (lv_at hl 0 rfl) ?_
  refine lv_iconst (v := 3) hx hb dL_law_1655 (by decide) ?_
  refine lv_iadd hx hb dL_law_1656 ?_
  refine lv_topi (fun x3 ex3 => ?_)
  obtain rfl : x3 = 3 := ex3.trans (by decide)
  refine va_sld hx hb hx7 hbl hbA hS (in_lit (by decide)) dL_law_1657 ?_
  refine lv_aload_n hx hb dL_law_1658 rfl (lv_at hl 4 rfl) ?_
  refine lv_iload hx hb dL_law_1659 (lv_at hl 0 rfl) ?_
  refine lv_iconst (v := 4) hx hb dL_law_1661 (by decide) ?_
  refine lv_iadd hx hb dL_law_1662 ?_
  refine lv_topi (fun x4 ex4 => ?_)
  obtain rfl : x4 = 4 := ex4.trans (by decide)
  refine va_sld hx hb hx7 hbl hbA hS (in_lit (by decide)) dL_law_1663 ?_
  refine lv_aload_n hx hb dL_law_1664 rfl (lv_at hl 1 rfl) ?_
  refine kHi (As := [.ref (a 0), .int (xs (1 : Int32).toNatClampNeg), .int (xs (2 : Int32).toNatClampNeg), .int (xs (3 : Int32).toNatClampNeg), .int (xs (4 : Int32).toNatClampNeg), .ref (a 300)]) (rest := []) (wr := [((a 200), .inr (11, [.ref (a 201), .ref (a 202), .ref (a 203), .ref (a 204), .int 0, .ref (a 205), .int 0, .int 0, .int 0, .int 0, .int 0, .int 0, .int 0, .int 0, .int 0, .int (-1), .int 0, .int 0, .int 0, .ref (a 206), .ref (a 207), .int 0, .int 0, .ref (a 208), .int 0, .int 0, .int 0, .int 0, .ref (a 209), .ref (a 210), .ref (a 211), .ref (a 212), .ref (a 213), .ref (a 214), .ref (a 215), .int 0, .ref (a 216), .ref (a 217), .ref (a 218)])), ((a 201), .inl (cy 0, 2260, .inl (upd (upd (fun _ => 0) (1 : Int32).toNatClampNeg 1) (2 : Int32).toNatClampNeg 1)))]) hX hE (h_fallsBy l hlt D cy a (xs (1 : Int32).toNatClampNeg) (xs (2 : Int32).toNatClampNeg) (xs (3 : Int32).toNatClampNeg) (xs (4 : Int32).toNatClampNeg)) (cwHA 6 htA wd_1100 wd_1098 wd_0 wd_1099 (by decide +kernel) ⟨by decide, by decide⟩) hP hD hS [0, 1, 2, 3] [4, 5] rfl rfl (by decide) rfl hl.1 rfl (Nat.le_of_ble_eq_true rfl) dL_law_1665 (by decide) (fun r_ W1 H locs hw hP hD hS => ?_)
  refine W.widen (k := 132) (n := 17491) (by decide) (by decide) ?_
  obtain ⟨rfl, g_, rfl, hv_⟩ := hw
  have hP : va_P D vwCl [((a 200), .inr (11, [.ref (a 201), .ref (a 202), .ref (a 203), .ref (a 204), .int 0, .ref (a 205), .int 0, .int 0, .int 0, .int 0, .int 0, .int 0, .int 0, .int 0, .int 0, .int (-1), .int 0, .int 0, .int 0, .ref (a 206), .ref (a 207), .int 0, .int 0, .ref (a 208), .int 0, .int 0, .int 0, .int 0, .ref (a 209), .ref (a 210), .ref (a 211), .ref (a 212), .ref (a 213), .ref (a 214), .ref (a 215), .int 0, .ref (a 216), .ref (a 217), .ref (a 218)])), ((a 201), .inl (cy 0, 2260, .inl (upd (upd (fun _ => 0) (1 : Int32).toNatClampNeg 1) (2 : Int32).toNatClampNeg 1))), ((a 300), .inl (cy 2, 1, .inr (.inl (g_))))] H := hP
  have hD : va_D A [((a 200), .inr (11, [.ref (a 201), .ref (a 202), .ref (a 203), .ref (a 204), .int 0, .ref (a 205), .int 0, .int 0, .int 0, .int 0, .int 0, .int 0, .int 0, .int 0, .int 0, .int (-1), .int 0, .int 0, .int 0, .ref (a 206), .ref (a 207), .int 0, .int 0, .ref (a 208), .int 0, .int 0, .int 0, .int 0, .ref (a 209), .ref (a 210), .ref (a 211), .ref (a 212), .ref (a 213), .ref (a 214), .ref (a 215), .int 0, .ref (a 216), .ref (a 217), .ref (a 218)])), ((a 201), .inl (cy 0, 2260, .inl (upd (upd (fun _ => 0) (1 : Int32).toNatClampNeg 1) (2 : Int32).toNatClampNeg 1))), ((a 300), .inl (cy 2, 1, .inr (.inl (g_))))] := hD
  refine lv_istore (lv' := [(5, .int (kf_fallsBy (xs (1 : Int32).toNatClampNeg) (xs (2 : Int32).toNatClampNeg) (xs (3 : Int32).toNatClampNeg) (xs (4 : Int32).toNatClampNeg))), (4, .int 0), (3, .ref (a 300)), (2, .ref (a 200)), (1, .ref (a 0)), (0, .ref b)]) hx hb dL_law_1668 hl (by decide) rfl (fun ls hl => ?_)
  refine lv_aload_n hx hb dL_law_1670 rfl (lv_at hl 3 rfl) ?_
  refine lv_aload_n hx hb dL_law_1671 rfl (lv_at hl 5 rfl) ?_
  refine lv_iload hx hb dL_law_1672 (lv_at hl 1 rfl) ?_
  refine lv_iconst (v := 1) hx hb dL_law_1674 (by decide) ?_
  refine lv_iadd hx hb dL_law_1675 ?_
  refine lv_topi (fun x5 ex5 => ?_)
  obtain rfl : x5 = 1 := ex5.trans (by decide)
  refine va_sld hx hb hx7 hbl hbA hS (in_lit (by decide)) dL_law_1676 ?_
  refine lv_aload_n hx hb dL_law_1677 rfl (lv_at hl 5 rfl) ?_
  refine lv_iload hx hb dL_law_1678 (lv_at hl 1 rfl) ?_
  refine lv_iconst (v := 2) hx hb dL_law_1680 (by decide) ?_
  refine lv_iadd hx hb dL_law_1681 ?_
  refine lv_topi (fun x6 ex6 => ?_)
  obtain rfl : x6 = 2 := ex6.trans (by decide)
  refine va_sld hx hb hx7 hbl hbA hS (in_lit (by decide)) dL_law_1682 ?_
  refine lv_aload_n hx hb dL_law_1683 rfl (lv_at hl 5 rfl) ?_
  refine lv_iload hx hb dL_law_1684 (lv_at hl 1 rfl) ?_
  refine lv_iconst (v := 3) hx hb dL_law_1686 (by decide) ?_
  refine lv_iadd hx hb dL_law_1687 ?_
  refine lv_topi (fun x7 ex7 => ?_)
  obtain rfl : x7 = 3 := ex7.trans (by decide)
  refine va_sld hx hb hx7 hbl hbA hS (in_lit (by decide)) dL_law_1688 ?_
  refine lv_aload_n hx hb dL_law_1689 rfl (lv_at hl 5 rfl) ?_
  refine lv_iload hx hb dL_law_1690 (lv_at hl 1 rfl) ?_
  refine lv_iconst (v := 4) hx hb dL_law_1692 (by decide) ?_
  refine lv_iadd hx hb dL_law_1693 ?_
  refine lv_topi (fun x8 ex8 => ?_)
  obtain rfl : x8 = 4 := ex8.trans (by decide)
  refine va_sld hx hb hx7 hbl hbA hS (in_lit (by decide)) dL_law_1694 ?_
  refine kVi (As := [.int (xs (1 : Int32).toNatClampNeg), .int (xs (2 : Int32).toNatClampNeg), .int (xs (3 : Int32).toNatClampNeg), .int (xs (4 : Int32).toNatClampNeg)]) (rest := []) (wr := [((a 300), .inl (cy 2, 1, .inr (.inl (g_))))]) hX hE (r_fallsBy l D cy a (xs (1 : Int32).toNatClampNeg) (xs (2 : Int32).toNatClampNeg) (xs (3 : Int32).toNatClampNeg) (xs (4 : Int32).toNatClampNeg)) (cwVA 4 htA wd_1926 wd_1923 wd_10 wd_1924 wd_1925 (by decide +kernel) ⟨by decide, by decide⟩) hP hD hS [0, 1] [2] rfl rfl (by decide) 0 rfl rfl rfl rfl hl.1 rfl (Nat.le_of_ble_eq_true rfl) dL_law_1695 (by decide) (fun r_ W1 H locs hw hP hD hS => ?_)
  refine W.widen (k := 132) (n := 17491) (by decide) (by decide) ?_
  obtain ⟨fs_, rfl, hf_, hr_⟩ := hw
  have hP : va_P D vwCl [((a 300), .inl (cy 2, 1, .inr (.inl (g_)))), ((a 200), .inr (11, fs_))] H := hP
  have hD : va_D A [((a 300), .inl (cy 2, 1, .inr (.inl (g_)))), ((a 200), .inr (11, fs_))] := hD
  refine lv_istore (lv' := [(6, .int r_), (5, .int (kf_fallsBy (xs (1 : Int32).toNatClampNeg) (xs (2 : Int32).toNatClampNeg) (xs (3 : Int32).toNatClampNeg) (xs (4 : Int32).toNatClampNeg))), (4, .int 0), (3, .ref (a 300)), (2, .ref (a 200)), (1, .ref (a 0)), (0, .ref b)]) hx hb dL_law_1698 hl (by decide) rfl (fun ls hl => ?_)
  refine lv_aload_n hx hb dL_law_1700 rfl (lv_at hl 4 rfl) ?_
  refine kVi (As := []) (rest := []) (wr := [((a 300), .inl (cy 2, 1, .inr (.inl (g_))))]) hX hE (r_thrown l D cy a fs_ (kf_fallsBy (xs (1 : Int32).toNatClampNeg) (xs (2 : Int32).toNatClampNeg) (xs (3 : Int32).toNatClampNeg) (xs (4 : Int32).toNatClampNeg)) hf_) (cwVA 0 htA wd_1476 wd_1473 wd_10 wd_1474 wd_1475 (by decide +kernel) ⟨by decide, by decide⟩) hP hD hS [1] [0] rfl rfl (by decide) 0 rfl rfl rfl rfl hl.1 rfl (Nat.le_of_ble_eq_true rfl) dL_law_1701 (by decide) (fun r_ W1 H locs hw hP hD hS => ?_)
  refine W.widen (k := 132) (n := 17491) (by decide) (by decide) ?_
  have hP : va_P D vwCl [((a 300), .inl (cy 2, 1, .inr (.inl (g_))))] H := hP.sub [0] rfl
  have hD : va_D A [((a 300), .inl (cy 2, 1, .inr (.inl (g_))))] := hD.sub [0] (by rfl) rfl
  obtain rfl := hw
  have hP : va_P D vwCl [((a 300), .inl (cy 2, 1, .inr (.inl (g_))))] H := hP
  have hD : va_D A [((a 300), .inl (cy 2, 1, .inr (.inl (g_))))] := hD
  refine lv_iload hx hb dL_law_1704 (lv_at hl 1 rfl) ?_
  refine lv_icmp_eq (tgt := 1711) hx hb dL_law_1706 (by decide) (fun _ => ?_) (fun q => absurd rfl q)
  refine lv_iload hx hb dL_law_1711 (lv_at hl 1 rfl) ?_
  refine lv_if_ne (tgt := 1728) hx hb dL_law_1713 (by decide) (fun c9 => ?_) (fun c9 => ?_)
  · refine lv_goto (tgt := 3161) hx hb dL_law_1728 (by decide) ?_
    exact W.widen (k := 600000) (n := 7300000) (Nat.le_of_ble_eq_true rfl) (Nat.le_of_ble_eq_true rfl) (kk H locs ls hS (lv_sub hl [2, 6] rfl))
  · refine lv_aload_n hx hb dL_law_1716 rfl (lv_at hl 3 rfl) ?_
    refine lv_iconst (v := 0) hx hb dL_law_1717 (by decide) ?_
    refine va_lald hx hb hK hP 0 2 rfl rfl (in_lit (by decide)) dL_law_1718 ?_
    refine lv_iload hx hb dL_law_1719 (lv_at hl 0 rfl) ?_
    refine lv_i2l hx hb dL_law_1721 rfl ?_
    refine W.lcmp hx hb dL_law_1722 ?_
    refine lv_if_eq (tgt := 1728) hx hb dL_law_1723 (by decide) (fun _ => ?_) (fun q => absurd (lgs ((hv_ c9).trans (hr_ c9).symm)) q)
    refine lv_goto (tgt := 3161) hx hb dL_law_1728 (by decide) ?_
    exact W.widen (k := 600000) (n := 7300000) (Nat.le_of_ble_eq_true rfl) (Nat.le_of_ble_eq_true rfl) (kk H locs ls hS (lv_sub hl [2, 6] rfl))
set_option maxHeartbeats 4000000 in
set_option maxRecDepth 100000 in
theorem cs_27 (l : Launch) (hlt : l.stackTraces = false) {p : Program} {e : Env} {s : State} {m : MethodId} {below : List Frame} {meth : Method} {c : Code} {D : va_G} {cy : Nat → ClassId} {A : Nat → Prop} {b : Nat} {xs : Nat → Int32} {H : Heap} {locs : List Loc} {ls : Array Slot} {Q : State → Prop} (a : Nat → Nat) (hX : Ex p s m #[Value.ref b] meth c code ret 8 RL) (hE : Ew D cy A s) (hx7 : va_X b 7 xs s s.heap) (hbl : b < s.heap.size) (hbA : ¬ A b) (hP : va_P D vwCl [((a 0), .inr (10, [.ref (a 1), .int 0, .int 0, .int (-1), .ref (a 2), .ref (a 3), .ref (a 4), .ref (a 5), .ref (a 6), .ref (a 7), .ref (a 8), .ref (a 9), .int 0])), ((a 3), .inr (6, [.ref (a 10), .int 0, .ref (a 21), .ref (a 22), .ref (a 23), .ref (a 24), .ref (a 25), .int 0])), ((a 10), .inr (0, [.int 0, .int 1, .int 1, .int 0, .int 0, .ref (a 11), .ref (a 12), .ref (a 13), .null, .null])), ((a 300), .inl (cy 2, 1, .inr (.inl (fun _ => 0)))), ((a 200), .inr (11, [.ref (a 201), .ref (a 202), .ref (a 203), .ref (a 204), .int 0, .ref (a 205), .int 0, .int 0, .int 0, .int 0, .int 0, .int 0, .int 0, .int 0, .int 0, .int (-1), .int 0, .int 0, .int 0, .ref (a 206), .ref (a 207), .int 0, .int 0, .ref (a 208), .int 0, .int 0, .int 0, .int 0, .ref (a 209), .ref (a 210), .ref (a 211), .ref (a 212), .ref (a 213), .ref (a 214), .ref (a 215), .int 0, .ref (a 216), .ref (a 217), .ref (a 218)])), ((a 201), .inl (cy 0, 2260, .inl (upd (upd (fun _ => 0) (1 : Int32).toNatClampNeg 1) (2 : Int32).toNatClampNeg 1)))] H) (hD : va_D A [((a 0), .inr (10, [.ref (a 1), .int 0, .int 0, .int (-1), .ref (a 2), .ref (a 3), .ref (a 4), .ref (a 5), .ref (a 6), .ref (a 7), .ref (a 8), .ref (a 9), .int 0])), ((a 3), .inr (6, [.ref (a 10), .int 0, .ref (a 21), .ref (a 22), .ref (a 23), .ref (a 24), .ref (a 25), .int 0])), ((a 10), .inr (0, [.int 0, .int 1, .int 1, .int 0, .int 0, .ref (a 11), .ref (a 12), .ref (a 13), .null, .null])), ((a 300), .inl (cy 2, 1, .inr (.inl (fun _ => 0)))), ((a 200), .inr (11, [.ref (a 201), .ref (a 202), .ref (a 203), .ref (a 204), .int 0, .ref (a 205), .int 0, .int 0, .int 0, .int 0, .int 0, .int 0, .int 0, .int 0, .int 0, .int (-1), .int 0, .int 0, .int 0, .ref (a 206), .ref (a 207), .int 0, .int 0, .ref (a 208), .int 0, .int 0, .int 0, .int 0, .ref (a 209), .ref (a 210), .ref (a 211), .ref (a 212), .ref (a 213), .ref (a 214), .ref (a 215), .int 0, .ref (a 216), .ref (a 217), .ref (a 218)])), ((a 201), .inl (cy 0, 2260, .inl (upd (upd (fun _ => 0) (1 : Int32).toNatClampNeg 1) (2 : Int32).toNatClampNeg 1)))]) (hS : va_S A s.heap H locs) (hl : lv_has ls 8 [(4, .int 0), (3, .ref (a 300)), (2, .ref (a 200)), (1, .ref (a 0)), (0, .ref b)]) (kk : ∀ (H : Heap) (locs : List Loc) (ls : Array Slot), va_S A s.heap H locs → lv_has ls 8 [(4, .int 0), (0, .ref b)] → W p l e room_1 s m #[Value.ref b] below meth c H locs 600000 7300000 Q (F0 m 3161 ls [])) : W p l e room_1 s m #[Value.ref b] below meth c H locs 131 17485 Q (F0 m 1731 ls []) := by
  obtain ⟨hx, hb, hr, hml, hown, htA, hlk⟩ := id hX
  have hK := hE.1
  refine lv_aload_n hx hb dL_law_1731 rfl (lv_at hl 3 rfl) ?_
  refine lv_aload_n hx hb dL_law_1732 rfl (lv_at hl 4 rfl) ?_
  refine lv_iload hx hb dL_law_1733 (lv_at hl 0 rfl) ?_
  refine lv_iconst (v := 1) hx hb dL_law_1735 (by decide) ?_
  refine lv_iadd hx hb dL_law_1736 ?_
  refine lv_topi (fun x1 ex1 => ?_)
  obtain rfl : x1 = 1 := ex1.trans (by decide)
  refine va_sld hx hb hx7 hbl hbA hS (in_lit (by decide)) dL_law_1737 ?_
  refine lv_aload_n hx hb dL_law_1738 rfl (lv_at hl 4 rfl) ?_
  refine lv_iload hx hb dL_law_1739 (lv_at hl 0 rfl) ?_
  refine lv_iconst (v := 2) hx hb dL_law_1741 (by decide) ?_
  refine lv_iadd hx hb dL_law_1742 ?_
  refine lv_topi (fun x2 ex2 => ?_)
  obtain rfl : x2 = 2 := ex2.trans (by decide)
  refine va_sld hx hb hx7 hbl hbA hS (in_lit (by decide)) dL_law_1743 ?_
  refine lv_aload_n hx hb dL_law_1744 rfl (lv_at hl 4 rfl) ?_
  refine lv_iload hx hb dL_law_1745 (lv_at hl 0 rfl) ?_
  refine lv_iconst (v := 3) hx hb dL_law_1747 (by decide) ?_
  refine lv_iadd hx hb dL_law_1748 ?_
  refine lv_topi (fun x3 ex3 => ?_)
  obtain rfl : x3 = 3 := ex3.trans (by decide)
  refine va_sld hx hb hx7 hbl hbA hS (in_lit (by decide)) dL_law_1749 ?_
  refine lv_aload_n hx hb dL_law_1750 rfl (lv_at hl 4 rfl) ?_
  refine lv_iload hx hb dL_law_1751 (lv_at hl 0 rfl) ?_
  refine lv_iconst (v := 4) hx hb dL_law_1753 (by decide) ?_
  refine lv_iadd hx hb dL_law_1754 ?_
  refine lv_topi (fun x4 ex4 => ?_)
  obtain rfl : x4 = 4 := ex4.trans (by decide)
  refine va_sld hx hb hx7 hbl hbA hS (in_lit (by decide)) dL_law_1755 ?_
  refine lv_aload_n hx hb dL_law_1756 rfl (lv_at hl 1 rfl) ?_
  refine kHi (As := [.ref (a 0), .int (xs (1 : Int32).toNatClampNeg), .int (xs (2 : Int32).toNatClampNeg), .int (xs (3 : Int32).toNatClampNeg), .int (xs (4 : Int32).toNatClampNeg), .ref (a 300)]) (rest := []) (wr := [((a 200), .inr (11, [.ref (a 201), .ref (a 202), .ref (a 203), .ref (a 204), .int 0, .ref (a 205), .int 0, .int 0, .int 0, .int 0, .int 0, .int 0, .int 0, .int 0, .int 0, .int (-1), .int 0, .int 0, .int 0, .ref (a 206), .ref (a 207), .int 0, .int 0, .ref (a 208), .int 0, .int 0, .int 0, .int 0, .ref (a 209), .ref (a 210), .ref (a 211), .ref (a 212), .ref (a 213), .ref (a 214), .ref (a 215), .int 0, .ref (a 216), .ref (a 217), .ref (a 218)])), ((a 201), .inl (cy 0, 2260, .inl (upd (upd (fun _ => 0) (1 : Int32).toNatClampNeg 1) (2 : Int32).toNatClampNeg 1)))]) hX hE (h_waitFor l hlt D cy a (xs (1 : Int32).toNatClampNeg) (xs (2 : Int32).toNatClampNeg) (xs (3 : Int32).toNatClampNeg) (xs (4 : Int32).toNatClampNeg)) (cwHA 6 htA wd_1122 wd_1120 wd_0 wd_1121 (by decide +kernel) ⟨by decide, by decide⟩) hP hD hS [0, 1, 2, 3] [4, 5] rfl rfl (by decide) rfl hl.1 rfl (Nat.le_of_ble_eq_true rfl) dL_law_1757 (by decide) (fun r_ W1 H locs hw hP hD hS => ?_)
  refine W.widen (k := 132) (n := 17491) (by decide) (by decide) ?_
  obtain ⟨rfl, g_, rfl, hv_⟩ := hw
  have hP : va_P D vwCl [((a 200), .inr (11, [.ref (a 201), .ref (a 202), .ref (a 203), .ref (a 204), .int 0, .ref (a 205), .int 0, .int 0, .int 0, .int 0, .int 0, .int 0, .int 0, .int 0, .int 0, .int (-1), .int 0, .int 0, .int 0, .ref (a 206), .ref (a 207), .int 0, .int 0, .ref (a 208), .int 0, .int 0, .int 0, .int 0, .ref (a 209), .ref (a 210), .ref (a 211), .ref (a 212), .ref (a 213), .ref (a 214), .ref (a 215), .int 0, .ref (a 216), .ref (a 217), .ref (a 218)])), ((a 201), .inl (cy 0, 2260, .inl (upd (upd (fun _ => 0) (1 : Int32).toNatClampNeg 1) (2 : Int32).toNatClampNeg 1))), ((a 300), .inl (cy 2, 1, .inr (.inl (g_))))] H := hP
  have hD : va_D A [((a 200), .inr (11, [.ref (a 201), .ref (a 202), .ref (a 203), .ref (a 204), .int 0, .ref (a 205), .int 0, .int 0, .int 0, .int 0, .int 0, .int 0, .int 0, .int 0, .int 0, .int (-1), .int 0, .int 0, .int 0, .ref (a 206), .ref (a 207), .int 0, .int 0, .ref (a 208), .int 0, .int 0, .int 0, .int 0, .ref (a 209), .ref (a 210), .ref (a 211), .ref (a 212), .ref (a 213), .ref (a 214), .ref (a 215), .int 0, .ref (a 216), .ref (a 217), .ref (a 218)])), ((a 201), .inl (cy 0, 2260, .inl (upd (upd (fun _ => 0) (1 : Int32).toNatClampNeg 1) (2 : Int32).toNatClampNeg 1))), ((a 300), .inl (cy 2, 1, .inr (.inl (g_))))] := hD
  refine lv_istore (lv' := [(5, .int (kf_waitFor (xs (1 : Int32).toNatClampNeg) (xs (2 : Int32).toNatClampNeg) (xs (3 : Int32).toNatClampNeg) (xs (4 : Int32).toNatClampNeg))), (4, .int 0), (3, .ref (a 300)), (2, .ref (a 200)), (1, .ref (a 0)), (0, .ref b)]) hx hb dL_law_1760 hl (by decide) rfl (fun ls hl => ?_)
  refine lv_aload_n hx hb dL_law_1762 rfl (lv_at hl 3 rfl) ?_
  refine lv_aload_n hx hb dL_law_1763 rfl (lv_at hl 5 rfl) ?_
  refine lv_iload hx hb dL_law_1764 (lv_at hl 1 rfl) ?_
  refine lv_iconst (v := 1) hx hb dL_law_1766 (by decide) ?_
  refine lv_iadd hx hb dL_law_1767 ?_
  refine lv_topi (fun x5 ex5 => ?_)
  obtain rfl : x5 = 1 := ex5.trans (by decide)
  refine va_sld hx hb hx7 hbl hbA hS (in_lit (by decide)) dL_law_1768 ?_
  refine lv_aload_n hx hb dL_law_1769 rfl (lv_at hl 5 rfl) ?_
  refine lv_iload hx hb dL_law_1770 (lv_at hl 1 rfl) ?_
  refine lv_iconst (v := 2) hx hb dL_law_1772 (by decide) ?_
  refine lv_iadd hx hb dL_law_1773 ?_
  refine lv_topi (fun x6 ex6 => ?_)
  obtain rfl : x6 = 2 := ex6.trans (by decide)
  refine va_sld hx hb hx7 hbl hbA hS (in_lit (by decide)) dL_law_1774 ?_
  refine lv_aload_n hx hb dL_law_1775 rfl (lv_at hl 5 rfl) ?_
  refine lv_iload hx hb dL_law_1776 (lv_at hl 1 rfl) ?_
  refine lv_iconst (v := 3) hx hb dL_law_1778 (by decide) ?_
  refine lv_iadd hx hb dL_law_1779 ?_
  refine lv_topi (fun x7 ex7 => ?_)
  obtain rfl : x7 = 3 := ex7.trans (by decide)
  refine va_sld hx hb hx7 hbl hbA hS (in_lit (by decide)) dL_law_1780 ?_
  refine lv_aload_n hx hb dL_law_1781 rfl (lv_at hl 5 rfl) ?_
  refine lv_iload hx hb dL_law_1782 (lv_at hl 1 rfl) ?_
  refine lv_iconst (v := 4) hx hb dL_law_1784 (by decide) ?_
  refine lv_iadd hx hb dL_law_1785 ?_
  refine lv_topi (fun x8 ex8 => ?_)
  obtain rfl : x8 = 4 := ex8.trans (by decide)
  refine va_sld hx hb hx7 hbl hbA hS (in_lit (by decide)) dL_law_1786 ?_
  refine kVi (As := [.int (xs (1 : Int32).toNatClampNeg), .int (xs (2 : Int32).toNatClampNeg), .int (xs (3 : Int32).toNatClampNeg), .int (xs (4 : Int32).toNatClampNeg)]) (rest := []) (wr := [((a 300), .inl (cy 2, 1, .inr (.inl (g_))))]) hX hE (r_waitFor l D cy a (xs (1 : Int32).toNatClampNeg) (xs (2 : Int32).toNatClampNeg) (xs (3 : Int32).toNatClampNeg) (xs (4 : Int32).toNatClampNeg)) (cwVA 4 htA wd_1939 wd_1936 wd_10 wd_1937 wd_1938 (by decide +kernel) ⟨by decide, by decide⟩) hP hD hS [0, 1] [2] rfl rfl (by decide) 0 rfl rfl rfl rfl hl.1 rfl (Nat.le_of_ble_eq_true rfl) dL_law_1787 (by decide) (fun r_ W1 H locs hw hP hD hS => ?_)
  refine W.widen (k := 132) (n := 17491) (by decide) (by decide) ?_
  obtain ⟨fs_, rfl, hf_, hr_⟩ := hw
  have hP : va_P D vwCl [((a 300), .inl (cy 2, 1, .inr (.inl (g_)))), ((a 200), .inr (11, fs_))] H := hP
  have hD : va_D A [((a 300), .inl (cy 2, 1, .inr (.inl (g_)))), ((a 200), .inr (11, fs_))] := hD
  refine lv_istore (lv' := [(6, .int r_), (5, .int (kf_waitFor (xs (1 : Int32).toNatClampNeg) (xs (2 : Int32).toNatClampNeg) (xs (3 : Int32).toNatClampNeg) (xs (4 : Int32).toNatClampNeg))), (4, .int 0), (3, .ref (a 300)), (2, .ref (a 200)), (1, .ref (a 0)), (0, .ref b)]) hx hb dL_law_1790 hl (by decide) rfl (fun ls hl => ?_)
  refine lv_aload_n hx hb dL_law_1792 rfl (lv_at hl 4 rfl) ?_
  refine kVi (As := []) (rest := []) (wr := [((a 300), .inl (cy 2, 1, .inr (.inl (g_))))]) hX hE (r_thrown l D cy a fs_ (kf_waitFor (xs (1 : Int32).toNatClampNeg) (xs (2 : Int32).toNatClampNeg) (xs (3 : Int32).toNatClampNeg) (xs (4 : Int32).toNatClampNeg)) hf_) (cwVA 0 htA wd_1476 wd_1473 wd_10 wd_1474 wd_1475 (by decide +kernel) ⟨by decide, by decide⟩) hP hD hS [1] [0] rfl rfl (by decide) 0 rfl rfl rfl rfl hl.1 rfl (Nat.le_of_ble_eq_true rfl) dL_law_1793 (by decide) (fun r_ W1 H locs hw hP hD hS => ?_)
  refine W.widen (k := 132) (n := 17491) (by decide) (by decide) ?_
  have hP : va_P D vwCl [((a 300), .inl (cy 2, 1, .inr (.inl (g_))))] H := hP.sub [0] rfl
  have hD : va_D A [((a 300), .inl (cy 2, 1, .inr (.inl (g_))))] := hD.sub [0] (by rfl) rfl
  obtain rfl := hw
  have hP : va_P D vwCl [((a 300), .inl (cy 2, 1, .inr (.inl (g_))))] H := hP
  have hD : va_D A [((a 300), .inl (cy 2, 1, .inr (.inl (g_))))] := hD
  refine lv_iload hx hb dL_law_1796 (lv_at hl 1 rfl) ?_
  refine lv_icmp_eq (tgt := 1803) hx hb dL_law_1798 (by decide) (fun _ => ?_) (fun q => absurd rfl q)
  refine lv_iload hx hb dL_law_1803 (lv_at hl 1 rfl) ?_
  refine lv_if_ne (tgt := 1820) hx hb dL_law_1805 (by decide) (fun c9 => ?_) (fun c9 => ?_)
  · refine lv_goto (tgt := 3161) hx hb dL_law_1820 (by decide) ?_
    exact W.widen (k := 600000) (n := 7300000) (Nat.le_of_ble_eq_true rfl) (Nat.le_of_ble_eq_true rfl) (kk H locs ls hS (lv_sub hl [2, 6] rfl))
  · refine lv_aload_n hx hb dL_law_1808 rfl (lv_at hl 3 rfl) ?_
    refine lv_iconst (v := 0) hx hb dL_law_1809 (by decide) ?_
    refine va_lald hx hb hK hP 0 2 rfl rfl (in_lit (by decide)) dL_law_1810 ?_
    refine lv_iload hx hb dL_law_1811 (lv_at hl 0 rfl) ?_
    refine lv_i2l hx hb dL_law_1813 rfl ?_
    refine W.lcmp hx hb dL_law_1814 ?_
    refine lv_if_eq (tgt := 1820) hx hb dL_law_1815 (by decide) (fun _ => ?_) (fun q => absurd (lgs ((hv_ c9).trans (hr_ c9).symm)) q)
    refine lv_goto (tgt := 3161) hx hb dL_law_1820 (by decide) ?_
    exact W.widen (k := 600000) (n := 7300000) (Nat.le_of_ble_eq_true rfl) (Nat.le_of_ble_eq_true rfl) (kk H locs ls hS (lv_sub hl [2, 6] rfl))
set_option maxHeartbeats 4000000 in
set_option maxRecDepth 100000 in
theorem cs_28 (l : Launch) (hlt : l.stackTraces = false) {p : Program} {e : Env} {s : State} {m : MethodId} {below : List Frame} {meth : Method} {c : Code} {D : va_G} {cy : Nat → ClassId} {A : Nat → Prop} {b : Nat} {xs : Nat → Int32} {H : Heap} {locs : List Loc} {ls : Array Slot} {Q : State → Prop} (a : Nat → Nat) (hX : Ex p s m #[Value.ref b] meth c code ret 8 RL) (hE : Ew D cy A s) (hx7 : va_X b 7 xs s s.heap) (hbl : b < s.heap.size) (hbA : ¬ A b) (hP : va_P D vwCl [((a 0), .inr (10, [.ref (a 1), .int 0, .int 0, .int (-1), .ref (a 2), .ref (a 3), .ref (a 4), .ref (a 5), .ref (a 6), .ref (a 7), .ref (a 8), .ref (a 9), .int 0])), ((a 3), .inr (6, [.ref (a 10), .int 0, .ref (a 21), .ref (a 22), .ref (a 23), .ref (a 24), .ref (a 25), .int 0])), ((a 10), .inr (0, [.int 0, .int 1, .int 1, .int 0, .int 0, .ref (a 11), .ref (a 12), .ref (a 13), .null, .null])), ((a 300), .inl (cy 2, 1, .inr (.inl (fun _ => 0)))), ((a 200), .inr (11, [.ref (a 201), .ref (a 202), .ref (a 203), .ref (a 204), .int 0, .ref (a 205), .int 0, .int 0, .int 0, .int 0, .int 0, .int 0, .int 0, .int 0, .int 0, .int (-1), .int 0, .int 0, .int 0, .ref (a 206), .ref (a 207), .int 0, .int 0, .ref (a 208), .int 0, .int 0, .int 0, .int 0, .ref (a 209), .ref (a 210), .ref (a 211), .ref (a 212), .ref (a 213), .ref (a 214), .ref (a 215), .int 0, .ref (a 216), .ref (a 217), .ref (a 218)])), ((a 201), .inl (cy 0, 2260, .inl (upd (upd (fun _ => 0) (1 : Int32).toNatClampNeg 1) (2 : Int32).toNatClampNeg 1)))] H) (hD : va_D A [((a 0), .inr (10, [.ref (a 1), .int 0, .int 0, .int (-1), .ref (a 2), .ref (a 3), .ref (a 4), .ref (a 5), .ref (a 6), .ref (a 7), .ref (a 8), .ref (a 9), .int 0])), ((a 3), .inr (6, [.ref (a 10), .int 0, .ref (a 21), .ref (a 22), .ref (a 23), .ref (a 24), .ref (a 25), .int 0])), ((a 10), .inr (0, [.int 0, .int 1, .int 1, .int 0, .int 0, .ref (a 11), .ref (a 12), .ref (a 13), .null, .null])), ((a 300), .inl (cy 2, 1, .inr (.inl (fun _ => 0)))), ((a 200), .inr (11, [.ref (a 201), .ref (a 202), .ref (a 203), .ref (a 204), .int 0, .ref (a 205), .int 0, .int 0, .int 0, .int 0, .int 0, .int 0, .int 0, .int 0, .int 0, .int (-1), .int 0, .int 0, .int 0, .ref (a 206), .ref (a 207), .int 0, .int 0, .ref (a 208), .int 0, .int 0, .int 0, .int 0, .ref (a 209), .ref (a 210), .ref (a 211), .ref (a 212), .ref (a 213), .ref (a 214), .ref (a 215), .int 0, .ref (a 216), .ref (a 217), .ref (a 218)])), ((a 201), .inl (cy 0, 2260, .inl (upd (upd (fun _ => 0) (1 : Int32).toNatClampNeg 1) (2 : Int32).toNatClampNeg 1)))]) (hS : va_S A s.heap H locs) (hl : lv_has ls 8 [(4, .int 0), (3, .ref (a 300)), (2, .ref (a 200)), (1, .ref (a 0)), (0, .ref b)]) (kk : ∀ (H : Heap) (locs : List Loc) (ls : Array Slot), va_S A s.heap H locs → lv_has ls 8 [(4, .int 0), (0, .ref b)] → W p l e room_1 s m #[Value.ref b] below meth c H locs 600000 7300000 Q (F0 m 3161 ls [])) : W p l e room_1 s m #[Value.ref b] below meth c H locs 131 17485 Q (F0 m 1823 ls []) := by
  obtain ⟨hx, hb, hr, hml, hown, htA, hlk⟩ := id hX
  have hK := hE.1
  refine lv_aload_n hx hb dL_law_1823 rfl (lv_at hl 3 rfl) ?_
  refine lv_aload_n hx hb dL_law_1824 rfl (lv_at hl 4 rfl) ?_
  refine lv_iload hx hb dL_law_1825 (lv_at hl 0 rfl) ?_
  refine lv_iconst (v := 1) hx hb dL_law_1827 (by decide) ?_
  refine lv_iadd hx hb dL_law_1828 ?_
  refine lv_topi (fun x1 ex1 => ?_)
  obtain rfl : x1 = 1 := ex1.trans (by decide)
  refine va_sld hx hb hx7 hbl hbA hS (in_lit (by decide)) dL_law_1829 ?_
  refine lv_aload_n hx hb dL_law_1830 rfl (lv_at hl 4 rfl) ?_
  refine lv_iload hx hb dL_law_1831 (lv_at hl 0 rfl) ?_
  refine lv_iconst (v := 2) hx hb dL_law_1833 (by decide) ?_
  refine lv_iadd hx hb dL_law_1834 ?_
  refine lv_topi (fun x2 ex2 => ?_)
  obtain rfl : x2 = 2 := ex2.trans (by decide)
  refine va_sld hx hb hx7 hbl hbA hS (in_lit (by decide)) dL_law_1835 ?_
  refine lv_aload_n hx hb dL_law_1836 rfl (lv_at hl 4 rfl) ?_
  refine lv_iload hx hb dL_law_1837 (lv_at hl 0 rfl) ?_
  refine lv_iconst (v := 3) hx hb dL_law_1839 (by decide) ?_
  refine lv_iadd hx hb dL_law_1840 ?_
  refine lv_topi (fun x3 ex3 => ?_)
  obtain rfl : x3 = 3 := ex3.trans (by decide)
  refine va_sld hx hb hx7 hbl hbA hS (in_lit (by decide)) dL_law_1841 ?_
  refine lv_aload_n hx hb dL_law_1842 rfl (lv_at hl 1 rfl) ?_
  refine kHi (As := [.ref (a 0), .int (xs (1 : Int32).toNatClampNeg), .int (xs (2 : Int32).toNatClampNeg), .int (xs (3 : Int32).toNatClampNeg), .ref (a 300)]) (rest := []) (wr := [((a 200), .inr (11, [.ref (a 201), .ref (a 202), .ref (a 203), .ref (a 204), .int 0, .ref (a 205), .int 0, .int 0, .int 0, .int 0, .int 0, .int 0, .int 0, .int 0, .int 0, .int (-1), .int 0, .int 0, .int 0, .ref (a 206), .ref (a 207), .int 0, .int 0, .ref (a 208), .int 0, .int 0, .int 0, .int 0, .ref (a 209), .ref (a 210), .ref (a 211), .ref (a 212), .ref (a 213), .ref (a 214), .ref (a 215), .int 0, .ref (a 216), .ref (a 217), .ref (a 218)])), ((a 201), .inl (cy 0, 2260, .inl (upd (upd (fun _ => 0) (1 : Int32).toNatClampNeg 1) (2 : Int32).toNatClampNeg 1)))]) hX hE (h_waitSafe l hlt D cy a (xs (1 : Int32).toNatClampNeg) (xs (2 : Int32).toNatClampNeg) (xs (3 : Int32).toNatClampNeg)) (cwHA 5 htA wd_1129 wd_1127 wd_0 wd_1128 (by decide +kernel) ⟨by decide, by decide⟩) hP hD hS [0, 1, 2, 3] [4, 5] rfl rfl (by decide) rfl hl.1 rfl (Nat.le_of_ble_eq_true rfl) dL_law_1843 (by decide) (fun r_ W1 H locs hw hP hD hS => ?_)
  refine W.widen (k := 132) (n := 17491) (by decide) (by decide) ?_
  obtain ⟨rfl, g_, rfl, hv_⟩ := hw
  have hP : va_P D vwCl [((a 200), .inr (11, [.ref (a 201), .ref (a 202), .ref (a 203), .ref (a 204), .int 0, .ref (a 205), .int 0, .int 0, .int 0, .int 0, .int 0, .int 0, .int 0, .int 0, .int 0, .int (-1), .int 0, .int 0, .int 0, .ref (a 206), .ref (a 207), .int 0, .int 0, .ref (a 208), .int 0, .int 0, .int 0, .int 0, .ref (a 209), .ref (a 210), .ref (a 211), .ref (a 212), .ref (a 213), .ref (a 214), .ref (a 215), .int 0, .ref (a 216), .ref (a 217), .ref (a 218)])), ((a 201), .inl (cy 0, 2260, .inl (upd (upd (fun _ => 0) (1 : Int32).toNatClampNeg 1) (2 : Int32).toNatClampNeg 1))), ((a 300), .inl (cy 2, 1, .inr (.inl (g_))))] H := hP
  have hD : va_D A [((a 200), .inr (11, [.ref (a 201), .ref (a 202), .ref (a 203), .ref (a 204), .int 0, .ref (a 205), .int 0, .int 0, .int 0, .int 0, .int 0, .int 0, .int 0, .int 0, .int 0, .int (-1), .int 0, .int 0, .int 0, .ref (a 206), .ref (a 207), .int 0, .int 0, .ref (a 208), .int 0, .int 0, .int 0, .int 0, .ref (a 209), .ref (a 210), .ref (a 211), .ref (a 212), .ref (a 213), .ref (a 214), .ref (a 215), .int 0, .ref (a 216), .ref (a 217), .ref (a 218)])), ((a 201), .inl (cy 0, 2260, .inl (upd (upd (fun _ => 0) (1 : Int32).toNatClampNeg 1) (2 : Int32).toNatClampNeg 1))), ((a 300), .inl (cy 2, 1, .inr (.inl (g_))))] := hD
  refine lv_istore (lv' := [(5, .int (kf_waitSafe (xs (1 : Int32).toNatClampNeg) (xs (2 : Int32).toNatClampNeg) (xs (3 : Int32).toNatClampNeg))), (4, .int 0), (3, .ref (a 300)), (2, .ref (a 200)), (1, .ref (a 0)), (0, .ref b)]) hx hb dL_law_1846 hl (by decide) rfl (fun ls hl => ?_)
  refine lv_aload_n hx hb dL_law_1848 rfl (lv_at hl 3 rfl) ?_
  refine lv_aload_n hx hb dL_law_1849 rfl (lv_at hl 5 rfl) ?_
  refine lv_iload hx hb dL_law_1850 (lv_at hl 1 rfl) ?_
  refine lv_iconst (v := 1) hx hb dL_law_1852 (by decide) ?_
  refine lv_iadd hx hb dL_law_1853 ?_
  refine lv_topi (fun x4 ex4 => ?_)
  obtain rfl : x4 = 1 := ex4.trans (by decide)
  refine va_sld hx hb hx7 hbl hbA hS (in_lit (by decide)) dL_law_1854 ?_
  refine lv_aload_n hx hb dL_law_1855 rfl (lv_at hl 5 rfl) ?_
  refine lv_iload hx hb dL_law_1856 (lv_at hl 1 rfl) ?_
  refine lv_iconst (v := 2) hx hb dL_law_1858 (by decide) ?_
  refine lv_iadd hx hb dL_law_1859 ?_
  refine lv_topi (fun x5 ex5 => ?_)
  obtain rfl : x5 = 2 := ex5.trans (by decide)
  refine va_sld hx hb hx7 hbl hbA hS (in_lit (by decide)) dL_law_1860 ?_
  refine lv_aload_n hx hb dL_law_1861 rfl (lv_at hl 5 rfl) ?_
  refine lv_iload hx hb dL_law_1862 (lv_at hl 1 rfl) ?_
  refine lv_iconst (v := 3) hx hb dL_law_1864 (by decide) ?_
  refine lv_iadd hx hb dL_law_1865 ?_
  refine lv_topi (fun x6 ex6 => ?_)
  obtain rfl : x6 = 3 := ex6.trans (by decide)
  refine va_sld hx hb hx7 hbl hbA hS (in_lit (by decide)) dL_law_1866 ?_
  refine kVi (As := [.int (xs (1 : Int32).toNatClampNeg), .int (xs (2 : Int32).toNatClampNeg), .int (xs (3 : Int32).toNatClampNeg)]) (rest := []) (wr := [((a 300), .inl (cy 2, 1, .inr (.inl (g_))))]) hX hE (r_waitSafe l D cy a (xs (1 : Int32).toNatClampNeg) (xs (2 : Int32).toNatClampNeg) (xs (3 : Int32).toNatClampNeg)) (cwVA 3 htA wd_1947 wd_1944 wd_10 wd_1945 wd_1946 (by decide +kernel) ⟨by decide, by decide⟩) hP hD hS [0, 1] [2] rfl rfl (by decide) 0 rfl rfl rfl rfl hl.1 rfl (Nat.le_of_ble_eq_true rfl) dL_law_1867 (by decide) (fun r_ W1 H locs hw hP hD hS => ?_)
  refine W.widen (k := 132) (n := 17491) (by decide) (by decide) ?_
  obtain ⟨fs_, rfl, hf_, hr_⟩ := hw
  have hP : va_P D vwCl [((a 300), .inl (cy 2, 1, .inr (.inl (g_)))), ((a 200), .inr (11, fs_))] H := hP
  have hD : va_D A [((a 300), .inl (cy 2, 1, .inr (.inl (g_)))), ((a 200), .inr (11, fs_))] := hD
  refine lv_istore (lv' := [(6, .int r_), (5, .int (kf_waitSafe (xs (1 : Int32).toNatClampNeg) (xs (2 : Int32).toNatClampNeg) (xs (3 : Int32).toNatClampNeg))), (4, .int 0), (3, .ref (a 300)), (2, .ref (a 200)), (1, .ref (a 0)), (0, .ref b)]) hx hb dL_law_1870 hl (by decide) rfl (fun ls hl => ?_)
  refine lv_aload_n hx hb dL_law_1872 rfl (lv_at hl 4 rfl) ?_
  refine kVi (As := []) (rest := []) (wr := [((a 300), .inl (cy 2, 1, .inr (.inl (g_))))]) hX hE (r_thrown l D cy a fs_ (kf_waitSafe (xs (1 : Int32).toNatClampNeg) (xs (2 : Int32).toNatClampNeg) (xs (3 : Int32).toNatClampNeg)) hf_) (cwVA 0 htA wd_1476 wd_1473 wd_10 wd_1474 wd_1475 (by decide +kernel) ⟨by decide, by decide⟩) hP hD hS [1] [0] rfl rfl (by decide) 0 rfl rfl rfl rfl hl.1 rfl (Nat.le_of_ble_eq_true rfl) dL_law_1873 (by decide) (fun r_ W1 H locs hw hP hD hS => ?_)
  refine W.widen (k := 132) (n := 17491) (by decide) (by decide) ?_
  have hP : va_P D vwCl [((a 300), .inl (cy 2, 1, .inr (.inl (g_))))] H := hP.sub [0] rfl
  have hD : va_D A [((a 300), .inl (cy 2, 1, .inr (.inl (g_))))] := hD.sub [0] (by rfl) rfl
  obtain rfl := hw
  have hP : va_P D vwCl [((a 300), .inl (cy 2, 1, .inr (.inl (g_))))] H := hP
  have hD : va_D A [((a 300), .inl (cy 2, 1, .inr (.inl (g_))))] := hD
  refine lv_iload hx hb dL_law_1876 (lv_at hl 1 rfl) ?_
  refine lv_icmp_eq (tgt := 1883) hx hb dL_law_1878 (by decide) (fun _ => ?_) (fun q => absurd rfl q)
  refine lv_iload hx hb dL_law_1883 (lv_at hl 1 rfl) ?_
  refine lv_if_ne (tgt := 1900) hx hb dL_law_1885 (by decide) (fun c7 => ?_) (fun c7 => ?_)
  · refine lv_goto (tgt := 3161) hx hb dL_law_1900 (by decide) ?_
    exact W.widen (k := 600000) (n := 7300000) (Nat.le_of_ble_eq_true rfl) (Nat.le_of_ble_eq_true rfl) (kk H locs ls hS (lv_sub hl [2, 6] rfl))
  · refine lv_aload_n hx hb dL_law_1888 rfl (lv_at hl 3 rfl) ?_
    refine lv_iconst (v := 0) hx hb dL_law_1889 (by decide) ?_
    refine va_lald hx hb hK hP 0 2 rfl rfl (in_lit (by decide)) dL_law_1890 ?_
    refine lv_iload hx hb dL_law_1891 (lv_at hl 0 rfl) ?_
    refine lv_i2l hx hb dL_law_1893 rfl ?_
    refine W.lcmp hx hb dL_law_1894 ?_
    refine lv_if_eq (tgt := 1900) hx hb dL_law_1895 (by decide) (fun _ => ?_) (fun q => absurd (lgs ((hv_ c7).trans (hr_ c7).symm)) q)
    refine lv_goto (tgt := 3161) hx hb dL_law_1900 (by decide) ?_
    exact W.widen (k := 600000) (n := 7300000) (Nat.le_of_ble_eq_true rfl) (Nat.le_of_ble_eq_true rfl) (kk H locs ls hS (lv_sub hl [2, 6] rfl))
set_option maxHeartbeats 4000000 in
set_option maxRecDepth 100000 in
theorem cs_29 (l : Launch) (hlt : l.stackTraces = false) {p : Program} {e : Env} {s : State} {m : MethodId} {below : List Frame} {meth : Method} {c : Code} {D : va_G} {cy : Nat → ClassId} {A : Nat → Prop} {b : Nat} {xs : Nat → Int32} {H : Heap} {locs : List Loc} {ls : Array Slot} {Q : State → Prop} (a : Nat → Nat) (hX : Ex p s m #[Value.ref b] meth c code ret 8 RL) (hE : Ew D cy A s) (hx7 : va_X b 7 xs s s.heap) (hbl : b < s.heap.size) (hbA : ¬ A b) (hP : va_P D vwCl [((a 0), .inr (10, [.ref (a 1), .int 0, .int 0, .int (-1), .ref (a 2), .ref (a 3), .ref (a 4), .ref (a 5), .ref (a 6), .ref (a 7), .ref (a 8), .ref (a 9), .int 0])), ((a 3), .inr (6, [.ref (a 10), .int 0, .ref (a 21), .ref (a 22), .ref (a 23), .ref (a 24), .ref (a 25), .int 0])), ((a 10), .inr (0, [.int 0, .int 1, .int 1, .int 0, .int 0, .ref (a 11), .ref (a 12), .ref (a 13), .null, .null])), ((a 300), .inl (cy 2, 1, .inr (.inl (fun _ => 0)))), ((a 200), .inr (11, [.ref (a 201), .ref (a 202), .ref (a 203), .ref (a 204), .int 0, .ref (a 205), .int 0, .int 0, .int 0, .int 0, .int 0, .int 0, .int 0, .int 0, .int 0, .int (-1), .int 0, .int 0, .int 0, .ref (a 206), .ref (a 207), .int 0, .int 0, .ref (a 208), .int 0, .int 0, .int 0, .int 0, .ref (a 209), .ref (a 210), .ref (a 211), .ref (a 212), .ref (a 213), .ref (a 214), .ref (a 215), .int 0, .ref (a 216), .ref (a 217), .ref (a 218)])), ((a 201), .inl (cy 0, 2260, .inl (upd (upd (fun _ => 0) (1 : Int32).toNatClampNeg 1) (2 : Int32).toNatClampNeg 1)))] H) (hD : va_D A [((a 0), .inr (10, [.ref (a 1), .int 0, .int 0, .int (-1), .ref (a 2), .ref (a 3), .ref (a 4), .ref (a 5), .ref (a 6), .ref (a 7), .ref (a 8), .ref (a 9), .int 0])), ((a 3), .inr (6, [.ref (a 10), .int 0, .ref (a 21), .ref (a 22), .ref (a 23), .ref (a 24), .ref (a 25), .int 0])), ((a 10), .inr (0, [.int 0, .int 1, .int 1, .int 0, .int 0, .ref (a 11), .ref (a 12), .ref (a 13), .null, .null])), ((a 300), .inl (cy 2, 1, .inr (.inl (fun _ => 0)))), ((a 200), .inr (11, [.ref (a 201), .ref (a 202), .ref (a 203), .ref (a 204), .int 0, .ref (a 205), .int 0, .int 0, .int 0, .int 0, .int 0, .int 0, .int 0, .int 0, .int 0, .int (-1), .int 0, .int 0, .int 0, .ref (a 206), .ref (a 207), .int 0, .int 0, .ref (a 208), .int 0, .int 0, .int 0, .int 0, .ref (a 209), .ref (a 210), .ref (a 211), .ref (a 212), .ref (a 213), .ref (a 214), .ref (a 215), .int 0, .ref (a 216), .ref (a 217), .ref (a 218)])), ((a 201), .inl (cy 0, 2260, .inl (upd (upd (fun _ => 0) (1 : Int32).toNatClampNeg 1) (2 : Int32).toNatClampNeg 1)))]) (hS : va_S A s.heap H locs) (hl : lv_has ls 8 [(4, .int 0), (3, .ref (a 300)), (2, .ref (a 200)), (1, .ref (a 0)), (0, .ref b)]) (kk : ∀ (H : Heap) (locs : List Loc) (ls : Array Slot), va_S A s.heap H locs → lv_has ls 8 [(4, .int 0), (0, .ref b)] → W p l e room_1 s m #[Value.ref b] below meth c H locs 600000 7300000 Q (F0 m 3161 ls [])) : W p l e room_1 s m #[Value.ref b] below meth c H locs 131 17485 Q (F0 m 1903 ls []) := by
  obtain ⟨hx, hb, hr, hml, hown, htA, hlk⟩ := id hX
  have hK := hE.1
  refine lv_aload_n hx hb dL_law_1903 rfl (lv_at hl 3 rfl) ?_
  refine lv_aload_n hx hb dL_law_1904 rfl (lv_at hl 4 rfl) ?_
  refine lv_iload hx hb dL_law_1905 (lv_at hl 0 rfl) ?_
  refine lv_iconst (v := 1) hx hb dL_law_1907 (by decide) ?_
  refine lv_iadd hx hb dL_law_1908 ?_
  refine lv_topi (fun x1 ex1 => ?_)
  obtain rfl : x1 = 1 := ex1.trans (by decide)
  refine va_sld hx hb hx7 hbl hbA hS (in_lit (by decide)) dL_law_1909 ?_
  refine lv_aload_n hx hb dL_law_1910 rfl (lv_at hl 4 rfl) ?_
  refine lv_iload hx hb dL_law_1911 (lv_at hl 0 rfl) ?_
  refine lv_iconst (v := 2) hx hb dL_law_1913 (by decide) ?_
  refine lv_iadd hx hb dL_law_1914 ?_
  refine lv_topi (fun x2 ex2 => ?_)
  obtain rfl : x2 = 2 := ex2.trans (by decide)
  refine va_sld hx hb hx7 hbl hbA hS (in_lit (by decide)) dL_law_1915 ?_
  refine lv_aload_n hx hb dL_law_1916 rfl (lv_at hl 4 rfl) ?_
  refine lv_iload hx hb dL_law_1917 (lv_at hl 0 rfl) ?_
  refine lv_iconst (v := 3) hx hb dL_law_1919 (by decide) ?_
  refine lv_iadd hx hb dL_law_1920 ?_
  refine lv_topi (fun x3 ex3 => ?_)
  obtain rfl : x3 = 3 := ex3.trans (by decide)
  refine va_sld hx hb hx7 hbl hbA hS (in_lit (by decide)) dL_law_1921 ?_
  refine lv_aload_n hx hb dL_law_1922 rfl (lv_at hl 4 rfl) ?_
  refine lv_iload hx hb dL_law_1923 (lv_at hl 0 rfl) ?_
  refine lv_iconst (v := 4) hx hb dL_law_1925 (by decide) ?_
  refine lv_iadd hx hb dL_law_1926 ?_
  refine lv_topi (fun x4 ex4 => ?_)
  obtain rfl : x4 = 4 := ex4.trans (by decide)
  refine va_sld hx hb hx7 hbl hbA hS (in_lit (by decide)) dL_law_1927 ?_
  refine lv_aload_n hx hb dL_law_1928 rfl (lv_at hl 1 rfl) ?_
  refine kHi (As := [.ref (a 0), .int (xs (1 : Int32).toNatClampNeg), .int (xs (2 : Int32).toNatClampNeg), .int (xs (3 : Int32).toNatClampNeg), .int (xs (4 : Int32).toNatClampNeg), .ref (a 300)]) (rest := []) (wr := [((a 200), .inr (11, [.ref (a 201), .ref (a 202), .ref (a 203), .ref (a 204), .int 0, .ref (a 205), .int 0, .int 0, .int 0, .int 0, .int 0, .int 0, .int 0, .int 0, .int 0, .int (-1), .int 0, .int 0, .int 0, .ref (a 206), .ref (a 207), .int 0, .int 0, .ref (a 208), .int 0, .int 0, .int 0, .int 0, .ref (a 209), .ref (a 210), .ref (a 211), .ref (a 212), .ref (a 213), .ref (a 214), .ref (a 215), .int 0, .ref (a 216), .ref (a 217), .ref (a 218)])), ((a 201), .inl (cy 0, 2260, .inl (upd (upd (fun _ => 0) (1 : Int32).toNatClampNeg 1) (2 : Int32).toNatClampNeg 1)))]) hX hE (h_waitHurt l hlt D cy a (xs (1 : Int32).toNatClampNeg) (xs (2 : Int32).toNatClampNeg) (xs (3 : Int32).toNatClampNeg) (xs (4 : Int32).toNatClampNeg)) (cwHA 6 htA wd_1141 wd_1139 wd_0 wd_1140 (by decide +kernel) ⟨by decide, by decide⟩) hP hD hS [0, 1, 2, 3] [4, 5] rfl rfl (by decide) rfl hl.1 rfl (Nat.le_of_ble_eq_true rfl) dL_law_1929 (by decide) (fun r_ W1 H locs hw hP hD hS => ?_)
  refine W.widen (k := 132) (n := 17491) (by decide) (by decide) ?_
  obtain ⟨rfl, g_, rfl, hv_⟩ := hw
  have hP : va_P D vwCl [((a 200), .inr (11, [.ref (a 201), .ref (a 202), .ref (a 203), .ref (a 204), .int 0, .ref (a 205), .int 0, .int 0, .int 0, .int 0, .int 0, .int 0, .int 0, .int 0, .int 0, .int (-1), .int 0, .int 0, .int 0, .ref (a 206), .ref (a 207), .int 0, .int 0, .ref (a 208), .int 0, .int 0, .int 0, .int 0, .ref (a 209), .ref (a 210), .ref (a 211), .ref (a 212), .ref (a 213), .ref (a 214), .ref (a 215), .int 0, .ref (a 216), .ref (a 217), .ref (a 218)])), ((a 201), .inl (cy 0, 2260, .inl (upd (upd (fun _ => 0) (1 : Int32).toNatClampNeg 1) (2 : Int32).toNatClampNeg 1))), ((a 300), .inl (cy 2, 1, .inr (.inl (g_))))] H := hP
  have hD : va_D A [((a 200), .inr (11, [.ref (a 201), .ref (a 202), .ref (a 203), .ref (a 204), .int 0, .ref (a 205), .int 0, .int 0, .int 0, .int 0, .int 0, .int 0, .int 0, .int 0, .int 0, .int (-1), .int 0, .int 0, .int 0, .ref (a 206), .ref (a 207), .int 0, .int 0, .ref (a 208), .int 0, .int 0, .int 0, .int 0, .ref (a 209), .ref (a 210), .ref (a 211), .ref (a 212), .ref (a 213), .ref (a 214), .ref (a 215), .int 0, .ref (a 216), .ref (a 217), .ref (a 218)])), ((a 201), .inl (cy 0, 2260, .inl (upd (upd (fun _ => 0) (1 : Int32).toNatClampNeg 1) (2 : Int32).toNatClampNeg 1))), ((a 300), .inl (cy 2, 1, .inr (.inl (g_))))] := hD
  refine lv_istore (lv' := [(5, .int (kf_waitHurt (xs (1 : Int32).toNatClampNeg) (xs (2 : Int32).toNatClampNeg) (xs (3 : Int32).toNatClampNeg) (xs (4 : Int32).toNatClampNeg))), (4, .int 0), (3, .ref (a 300)), (2, .ref (a 200)), (1, .ref (a 0)), (0, .ref b)]) hx hb dL_law_1932 hl (by decide) rfl (fun ls hl => ?_)
  refine lv_aload_n hx hb dL_law_1934 rfl (lv_at hl 3 rfl) ?_
  refine lv_aload_n hx hb dL_law_1935 rfl (lv_at hl 5 rfl) ?_
  refine lv_iload hx hb dL_law_1936 (lv_at hl 1 rfl) ?_
  refine lv_iconst (v := 1) hx hb dL_law_1938 (by decide) ?_
  refine lv_iadd hx hb dL_law_1939 ?_
  refine lv_topi (fun x5 ex5 => ?_)
  obtain rfl : x5 = 1 := ex5.trans (by decide)
  refine va_sld hx hb hx7 hbl hbA hS (in_lit (by decide)) dL_law_1940 ?_
  refine lv_aload_n hx hb dL_law_1941 rfl (lv_at hl 5 rfl) ?_
  refine lv_iload hx hb dL_law_1942 (lv_at hl 1 rfl) ?_
  refine lv_iconst (v := 2) hx hb dL_law_1944 (by decide) ?_
  refine lv_iadd hx hb dL_law_1945 ?_
  refine lv_topi (fun x6 ex6 => ?_)
  obtain rfl : x6 = 2 := ex6.trans (by decide)
  refine va_sld hx hb hx7 hbl hbA hS (in_lit (by decide)) dL_law_1946 ?_
  refine lv_aload_n hx hb dL_law_1947 rfl (lv_at hl 5 rfl) ?_
  refine lv_iload hx hb dL_law_1948 (lv_at hl 1 rfl) ?_
  refine lv_iconst (v := 3) hx hb dL_law_1950 (by decide) ?_
  refine lv_iadd hx hb dL_law_1951 ?_
  refine lv_topi (fun x7 ex7 => ?_)
  obtain rfl : x7 = 3 := ex7.trans (by decide)
  refine va_sld hx hb hx7 hbl hbA hS (in_lit (by decide)) dL_law_1952 ?_
  refine lv_aload_n hx hb dL_law_1953 rfl (lv_at hl 5 rfl) ?_
  refine lv_iload hx hb dL_law_1954 (lv_at hl 1 rfl) ?_
  refine lv_iconst (v := 4) hx hb dL_law_1956 (by decide) ?_
  refine lv_iadd hx hb dL_law_1957 ?_
  refine lv_topi (fun x8 ex8 => ?_)
  obtain rfl : x8 = 4 := ex8.trans (by decide)
  refine va_sld hx hb hx7 hbl hbA hS (in_lit (by decide)) dL_law_1958 ?_
  refine kVi (As := [.int (xs (1 : Int32).toNatClampNeg), .int (xs (2 : Int32).toNatClampNeg), .int (xs (3 : Int32).toNatClampNeg), .int (xs (4 : Int32).toNatClampNeg)]) (rest := []) (wr := [((a 300), .inl (cy 2, 1, .inr (.inl (g_))))]) hX hE (r_waitHurt l D cy a (xs (1 : Int32).toNatClampNeg) (xs (2 : Int32).toNatClampNeg) (xs (3 : Int32).toNatClampNeg) (xs (4 : Int32).toNatClampNeg)) (cwVA 4 htA wd_1955 wd_1952 wd_10 wd_1953 wd_1954 (by decide +kernel) ⟨by decide, by decide⟩) hP hD hS [0, 1] [2] rfl rfl (by decide) 0 rfl rfl rfl rfl hl.1 rfl (Nat.le_of_ble_eq_true rfl) dL_law_1959 (by decide) (fun r_ W1 H locs hw hP hD hS => ?_)
  refine W.widen (k := 132) (n := 17491) (by decide) (by decide) ?_
  obtain ⟨fs_, rfl, hf_, hr_⟩ := hw
  have hP : va_P D vwCl [((a 300), .inl (cy 2, 1, .inr (.inl (g_)))), ((a 200), .inr (11, fs_))] H := hP
  have hD : va_D A [((a 300), .inl (cy 2, 1, .inr (.inl (g_)))), ((a 200), .inr (11, fs_))] := hD
  refine lv_istore (lv' := [(6, .int r_), (5, .int (kf_waitHurt (xs (1 : Int32).toNatClampNeg) (xs (2 : Int32).toNatClampNeg) (xs (3 : Int32).toNatClampNeg) (xs (4 : Int32).toNatClampNeg))), (4, .int 0), (3, .ref (a 300)), (2, .ref (a 200)), (1, .ref (a 0)), (0, .ref b)]) hx hb dL_law_1962 hl (by decide) rfl (fun ls hl => ?_)
  refine lv_aload_n hx hb dL_law_1964 rfl (lv_at hl 4 rfl) ?_
  refine kVi (As := []) (rest := []) (wr := [((a 300), .inl (cy 2, 1, .inr (.inl (g_))))]) hX hE (r_thrown l D cy a fs_ (kf_waitHurt (xs (1 : Int32).toNatClampNeg) (xs (2 : Int32).toNatClampNeg) (xs (3 : Int32).toNatClampNeg) (xs (4 : Int32).toNatClampNeg)) hf_) (cwVA 0 htA wd_1476 wd_1473 wd_10 wd_1474 wd_1475 (by decide +kernel) ⟨by decide, by decide⟩) hP hD hS [1] [0] rfl rfl (by decide) 0 rfl rfl rfl rfl hl.1 rfl (Nat.le_of_ble_eq_true rfl) dL_law_1965 (by decide) (fun r_ W1 H locs hw hP hD hS => ?_)
  refine W.widen (k := 132) (n := 17491) (by decide) (by decide) ?_
  have hP : va_P D vwCl [((a 300), .inl (cy 2, 1, .inr (.inl (g_))))] H := hP.sub [0] rfl
  have hD : va_D A [((a 300), .inl (cy 2, 1, .inr (.inl (g_))))] := hD.sub [0] (by rfl) rfl
  obtain rfl := hw
  have hP : va_P D vwCl [((a 300), .inl (cy 2, 1, .inr (.inl (g_))))] H := hP
  have hD : va_D A [((a 300), .inl (cy 2, 1, .inr (.inl (g_))))] := hD
  refine lv_iload hx hb dL_law_1968 (lv_at hl 1 rfl) ?_
  refine lv_icmp_eq (tgt := 1975) hx hb dL_law_1970 (by decide) (fun _ => ?_) (fun q => absurd rfl q)
  refine lv_iload hx hb dL_law_1975 (lv_at hl 1 rfl) ?_
  refine lv_if_ne (tgt := 1992) hx hb dL_law_1977 (by decide) (fun c9 => ?_) (fun c9 => ?_)
  · refine lv_goto (tgt := 3161) hx hb dL_law_1992 (by decide) ?_
    exact W.widen (k := 600000) (n := 7300000) (Nat.le_of_ble_eq_true rfl) (Nat.le_of_ble_eq_true rfl) (kk H locs ls hS (lv_sub hl [2, 6] rfl))
  · refine lv_aload_n hx hb dL_law_1980 rfl (lv_at hl 3 rfl) ?_
    refine lv_iconst (v := 0) hx hb dL_law_1981 (by decide) ?_
    refine va_lald hx hb hK hP 0 2 rfl rfl (in_lit (by decide)) dL_law_1982 ?_
    refine lv_iload hx hb dL_law_1983 (lv_at hl 0 rfl) ?_
    refine lv_i2l hx hb dL_law_1985 rfl ?_
    refine W.lcmp hx hb dL_law_1986 ?_
    refine lv_if_eq (tgt := 1992) hx hb dL_law_1987 (by decide) (fun _ => ?_) (fun q => absurd (lgs ((hv_ c9).trans (hr_ c9).symm)) q)
    refine lv_goto (tgt := 3161) hx hb dL_law_1992 (by decide) ?_
    exact W.widen (k := 600000) (n := 7300000) (Nat.le_of_ble_eq_true rfl) (Nat.le_of_ble_eq_true rfl) (kk H locs ls hS (lv_sub hl [2, 6] rfl))
set_option maxHeartbeats 4000000 in
set_option maxRecDepth 100000 in
theorem cs_30 (l : Launch) (hlt : l.stackTraces = false) {p : Program} {e : Env} {s : State} {m : MethodId} {below : List Frame} {meth : Method} {c : Code} {D : va_G} {cy : Nat → ClassId} {A : Nat → Prop} {b : Nat} {xs : Nat → Int32} {H : Heap} {locs : List Loc} {ls : Array Slot} {Q : State → Prop} (a : Nat → Nat) (hX : Ex p s m #[Value.ref b] meth c code ret 8 RL) (hE : Ew D cy A s) (hx7 : va_X b 7 xs s s.heap) (hbl : b < s.heap.size) (hbA : ¬ A b) (hP : va_P D vwCl [((a 0), .inr (10, [.ref (a 1), .int 0, .int 0, .int (-1), .ref (a 2), .ref (a 3), .ref (a 4), .ref (a 5), .ref (a 6), .ref (a 7), .ref (a 8), .ref (a 9), .int 0])), ((a 3), .inr (6, [.ref (a 10), .int 0, .ref (a 21), .ref (a 22), .ref (a 23), .ref (a 24), .ref (a 25), .int 0])), ((a 10), .inr (0, [.int 0, .int 1, .int 1, .int 0, .int 0, .ref (a 11), .ref (a 12), .ref (a 13), .null, .null])), ((a 300), .inl (cy 2, 1, .inr (.inl (fun _ => 0)))), ((a 200), .inr (11, [.ref (a 201), .ref (a 202), .ref (a 203), .ref (a 204), .int 0, .ref (a 205), .int 0, .int 0, .int 0, .int 0, .int 0, .int 0, .int 0, .int 0, .int 0, .int (-1), .int 0, .int 0, .int 0, .ref (a 206), .ref (a 207), .int 0, .int 0, .ref (a 208), .int 0, .int 0, .int 0, .int 0, .ref (a 209), .ref (a 210), .ref (a 211), .ref (a 212), .ref (a 213), .ref (a 214), .ref (a 215), .int 0, .ref (a 216), .ref (a 217), .ref (a 218)])), ((a 201), .inl (cy 0, 2260, .inl (upd (upd (fun _ => 0) (1 : Int32).toNatClampNeg 1) (2 : Int32).toNatClampNeg 1)))] H) (hD : va_D A [((a 0), .inr (10, [.ref (a 1), .int 0, .int 0, .int (-1), .ref (a 2), .ref (a 3), .ref (a 4), .ref (a 5), .ref (a 6), .ref (a 7), .ref (a 8), .ref (a 9), .int 0])), ((a 3), .inr (6, [.ref (a 10), .int 0, .ref (a 21), .ref (a 22), .ref (a 23), .ref (a 24), .ref (a 25), .int 0])), ((a 10), .inr (0, [.int 0, .int 1, .int 1, .int 0, .int 0, .ref (a 11), .ref (a 12), .ref (a 13), .null, .null])), ((a 300), .inl (cy 2, 1, .inr (.inl (fun _ => 0)))), ((a 200), .inr (11, [.ref (a 201), .ref (a 202), .ref (a 203), .ref (a 204), .int 0, .ref (a 205), .int 0, .int 0, .int 0, .int 0, .int 0, .int 0, .int 0, .int 0, .int 0, .int (-1), .int 0, .int 0, .int 0, .ref (a 206), .ref (a 207), .int 0, .int 0, .ref (a 208), .int 0, .int 0, .int 0, .int 0, .ref (a 209), .ref (a 210), .ref (a 211), .ref (a 212), .ref (a 213), .ref (a 214), .ref (a 215), .int 0, .ref (a 216), .ref (a 217), .ref (a 218)])), ((a 201), .inl (cy 0, 2260, .inl (upd (upd (fun _ => 0) (1 : Int32).toNatClampNeg 1) (2 : Int32).toNatClampNeg 1)))]) (hS : va_S A s.heap H locs) (hl : lv_has ls 8 [(4, .int 0), (3, .ref (a 300)), (2, .ref (a 200)), (1, .ref (a 0)), (0, .ref b)]) (kk : ∀ (H : Heap) (locs : List Loc) (ls : Array Slot), va_S A s.heap H locs → lv_has ls 8 [(4, .int 0), (0, .ref b)] → W p l e room_1 s m #[Value.ref b] below meth c H locs 600000 7300000 Q (F0 m 3161 ls [])) : W p l e room_1 s m #[Value.ref b] below meth c H locs 131 17485 Q (F0 m 1995 ls []) := by
  obtain ⟨hx, hb, hr, hml, hown, htA, hlk⟩ := id hX
  have hK := hE.1
  refine lv_aload_n hx hb dL_law_1995 rfl (lv_at hl 3 rfl) ?_
  refine lv_aload_n hx hb dL_law_1996 rfl (lv_at hl 4 rfl) ?_
  refine lv_iload hx hb dL_law_1997 (lv_at hl 0 rfl) ?_
  refine lv_iconst (v := 1) hx hb dL_law_1999 (by decide) ?_
  refine lv_iadd hx hb dL_law_2000 ?_
  refine lv_topi (fun x1 ex1 => ?_)
  obtain rfl : x1 = 1 := ex1.trans (by decide)
  refine va_sld hx hb hx7 hbl hbA hS (in_lit (by decide)) dL_law_2001 ?_
  refine lv_aload_n hx hb dL_law_2002 rfl (lv_at hl 4 rfl) ?_
  refine lv_iload hx hb dL_law_2003 (lv_at hl 0 rfl) ?_
  refine lv_iconst (v := 2) hx hb dL_law_2005 (by decide) ?_
  refine lv_iadd hx hb dL_law_2006 ?_
  refine lv_topi (fun x2 ex2 => ?_)
  obtain rfl : x2 = 2 := ex2.trans (by decide)
  refine va_sld hx hb hx7 hbl hbA hS (in_lit (by decide)) dL_law_2007 ?_
  refine lv_if_eq (tgt := 2015) hx hb dL_law_2008 (by decide) (fun c3 => ?_) (fun c3 => ?_)
  · refine lv_iconst (v := 0) hx hb dL_law_2015 (by decide) ?_
    refine lv_aload_n hx hb dL_law_2016 rfl (lv_at hl 1 rfl) ?_
    refine kHi (As := [.ref (a 0), .int (xs (1 : Int32).toNatClampNeg), .int 0, .ref (a 300)]) (rest := []) (wr := [((a 200), .inr (11, [.ref (a 201), .ref (a 202), .ref (a 203), .ref (a 204), .int 0, .ref (a 205), .int 0, .int 0, .int 0, .int 0, .int 0, .int 0, .int 0, .int 0, .int 0, .int (-1), .int 0, .int 0, .int 0, .ref (a 206), .ref (a 207), .int 0, .int 0, .ref (a 208), .int 0, .int 0, .int 0, .int 0, .ref (a 209), .ref (a 210), .ref (a 211), .ref (a 212), .ref (a 213), .ref (a 214), .ref (a 215), .int 0, .ref (a 216), .ref (a 217), .ref (a 218)])), ((a 201), .inl (cy 0, 2260, .inl (upd (upd (fun _ => 0) (1 : Int32).toNatClampNeg 1) (2 : Int32).toNatClampNeg 1)))]) hX hE (h_place l hlt D cy a (xs (1 : Int32).toNatClampNeg) 0) (cwHA 4 htA wd_1148 wd_1146 wd_0 wd_1147 (by decide +kernel) ⟨by decide, by decide⟩) hP hD hS [0, 1, 2, 3] [4, 5] rfl rfl (by decide) rfl hl.1 rfl (Nat.le_of_ble_eq_true rfl) dL_law_2017 (by decide) (fun r_ W1 H locs hw hP hD hS => ?_)
    refine W.widen (k := 132) (n := 17491) (by decide) (by decide) ?_
    obtain ⟨rfl, g_, rfl, hv_⟩ := hw
    have hP : va_P D vwCl [((a 200), .inr (11, [.ref (a 201), .ref (a 202), .ref (a 203), .ref (a 204), .int 0, .ref (a 205), .int 0, .int 0, .int 0, .int 0, .int 0, .int 0, .int 0, .int 0, .int 0, .int (-1), .int 0, .int 0, .int 0, .ref (a 206), .ref (a 207), .int 0, .int 0, .ref (a 208), .int 0, .int 0, .int 0, .int 0, .ref (a 209), .ref (a 210), .ref (a 211), .ref (a 212), .ref (a 213), .ref (a 214), .ref (a 215), .int 0, .ref (a 216), .ref (a 217), .ref (a 218)])), ((a 201), .inl (cy 0, 2260, .inl (upd (upd (fun _ => 0) (1 : Int32).toNatClampNeg 1) (2 : Int32).toNatClampNeg 1))), ((a 300), .inl (cy 2, 1, .inr (.inl (g_))))] H := hP
    have hD : va_D A [((a 200), .inr (11, [.ref (a 201), .ref (a 202), .ref (a 203), .ref (a 204), .int 0, .ref (a 205), .int 0, .int 0, .int 0, .int 0, .int 0, .int 0, .int 0, .int 0, .int 0, .int (-1), .int 0, .int 0, .int 0, .ref (a 206), .ref (a 207), .int 0, .int 0, .ref (a 208), .int 0, .int 0, .int 0, .int 0, .ref (a 209), .ref (a 210), .ref (a 211), .ref (a 212), .ref (a 213), .ref (a 214), .ref (a 215), .int 0, .ref (a 216), .ref (a 217), .ref (a 218)])), ((a 201), .inl (cy 0, 2260, .inl (upd (upd (fun _ => 0) (1 : Int32).toNatClampNeg 1) (2 : Int32).toNatClampNeg 1))), ((a 300), .inl (cy 2, 1, .inr (.inl (g_))))] := hD
    refine lv_istore (lv' := [(5, .int (kf_place (xs (1 : Int32).toNatClampNeg) 0)), (4, .int 0), (3, .ref (a 300)), (2, .ref (a 200)), (1, .ref (a 0)), (0, .ref b)]) hx hb dL_law_2020 hl (by decide) rfl (fun ls hl => ?_)
    refine lv_aload_n hx hb dL_law_2022 rfl (lv_at hl 3 rfl) ?_
    refine lv_aload_n hx hb dL_law_2023 rfl (lv_at hl 5 rfl) ?_
    refine lv_iload hx hb dL_law_2024 (lv_at hl 1 rfl) ?_
    refine lv_iconst (v := 1) hx hb dL_law_2026 (by decide) ?_
    refine lv_iadd hx hb dL_law_2027 ?_
    refine lv_topi (fun x4 ex4 => ?_)
    obtain rfl : x4 = 1 := ex4.trans (by decide)
    refine va_sld hx hb hx7 hbl hbA hS (in_lit (by decide)) dL_law_2028 ?_
    refine lv_aload_n hx hb dL_law_2029 rfl (lv_at hl 5 rfl) ?_
    refine lv_iload hx hb dL_law_2030 (lv_at hl 1 rfl) ?_
    refine lv_iconst (v := 2) hx hb dL_law_2032 (by decide) ?_
    refine lv_iadd hx hb dL_law_2033 ?_
    refine lv_topi (fun x5 ex5 => ?_)
    obtain rfl : x5 = 2 := ex5.trans (by decide)
    refine va_sld hx hb hx7 hbl hbA hS (in_lit (by decide)) dL_law_2034 ?_
    refine lv_if_eq (tgt := 2042) hx hb dL_law_2035 (by decide) (fun c6 => ?_) (fun c6 => absurd c3 c6)
    refine lv_iconst (v := 0) hx hb dL_law_2042 (by decide) ?_
    refine kVi (As := [.int (xs (1 : Int32).toNatClampNeg), .int 0]) (rest := []) (wr := [((a 300), .inl (cy 2, 1, .inr (.inl (g_))))]) hX hE (r_place l D cy a (xs (1 : Int32).toNatClampNeg) 0) (cwVA 2 htA wd_1959 wd_1956 wd_10 wd_1957 wd_1958 (by decide +kernel) ⟨by decide, by decide⟩) hP hD hS [0, 1] [2] rfl rfl (by decide) 0 rfl rfl rfl rfl hl.1 rfl (Nat.le_of_ble_eq_true rfl) dL_law_2043 (by decide) (fun r_ W1 H locs hw hP hD hS => ?_)
    refine W.widen (k := 132) (n := 17491) (by decide) (by decide) ?_
    obtain ⟨fs_, rfl, hf_, hr_⟩ := hw
    have hP : va_P D vwCl [((a 300), .inl (cy 2, 1, .inr (.inl (g_)))), ((a 200), .inr (11, fs_))] H := hP
    have hD : va_D A [((a 300), .inl (cy 2, 1, .inr (.inl (g_)))), ((a 200), .inr (11, fs_))] := hD
    refine lv_istore (lv' := [(6, .int r_), (5, .int (kf_place (xs (1 : Int32).toNatClampNeg) 0)), (4, .int 0), (3, .ref (a 300)), (2, .ref (a 200)), (1, .ref (a 0)), (0, .ref b)]) hx hb dL_law_2046 hl (by decide) rfl (fun ls hl => ?_)
    refine lv_aload_n hx hb dL_law_2048 rfl (lv_at hl 4 rfl) ?_
    refine kVi (As := []) (rest := []) (wr := [((a 300), .inl (cy 2, 1, .inr (.inl (g_))))]) hX hE (r_thrown l D cy a fs_ (kf_place (xs (1 : Int32).toNatClampNeg) 0) hf_) (cwVA 0 htA wd_1476 wd_1473 wd_10 wd_1474 wd_1475 (by decide +kernel) ⟨by decide, by decide⟩) hP hD hS [1] [0] rfl rfl (by decide) 0 rfl rfl rfl rfl hl.1 rfl (Nat.le_of_ble_eq_true rfl) dL_law_2049 (by decide) (fun r_ W1 H locs hw hP hD hS => ?_)
    refine W.widen (k := 132) (n := 17491) (by decide) (by decide) ?_
    have hP : va_P D vwCl [((a 300), .inl (cy 2, 1, .inr (.inl (g_))))] H := hP.sub [0] rfl
    have hD : va_D A [((a 300), .inl (cy 2, 1, .inr (.inl (g_))))] := hD.sub [0] (by rfl) rfl
    obtain rfl := hw
    have hP : va_P D vwCl [((a 300), .inl (cy 2, 1, .inr (.inl (g_))))] H := hP
    have hD : va_D A [((a 300), .inl (cy 2, 1, .inr (.inl (g_))))] := hD
    refine lv_iload hx hb dL_law_2052 (lv_at hl 1 rfl) ?_
    refine lv_icmp_eq (tgt := 2059) hx hb dL_law_2054 (by decide) (fun _ => ?_) (fun q => absurd rfl q)
    refine lv_iload hx hb dL_law_2059 (lv_at hl 1 rfl) ?_
    refine lv_if_ne (tgt := 2076) hx hb dL_law_2061 (by decide) (fun c7 => ?_) (fun c7 => ?_)
    · refine lv_goto (tgt := 3161) hx hb dL_law_2076 (by decide) ?_
      exact W.widen (k := 600000) (n := 7300000) (Nat.le_of_ble_eq_true rfl) (Nat.le_of_ble_eq_true rfl) (kk H locs ls hS (lv_sub hl [2, 6] rfl))
    · refine lv_aload_n hx hb dL_law_2064 rfl (lv_at hl 3 rfl) ?_
      refine lv_iconst (v := 0) hx hb dL_law_2065 (by decide) ?_
      refine va_lald hx hb hK hP 0 2 rfl rfl (in_lit (by decide)) dL_law_2066 ?_
      refine lv_iload hx hb dL_law_2067 (lv_at hl 0 rfl) ?_
      refine lv_i2l hx hb dL_law_2069 rfl ?_
      refine W.lcmp hx hb dL_law_2070 ?_
      refine lv_if_eq (tgt := 2076) hx hb dL_law_2071 (by decide) (fun _ => ?_) (fun q => absurd (lgs ((hv_ c7).trans (hr_ c7).symm)) q)
      refine lv_goto (tgt := 3161) hx hb dL_law_2076 (by decide) ?_
      exact W.widen (k := 600000) (n := 7300000) (Nat.le_of_ble_eq_true rfl) (Nat.le_of_ble_eq_true rfl) (kk H locs ls hS (lv_sub hl [2, 6] rfl))
  · refine lv_iconst (v := 1) hx hb dL_law_2011 (by decide) ?_
    refine lv_goto (tgt := 2016) hx hb dL_law_2012 (by decide) ?_
    refine lv_aload_n hx hb dL_law_2016 rfl (lv_at hl 1 rfl) ?_
    refine kHi (As := [.ref (a 0), .int (xs (1 : Int32).toNatClampNeg), .int 1, .ref (a 300)]) (rest := []) (wr := [((a 200), .inr (11, [.ref (a 201), .ref (a 202), .ref (a 203), .ref (a 204), .int 0, .ref (a 205), .int 0, .int 0, .int 0, .int 0, .int 0, .int 0, .int 0, .int 0, .int 0, .int (-1), .int 0, .int 0, .int 0, .ref (a 206), .ref (a 207), .int 0, .int 0, .ref (a 208), .int 0, .int 0, .int 0, .int 0, .ref (a 209), .ref (a 210), .ref (a 211), .ref (a 212), .ref (a 213), .ref (a 214), .ref (a 215), .int 0, .ref (a 216), .ref (a 217), .ref (a 218)])), ((a 201), .inl (cy 0, 2260, .inl (upd (upd (fun _ => 0) (1 : Int32).toNatClampNeg 1) (2 : Int32).toNatClampNeg 1)))]) hX hE (h_place l hlt D cy a (xs (1 : Int32).toNatClampNeg) 1) (cwHA 4 htA wd_1148 wd_1146 wd_0 wd_1147 (by decide +kernel) ⟨by decide, by decide⟩) hP hD hS [0, 1, 2, 3] [4, 5] rfl rfl (by decide) rfl hl.1 rfl (Nat.le_of_ble_eq_true rfl) dL_law_2017 (by decide) (fun r_ W1 H locs hw hP hD hS => ?_)
    refine W.widen (k := 132) (n := 17491) (by decide) (by decide) ?_
    obtain ⟨rfl, g_, rfl, hv_⟩ := hw
    have hP : va_P D vwCl [((a 200), .inr (11, [.ref (a 201), .ref (a 202), .ref (a 203), .ref (a 204), .int 0, .ref (a 205), .int 0, .int 0, .int 0, .int 0, .int 0, .int 0, .int 0, .int 0, .int 0, .int (-1), .int 0, .int 0, .int 0, .ref (a 206), .ref (a 207), .int 0, .int 0, .ref (a 208), .int 0, .int 0, .int 0, .int 0, .ref (a 209), .ref (a 210), .ref (a 211), .ref (a 212), .ref (a 213), .ref (a 214), .ref (a 215), .int 0, .ref (a 216), .ref (a 217), .ref (a 218)])), ((a 201), .inl (cy 0, 2260, .inl (upd (upd (fun _ => 0) (1 : Int32).toNatClampNeg 1) (2 : Int32).toNatClampNeg 1))), ((a 300), .inl (cy 2, 1, .inr (.inl (g_))))] H := hP
    have hD : va_D A [((a 200), .inr (11, [.ref (a 201), .ref (a 202), .ref (a 203), .ref (a 204), .int 0, .ref (a 205), .int 0, .int 0, .int 0, .int 0, .int 0, .int 0, .int 0, .int 0, .int 0, .int (-1), .int 0, .int 0, .int 0, .ref (a 206), .ref (a 207), .int 0, .int 0, .ref (a 208), .int 0, .int 0, .int 0, .int 0, .ref (a 209), .ref (a 210), .ref (a 211), .ref (a 212), .ref (a 213), .ref (a 214), .ref (a 215), .int 0, .ref (a 216), .ref (a 217), .ref (a 218)])), ((a 201), .inl (cy 0, 2260, .inl (upd (upd (fun _ => 0) (1 : Int32).toNatClampNeg 1) (2 : Int32).toNatClampNeg 1))), ((a 300), .inl (cy 2, 1, .inr (.inl (g_))))] := hD
    refine lv_istore (lv' := [(5, .int (kf_place (xs (1 : Int32).toNatClampNeg) 1)), (4, .int 0), (3, .ref (a 300)), (2, .ref (a 200)), (1, .ref (a 0)), (0, .ref b)]) hx hb dL_law_2020 hl (by decide) rfl (fun ls hl => ?_)
    refine lv_aload_n hx hb dL_law_2022 rfl (lv_at hl 3 rfl) ?_
    refine lv_aload_n hx hb dL_law_2023 rfl (lv_at hl 5 rfl) ?_
    refine lv_iload hx hb dL_law_2024 (lv_at hl 1 rfl) ?_
    refine lv_iconst (v := 1) hx hb dL_law_2026 (by decide) ?_
    refine lv_iadd hx hb dL_law_2027 ?_
    refine lv_topi (fun x9 ex9 => ?_)
    obtain rfl : x9 = 1 := ex9.trans (by decide)
    refine va_sld hx hb hx7 hbl hbA hS (in_lit (by decide)) dL_law_2028 ?_
    refine lv_aload_n hx hb dL_law_2029 rfl (lv_at hl 5 rfl) ?_
    refine lv_iload hx hb dL_law_2030 (lv_at hl 1 rfl) ?_
    refine lv_iconst (v := 2) hx hb dL_law_2032 (by decide) ?_
    refine lv_iadd hx hb dL_law_2033 ?_
    refine lv_topi (fun x10 ex10 => ?_)
    obtain rfl : x10 = 2 := ex10.trans (by decide)
    refine va_sld hx hb hx7 hbl hbA hS (in_lit (by decide)) dL_law_2034 ?_
    refine lv_if_eq (tgt := 2042) hx hb dL_law_2035 (by decide) (fun c11 => absurd c11 c3) (fun c11 => ?_)
    refine lv_iconst (v := 1) hx hb dL_law_2038 (by decide) ?_
    refine lv_goto (tgt := 2043) hx hb dL_law_2039 (by decide) ?_
    refine kVi (As := [.int (xs (1 : Int32).toNatClampNeg), .int 1]) (rest := []) (wr := [((a 300), .inl (cy 2, 1, .inr (.inl (g_))))]) hX hE (r_place l D cy a (xs (1 : Int32).toNatClampNeg) 1) (cwVA 2 htA wd_1959 wd_1956 wd_10 wd_1957 wd_1958 (by decide +kernel) ⟨by decide, by decide⟩) hP hD hS [0, 1] [2] rfl rfl (by decide) 0 rfl rfl rfl rfl hl.1 rfl (Nat.le_of_ble_eq_true rfl) dL_law_2043 (by decide) (fun r_ W1 H locs hw hP hD hS => ?_)
    refine W.widen (k := 132) (n := 17491) (by decide) (by decide) ?_
    obtain ⟨fs_, rfl, hf_, hr_⟩ := hw
    have hP : va_P D vwCl [((a 300), .inl (cy 2, 1, .inr (.inl (g_)))), ((a 200), .inr (11, fs_))] H := hP
    have hD : va_D A [((a 300), .inl (cy 2, 1, .inr (.inl (g_)))), ((a 200), .inr (11, fs_))] := hD
    refine lv_istore (lv' := [(6, .int r_), (5, .int (kf_place (xs (1 : Int32).toNatClampNeg) 1)), (4, .int 0), (3, .ref (a 300)), (2, .ref (a 200)), (1, .ref (a 0)), (0, .ref b)]) hx hb dL_law_2046 hl (by decide) rfl (fun ls hl => ?_)
    refine lv_aload_n hx hb dL_law_2048 rfl (lv_at hl 4 rfl) ?_
    refine kVi (As := []) (rest := []) (wr := [((a 300), .inl (cy 2, 1, .inr (.inl (g_))))]) hX hE (r_thrown l D cy a fs_ (kf_place (xs (1 : Int32).toNatClampNeg) 1) hf_) (cwVA 0 htA wd_1476 wd_1473 wd_10 wd_1474 wd_1475 (by decide +kernel) ⟨by decide, by decide⟩) hP hD hS [1] [0] rfl rfl (by decide) 0 rfl rfl rfl rfl hl.1 rfl (Nat.le_of_ble_eq_true rfl) dL_law_2049 (by decide) (fun r_ W1 H locs hw hP hD hS => ?_)
    refine W.widen (k := 132) (n := 17491) (by decide) (by decide) ?_
    have hP : va_P D vwCl [((a 300), .inl (cy 2, 1, .inr (.inl (g_))))] H := hP.sub [0] rfl
    have hD : va_D A [((a 300), .inl (cy 2, 1, .inr (.inl (g_))))] := hD.sub [0] (by rfl) rfl
    obtain rfl := hw
    have hP : va_P D vwCl [((a 300), .inl (cy 2, 1, .inr (.inl (g_))))] H := hP
    have hD : va_D A [((a 300), .inl (cy 2, 1, .inr (.inl (g_))))] := hD
    refine lv_iload hx hb dL_law_2052 (lv_at hl 1 rfl) ?_
    refine lv_icmp_eq (tgt := 2059) hx hb dL_law_2054 (by decide) (fun _ => ?_) (fun q => absurd rfl q)
    refine lv_iload hx hb dL_law_2059 (lv_at hl 1 rfl) ?_
    refine lv_if_ne (tgt := 2076) hx hb dL_law_2061 (by decide) (fun c12 => ?_) (fun c12 => ?_)
    · refine lv_goto (tgt := 3161) hx hb dL_law_2076 (by decide) ?_
      exact W.widen (k := 600000) (n := 7300000) (Nat.le_of_ble_eq_true rfl) (Nat.le_of_ble_eq_true rfl) (kk H locs ls hS (lv_sub hl [2, 6] rfl))
    · refine lv_aload_n hx hb dL_law_2064 rfl (lv_at hl 3 rfl) ?_
      refine lv_iconst (v := 0) hx hb dL_law_2065 (by decide) ?_
      refine va_lald hx hb hK hP 0 2 rfl rfl (in_lit (by decide)) dL_law_2066 ?_
      refine lv_iload hx hb dL_law_2067 (lv_at hl 0 rfl) ?_
      refine lv_i2l hx hb dL_law_2069 rfl ?_
      refine W.lcmp hx hb dL_law_2070 ?_
      refine lv_if_eq (tgt := 2076) hx hb dL_law_2071 (by decide) (fun _ => ?_) (fun q => absurd (lgs ((hv_ c12).trans (hr_ c12).symm)) q)
      refine lv_goto (tgt := 3161) hx hb dL_law_2076 (by decide) ?_
      exact W.widen (k := 600000) (n := 7300000) (Nat.le_of_ble_eq_true rfl) (Nat.le_of_ble_eq_true rfl) (kk H locs ls hS (lv_sub hl [2, 6] rfl))
set_option maxHeartbeats 4000000 in
set_option maxRecDepth 100000 in
theorem cs_31 (l : Launch) (hlt : l.stackTraces = false) {p : Program} {e : Env} {s : State} {m : MethodId} {below : List Frame} {meth : Method} {c : Code} {D : va_G} {cy : Nat → ClassId} {A : Nat → Prop} {b : Nat} {xs : Nat → Int32} {H : Heap} {locs : List Loc} {ls : Array Slot} {Q : State → Prop} (a : Nat → Nat) (hX : Ex p s m #[Value.ref b] meth c code ret 8 RL) (hE : Ew D cy A s) (hx7 : va_X b 7 xs s s.heap) (hbl : b < s.heap.size) (hbA : ¬ A b) (hP : va_P D vwCl [((a 0), .inr (10, [.ref (a 1), .int 0, .int 0, .int (-1), .ref (a 2), .ref (a 3), .ref (a 4), .ref (a 5), .ref (a 6), .ref (a 7), .ref (a 8), .ref (a 9), .int 0])), ((a 3), .inr (6, [.ref (a 10), .int 0, .ref (a 21), .ref (a 22), .ref (a 23), .ref (a 24), .ref (a 25), .int 0])), ((a 10), .inr (0, [.int 0, .int 1, .int 1, .int 0, .int 0, .ref (a 11), .ref (a 12), .ref (a 13), .null, .null])), ((a 300), .inl (cy 2, 1, .inr (.inl (fun _ => 0)))), ((a 200), .inr (11, [.ref (a 201), .ref (a 202), .ref (a 203), .ref (a 204), .int 0, .ref (a 205), .int 0, .int 0, .int 0, .int 0, .int 0, .int 0, .int 0, .int 0, .int 0, .int (-1), .int 0, .int 0, .int 0, .ref (a 206), .ref (a 207), .int 0, .int 0, .ref (a 208), .int 0, .int 0, .int 0, .int 0, .ref (a 209), .ref (a 210), .ref (a 211), .ref (a 212), .ref (a 213), .ref (a 214), .ref (a 215), .int 0, .ref (a 216), .ref (a 217), .ref (a 218)])), ((a 201), .inl (cy 0, 2260, .inl (upd (upd (fun _ => 0) (1 : Int32).toNatClampNeg 1) (2 : Int32).toNatClampNeg 1)))] H) (hD : va_D A [((a 0), .inr (10, [.ref (a 1), .int 0, .int 0, .int (-1), .ref (a 2), .ref (a 3), .ref (a 4), .ref (a 5), .ref (a 6), .ref (a 7), .ref (a 8), .ref (a 9), .int 0])), ((a 3), .inr (6, [.ref (a 10), .int 0, .ref (a 21), .ref (a 22), .ref (a 23), .ref (a 24), .ref (a 25), .int 0])), ((a 10), .inr (0, [.int 0, .int 1, .int 1, .int 0, .int 0, .ref (a 11), .ref (a 12), .ref (a 13), .null, .null])), ((a 300), .inl (cy 2, 1, .inr (.inl (fun _ => 0)))), ((a 200), .inr (11, [.ref (a 201), .ref (a 202), .ref (a 203), .ref (a 204), .int 0, .ref (a 205), .int 0, .int 0, .int 0, .int 0, .int 0, .int 0, .int 0, .int 0, .int 0, .int (-1), .int 0, .int 0, .int 0, .ref (a 206), .ref (a 207), .int 0, .int 0, .ref (a 208), .int 0, .int 0, .int 0, .int 0, .ref (a 209), .ref (a 210), .ref (a 211), .ref (a 212), .ref (a 213), .ref (a 214), .ref (a 215), .int 0, .ref (a 216), .ref (a 217), .ref (a 218)])), ((a 201), .inl (cy 0, 2260, .inl (upd (upd (fun _ => 0) (1 : Int32).toNatClampNeg 1) (2 : Int32).toNatClampNeg 1)))]) (hS : va_S A s.heap H locs) (hl : lv_has ls 8 [(4, .int 0), (3, .ref (a 300)), (2, .ref (a 200)), (1, .ref (a 0)), (0, .ref b)]) (kk : ∀ (H : Heap) (locs : List Loc) (ls : Array Slot), va_S A s.heap H locs → lv_has ls 8 [(4, .int 0), (0, .ref b)] → W p l e room_1 s m #[Value.ref b] below meth c H locs 600000 7300000 Q (F0 m 3161 ls [])) : W p l e room_1 s m #[Value.ref b] below meth c H locs 131 17485 Q (F0 m 2079 ls []) := by
  obtain ⟨hx, hb, hr, hml, hown, htA, hlk⟩ := id hX
  have hK := hE.1
  refine lv_aload_n hx hb dL_law_2079 rfl (lv_at hl 3 rfl) ?_
  refine lv_aload_n hx hb dL_law_2080 rfl (lv_at hl 4 rfl) ?_
  refine lv_iload hx hb dL_law_2081 (lv_at hl 0 rfl) ?_
  refine lv_iconst (v := 1) hx hb dL_law_2083 (by decide) ?_
  refine lv_iadd hx hb dL_law_2084 ?_
  refine lv_topi (fun x1 ex1 => ?_)
  obtain rfl : x1 = 1 := ex1.trans (by decide)
  refine va_sld hx hb hx7 hbl hbA hS (in_lit (by decide)) dL_law_2085 ?_
  refine lv_aload_n hx hb dL_law_2086 rfl (lv_at hl 4 rfl) ?_
  refine lv_iload hx hb dL_law_2087 (lv_at hl 0 rfl) ?_
  refine lv_iconst (v := 2) hx hb dL_law_2089 (by decide) ?_
  refine lv_iadd hx hb dL_law_2090 ?_
  refine lv_topi (fun x2 ex2 => ?_)
  obtain rfl : x2 = 2 := ex2.trans (by decide)
  refine va_sld hx hb hx7 hbl hbA hS (in_lit (by decide)) dL_law_2091 ?_
  refine lv_aload_n hx hb dL_law_2092 rfl (lv_at hl 1 rfl) ?_
  refine kHi (As := [.ref (a 0), .int (xs (1 : Int32).toNatClampNeg), .int (xs (2 : Int32).toNatClampNeg), .ref (a 300)]) (rest := []) (wr := [((a 200), .inr (11, [.ref (a 201), .ref (a 202), .ref (a 203), .ref (a 204), .int 0, .ref (a 205), .int 0, .int 0, .int 0, .int 0, .int 0, .int 0, .int 0, .int 0, .int 0, .int (-1), .int 0, .int 0, .int 0, .ref (a 206), .ref (a 207), .int 0, .int 0, .ref (a 208), .int 0, .int 0, .int 0, .int 0, .ref (a 209), .ref (a 210), .ref (a 211), .ref (a 212), .ref (a 213), .ref (a 214), .ref (a 215), .int 0, .ref (a 216), .ref (a 217), .ref (a 218)])), ((a 201), .inl (cy 0, 2260, .inl (upd (upd (fun _ => 0) (1 : Int32).toNatClampNeg 1) (2 : Int32).toNatClampNeg 1)))]) hX hE (h_worst l hlt D cy a (xs (1 : Int32).toNatClampNeg) (xs (2 : Int32).toNatClampNeg)) (cwHA 4 htA wd_1155 wd_1153 wd_0 wd_1154 (by decide +kernel) ⟨by decide, by decide⟩) hP hD hS [0, 1, 2, 3] [4, 5] rfl rfl (by decide) rfl hl.1 rfl (Nat.le_of_ble_eq_true rfl) dL_law_2093 (by decide) (fun r_ W1 H locs hw hP hD hS => ?_)
  refine W.widen (k := 132) (n := 17491) (by decide) (by decide) ?_
  obtain ⟨rfl, g_, rfl, hv_⟩ := hw
  have hP : va_P D vwCl [((a 200), .inr (11, [.ref (a 201), .ref (a 202), .ref (a 203), .ref (a 204), .int 0, .ref (a 205), .int 0, .int 0, .int 0, .int 0, .int 0, .int 0, .int 0, .int 0, .int 0, .int (-1), .int 0, .int 0, .int 0, .ref (a 206), .ref (a 207), .int 0, .int 0, .ref (a 208), .int 0, .int 0, .int 0, .int 0, .ref (a 209), .ref (a 210), .ref (a 211), .ref (a 212), .ref (a 213), .ref (a 214), .ref (a 215), .int 0, .ref (a 216), .ref (a 217), .ref (a 218)])), ((a 201), .inl (cy 0, 2260, .inl (upd (upd (fun _ => 0) (1 : Int32).toNatClampNeg 1) (2 : Int32).toNatClampNeg 1))), ((a 300), .inl (cy 2, 1, .inr (.inl (g_))))] H := hP
  have hD : va_D A [((a 200), .inr (11, [.ref (a 201), .ref (a 202), .ref (a 203), .ref (a 204), .int 0, .ref (a 205), .int 0, .int 0, .int 0, .int 0, .int 0, .int 0, .int 0, .int 0, .int 0, .int (-1), .int 0, .int 0, .int 0, .ref (a 206), .ref (a 207), .int 0, .int 0, .ref (a 208), .int 0, .int 0, .int 0, .int 0, .ref (a 209), .ref (a 210), .ref (a 211), .ref (a 212), .ref (a 213), .ref (a 214), .ref (a 215), .int 0, .ref (a 216), .ref (a 217), .ref (a 218)])), ((a 201), .inl (cy 0, 2260, .inl (upd (upd (fun _ => 0) (1 : Int32).toNatClampNeg 1) (2 : Int32).toNatClampNeg 1))), ((a 300), .inl (cy 2, 1, .inr (.inl (g_))))] := hD
  refine lv_istore (lv' := [(5, .int (kf_worst (xs (1 : Int32).toNatClampNeg) (xs (2 : Int32).toNatClampNeg))), (4, .int 0), (3, .ref (a 300)), (2, .ref (a 200)), (1, .ref (a 0)), (0, .ref b)]) hx hb dL_law_2096 hl (by decide) rfl (fun ls hl => ?_)
  refine lv_aload_n hx hb dL_law_2098 rfl (lv_at hl 3 rfl) ?_
  refine lv_aload_n hx hb dL_law_2099 rfl (lv_at hl 5 rfl) ?_
  refine lv_iload hx hb dL_law_2100 (lv_at hl 1 rfl) ?_
  refine lv_iconst (v := 1) hx hb dL_law_2102 (by decide) ?_
  refine lv_iadd hx hb dL_law_2103 ?_
  refine lv_topi (fun x3 ex3 => ?_)
  obtain rfl : x3 = 1 := ex3.trans (by decide)
  refine va_sld hx hb hx7 hbl hbA hS (in_lit (by decide)) dL_law_2104 ?_
  refine lv_aload_n hx hb dL_law_2105 rfl (lv_at hl 5 rfl) ?_
  refine lv_iload hx hb dL_law_2106 (lv_at hl 1 rfl) ?_
  refine lv_iconst (v := 2) hx hb dL_law_2108 (by decide) ?_
  refine lv_iadd hx hb dL_law_2109 ?_
  refine lv_topi (fun x4 ex4 => ?_)
  obtain rfl : x4 = 2 := ex4.trans (by decide)
  refine va_sld hx hb hx7 hbl hbA hS (in_lit (by decide)) dL_law_2110 ?_
  refine kVi (As := [.int (xs (1 : Int32).toNatClampNeg), .int (xs (2 : Int32).toNatClampNeg)]) (rest := []) (wr := [((a 300), .inl (cy 2, 1, .inr (.inl (g_))))]) hX hE (r_worst l D cy a (xs (1 : Int32).toNatClampNeg) (xs (2 : Int32).toNatClampNeg)) (cwVA 2 htA wd_1963 wd_1960 wd_10 wd_1961 wd_1962 (by decide +kernel) ⟨by decide, by decide⟩) hP hD hS [0, 1] [2] rfl rfl (by decide) 0 rfl rfl rfl rfl hl.1 rfl (Nat.le_of_ble_eq_true rfl) dL_law_2111 (by decide) (fun r_ W1 H locs hw hP hD hS => ?_)
  refine W.widen (k := 132) (n := 17491) (by decide) (by decide) ?_
  obtain ⟨fs_, rfl, hf_, hr_⟩ := hw
  have hP : va_P D vwCl [((a 300), .inl (cy 2, 1, .inr (.inl (g_)))), ((a 200), .inr (11, fs_))] H := hP
  have hD : va_D A [((a 300), .inl (cy 2, 1, .inr (.inl (g_)))), ((a 200), .inr (11, fs_))] := hD
  refine lv_istore (lv' := [(6, .int r_), (5, .int (kf_worst (xs (1 : Int32).toNatClampNeg) (xs (2 : Int32).toNatClampNeg))), (4, .int 0), (3, .ref (a 300)), (2, .ref (a 200)), (1, .ref (a 0)), (0, .ref b)]) hx hb dL_law_2114 hl (by decide) rfl (fun ls hl => ?_)
  refine lv_aload_n hx hb dL_law_2116 rfl (lv_at hl 4 rfl) ?_
  refine kVi (As := []) (rest := []) (wr := [((a 300), .inl (cy 2, 1, .inr (.inl (g_))))]) hX hE (r_thrown l D cy a fs_ (kf_worst (xs (1 : Int32).toNatClampNeg) (xs (2 : Int32).toNatClampNeg)) hf_) (cwVA 0 htA wd_1476 wd_1473 wd_10 wd_1474 wd_1475 (by decide +kernel) ⟨by decide, by decide⟩) hP hD hS [1] [0] rfl rfl (by decide) 0 rfl rfl rfl rfl hl.1 rfl (Nat.le_of_ble_eq_true rfl) dL_law_2117 (by decide) (fun r_ W1 H locs hw hP hD hS => ?_)
  refine W.widen (k := 132) (n := 17491) (by decide) (by decide) ?_
  have hP : va_P D vwCl [((a 300), .inl (cy 2, 1, .inr (.inl (g_))))] H := hP.sub [0] rfl
  have hD : va_D A [((a 300), .inl (cy 2, 1, .inr (.inl (g_))))] := hD.sub [0] (by rfl) rfl
  obtain rfl := hw
  have hP : va_P D vwCl [((a 300), .inl (cy 2, 1, .inr (.inl (g_))))] H := hP
  have hD : va_D A [((a 300), .inl (cy 2, 1, .inr (.inl (g_))))] := hD
  refine lv_iload hx hb dL_law_2120 (lv_at hl 1 rfl) ?_
  refine lv_icmp_eq (tgt := 2127) hx hb dL_law_2122 (by decide) (fun _ => ?_) (fun q => absurd rfl q)
  refine lv_iload hx hb dL_law_2127 (lv_at hl 1 rfl) ?_
  refine lv_if_ne (tgt := 2144) hx hb dL_law_2129 (by decide) (fun c5 => ?_) (fun c5 => ?_)
  · refine lv_goto (tgt := 3161) hx hb dL_law_2144 (by decide) ?_
    exact W.widen (k := 600000) (n := 7300000) (Nat.le_of_ble_eq_true rfl) (Nat.le_of_ble_eq_true rfl) (kk H locs ls hS (lv_sub hl [2, 6] rfl))
  · refine lv_aload_n hx hb dL_law_2132 rfl (lv_at hl 3 rfl) ?_
    refine lv_iconst (v := 0) hx hb dL_law_2133 (by decide) ?_
    refine va_lald hx hb hK hP 0 2 rfl rfl (in_lit (by decide)) dL_law_2134 ?_
    refine lv_iload hx hb dL_law_2135 (lv_at hl 0 rfl) ?_
    refine lv_i2l hx hb dL_law_2137 rfl ?_
    refine W.lcmp hx hb dL_law_2138 ?_
    refine lv_if_eq (tgt := 2144) hx hb dL_law_2139 (by decide) (fun _ => ?_) (fun q => absurd (lgs ((hv_ c5).trans (hr_ c5).symm)) q)
    refine lv_goto (tgt := 3161) hx hb dL_law_2144 (by decide) ?_
    exact W.widen (k := 600000) (n := 7300000) (Nat.le_of_ble_eq_true rfl) (Nat.le_of_ble_eq_true rfl) (kk H locs ls hS (lv_sub hl [2, 6] rfl))
set_option maxHeartbeats 4000000 in
set_option maxRecDepth 100000 in
theorem cs_32 (l : Launch) (hlt : l.stackTraces = false) {p : Program} {e : Env} {s : State} {m : MethodId} {below : List Frame} {meth : Method} {c : Code} {D : va_G} {cy : Nat → ClassId} {A : Nat → Prop} {b : Nat} {xs : Nat → Int32} {H : Heap} {locs : List Loc} {ls : Array Slot} {Q : State → Prop} (a : Nat → Nat) (hX : Ex p s m #[Value.ref b] meth c code ret 8 RL) (hE : Ew D cy A s) (hx7 : va_X b 7 xs s s.heap) (hbl : b < s.heap.size) (hbA : ¬ A b) (hP : va_P D vwCl [((a 0), .inr (10, [.ref (a 1), .int 0, .int 0, .int (-1), .ref (a 2), .ref (a 3), .ref (a 4), .ref (a 5), .ref (a 6), .ref (a 7), .ref (a 8), .ref (a 9), .int 0])), ((a 3), .inr (6, [.ref (a 10), .int 0, .ref (a 21), .ref (a 22), .ref (a 23), .ref (a 24), .ref (a 25), .int 0])), ((a 10), .inr (0, [.int 0, .int 1, .int 1, .int 0, .int 0, .ref (a 11), .ref (a 12), .ref (a 13), .null, .null])), ((a 300), .inl (cy 2, 1, .inr (.inl (fun _ => 0)))), ((a 200), .inr (11, [.ref (a 201), .ref (a 202), .ref (a 203), .ref (a 204), .int 0, .ref (a 205), .int 0, .int 0, .int 0, .int 0, .int 0, .int 0, .int 0, .int 0, .int 0, .int (-1), .int 0, .int 0, .int 0, .ref (a 206), .ref (a 207), .int 0, .int 0, .ref (a 208), .int 0, .int 0, .int 0, .int 0, .ref (a 209), .ref (a 210), .ref (a 211), .ref (a 212), .ref (a 213), .ref (a 214), .ref (a 215), .int 0, .ref (a 216), .ref (a 217), .ref (a 218)])), ((a 201), .inl (cy 0, 2260, .inl (upd (upd (fun _ => 0) (1 : Int32).toNatClampNeg 1) (2 : Int32).toNatClampNeg 1)))] H) (hD : va_D A [((a 0), .inr (10, [.ref (a 1), .int 0, .int 0, .int (-1), .ref (a 2), .ref (a 3), .ref (a 4), .ref (a 5), .ref (a 6), .ref (a 7), .ref (a 8), .ref (a 9), .int 0])), ((a 3), .inr (6, [.ref (a 10), .int 0, .ref (a 21), .ref (a 22), .ref (a 23), .ref (a 24), .ref (a 25), .int 0])), ((a 10), .inr (0, [.int 0, .int 1, .int 1, .int 0, .int 0, .ref (a 11), .ref (a 12), .ref (a 13), .null, .null])), ((a 300), .inl (cy 2, 1, .inr (.inl (fun _ => 0)))), ((a 200), .inr (11, [.ref (a 201), .ref (a 202), .ref (a 203), .ref (a 204), .int 0, .ref (a 205), .int 0, .int 0, .int 0, .int 0, .int 0, .int 0, .int 0, .int 0, .int 0, .int (-1), .int 0, .int 0, .int 0, .ref (a 206), .ref (a 207), .int 0, .int 0, .ref (a 208), .int 0, .int 0, .int 0, .int 0, .ref (a 209), .ref (a 210), .ref (a 211), .ref (a 212), .ref (a 213), .ref (a 214), .ref (a 215), .int 0, .ref (a 216), .ref (a 217), .ref (a 218)])), ((a 201), .inl (cy 0, 2260, .inl (upd (upd (fun _ => 0) (1 : Int32).toNatClampNeg 1) (2 : Int32).toNatClampNeg 1)))]) (hS : va_S A s.heap H locs) (hl : lv_has ls 8 [(4, .int 0), (3, .ref (a 300)), (2, .ref (a 200)), (1, .ref (a 0)), (0, .ref b)]) (kk : ∀ (H : Heap) (locs : List Loc) (ls : Array Slot), va_S A s.heap H locs → lv_has ls 8 [(4, .int 0), (0, .ref b)] → W p l e room_1 s m #[Value.ref b] below meth c H locs 600000 7300000 Q (F0 m 3161 ls [])) : W p l e room_1 s m #[Value.ref b] below meth c H locs 131 17485 Q (F0 m 2147 ls []) := by
  obtain ⟨hx, hb, hr, hml, hown, htA, hlk⟩ := id hX
  have hK := hE.1
  refine lv_aload_n hx hb dL_law_2147 rfl (lv_at hl 3 rfl) ?_
  refine lv_aload_n hx hb dL_law_2148 rfl (lv_at hl 4 rfl) ?_
  refine lv_iload hx hb dL_law_2149 (lv_at hl 0 rfl) ?_
  refine lv_iconst (v := 1) hx hb dL_law_2151 (by decide) ?_
  refine lv_iadd hx hb dL_law_2152 ?_
  refine lv_topi (fun x1 ex1 => ?_)
  obtain rfl : x1 = 1 := ex1.trans (by decide)
  refine va_sld hx hb hx7 hbl hbA hS (in_lit (by decide)) dL_law_2153 ?_
  refine lv_aload_n hx hb dL_law_2154 rfl (lv_at hl 4 rfl) ?_
  refine lv_iload hx hb dL_law_2155 (lv_at hl 0 rfl) ?_
  refine lv_iconst (v := 2) hx hb dL_law_2157 (by decide) ?_
  refine lv_iadd hx hb dL_law_2158 ?_
  refine lv_topi (fun x2 ex2 => ?_)
  obtain rfl : x2 = 2 := ex2.trans (by decide)
  refine va_sld hx hb hx7 hbl hbA hS (in_lit (by decide)) dL_law_2159 ?_
  refine lv_aload_n hx hb dL_law_2160 rfl (lv_at hl 4 rfl) ?_
  refine lv_iload hx hb dL_law_2161 (lv_at hl 0 rfl) ?_
  refine lv_iconst (v := 3) hx hb dL_law_2163 (by decide) ?_
  refine lv_iadd hx hb dL_law_2164 ?_
  refine lv_topi (fun x3 ex3 => ?_)
  obtain rfl : x3 = 3 := ex3.trans (by decide)
  refine va_sld hx hb hx7 hbl hbA hS (in_lit (by decide)) dL_law_2165 ?_
  refine lv_aload_n hx hb dL_law_2166 rfl (lv_at hl 4 rfl) ?_
  refine lv_iload hx hb dL_law_2167 (lv_at hl 0 rfl) ?_
  refine lv_iconst (v := 4) hx hb dL_law_2169 (by decide) ?_
  refine lv_iadd hx hb dL_law_2170 ?_
  refine lv_topi (fun x4 ex4 => ?_)
  obtain rfl : x4 = 4 := ex4.trans (by decide)
  refine va_sld hx hb hx7 hbl hbA hS (in_lit (by decide)) dL_law_2171 ?_
  refine lv_aload_n hx hb dL_law_2172 rfl (lv_at hl 4 rfl) ?_
  refine lv_iload hx hb dL_law_2173 (lv_at hl 0 rfl) ?_
  refine lv_iconst (v := 5) hx hb dL_law_2175 (by decide) ?_
  refine lv_iadd hx hb dL_law_2176 ?_
  refine lv_topi (fun x5 ex5 => ?_)
  obtain rfl : x5 = 5 := ex5.trans (by decide)
  refine va_sld hx hb hx7 hbl hbA hS (in_lit (by decide)) dL_law_2177 ?_
  refine lv_aload_n hx hb dL_law_2178 rfl (lv_at hl 4 rfl) ?_
  refine lv_iload hx hb dL_law_2179 (lv_at hl 0 rfl) ?_
  refine lv_bipush (v := 6) hx hb dL_law_2181 (by decide) ?_
  refine lv_iadd hx hb dL_law_2183 ?_
  refine lv_topi (fun x6 ex6 => ?_)
  obtain rfl : x6 = 6 := ex6.trans (by decide)
  refine va_sld hx hb hx7 hbl hbA hS (in_lit (by decide)) dL_law_2184 ?_
  refine lv_aload_n hx hb dL_law_2185 rfl (lv_at hl 1 rfl) ?_
  refine kHi (As := [.ref (a 0), .int (xs (1 : Int32).toNatClampNeg), .int (xs (2 : Int32).toNatClampNeg), .int (xs (3 : Int32).toNatClampNeg), .int (xs (4 : Int32).toNatClampNeg), .int (xs (5 : Int32).toNatClampNeg), .int (xs (6 : Int32).toNatClampNeg), .ref (a 300)]) (rest := []) (wr := [((a 200), .inr (11, [.ref (a 201), .ref (a 202), .ref (a 203), .ref (a 204), .int 0, .ref (a 205), .int 0, .int 0, .int 0, .int 0, .int 0, .int 0, .int 0, .int 0, .int 0, .int (-1), .int 0, .int 0, .int 0, .ref (a 206), .ref (a 207), .int 0, .int 0, .ref (a 208), .int 0, .int 0, .int 0, .int 0, .ref (a 209), .ref (a 210), .ref (a 211), .ref (a 212), .ref (a 213), .ref (a 214), .ref (a 215), .int 0, .ref (a 216), .ref (a 217), .ref (a 218)])), ((a 201), .inl (cy 0, 2260, .inl (upd (upd (fun _ => 0) (1 : Int32).toNatClampNeg 1) (2 : Int32).toNatClampNeg 1)))]) hX hE (h_both l hlt D cy a (xs (1 : Int32).toNatClampNeg) (xs (2 : Int32).toNatClampNeg) (xs (3 : Int32).toNatClampNeg) (xs (4 : Int32).toNatClampNeg) (xs (5 : Int32).toNatClampNeg) (xs (6 : Int32).toNatClampNeg)) (cwHA 8 htA wd_1163 wd_1161 wd_0 wd_1162 (by decide +kernel) ⟨by decide, by decide⟩) hP hD hS [0, 1, 2, 3] [4, 5] rfl rfl (by decide) rfl hl.1 rfl (Nat.le_of_ble_eq_true rfl) dL_law_2186 (by decide) (fun r_ W1 H locs hw hP hD hS => ?_)
  refine W.widen (k := 132) (n := 17491) (by decide) (by decide) ?_
  obtain ⟨rfl, g_, rfl, hv_⟩ := hw
  have hP : va_P D vwCl [((a 200), .inr (11, [.ref (a 201), .ref (a 202), .ref (a 203), .ref (a 204), .int 0, .ref (a 205), .int 0, .int 0, .int 0, .int 0, .int 0, .int 0, .int 0, .int 0, .int 0, .int (-1), .int 0, .int 0, .int 0, .ref (a 206), .ref (a 207), .int 0, .int 0, .ref (a 208), .int 0, .int 0, .int 0, .int 0, .ref (a 209), .ref (a 210), .ref (a 211), .ref (a 212), .ref (a 213), .ref (a 214), .ref (a 215), .int 0, .ref (a 216), .ref (a 217), .ref (a 218)])), ((a 201), .inl (cy 0, 2260, .inl (upd (upd (fun _ => 0) (1 : Int32).toNatClampNeg 1) (2 : Int32).toNatClampNeg 1))), ((a 300), .inl (cy 2, 1, .inr (.inl (g_))))] H := hP
  have hD : va_D A [((a 200), .inr (11, [.ref (a 201), .ref (a 202), .ref (a 203), .ref (a 204), .int 0, .ref (a 205), .int 0, .int 0, .int 0, .int 0, .int 0, .int 0, .int 0, .int 0, .int 0, .int (-1), .int 0, .int 0, .int 0, .ref (a 206), .ref (a 207), .int 0, .int 0, .ref (a 208), .int 0, .int 0, .int 0, .int 0, .ref (a 209), .ref (a 210), .ref (a 211), .ref (a 212), .ref (a 213), .ref (a 214), .ref (a 215), .int 0, .ref (a 216), .ref (a 217), .ref (a 218)])), ((a 201), .inl (cy 0, 2260, .inl (upd (upd (fun _ => 0) (1 : Int32).toNatClampNeg 1) (2 : Int32).toNatClampNeg 1))), ((a 300), .inl (cy 2, 1, .inr (.inl (g_))))] := hD
  refine lv_istore (lv' := [(5, .int (kf_both (xs (1 : Int32).toNatClampNeg) (xs (2 : Int32).toNatClampNeg) (xs (3 : Int32).toNatClampNeg) (xs (4 : Int32).toNatClampNeg) (xs (5 : Int32).toNatClampNeg) (xs (6 : Int32).toNatClampNeg))), (4, .int 0), (3, .ref (a 300)), (2, .ref (a 200)), (1, .ref (a 0)), (0, .ref b)]) hx hb dL_law_2189 hl (by decide) rfl (fun ls hl => ?_)
  refine lv_aload_n hx hb dL_law_2191 rfl (lv_at hl 3 rfl) ?_
  refine lv_aload_n hx hb dL_law_2192 rfl (lv_at hl 5 rfl) ?_
  refine lv_iload hx hb dL_law_2193 (lv_at hl 1 rfl) ?_
  refine lv_iconst (v := 1) hx hb dL_law_2195 (by decide) ?_
  refine lv_iadd hx hb dL_law_2196 ?_
  refine lv_topi (fun x7 ex7 => ?_)
  obtain rfl : x7 = 1 := ex7.trans (by decide)
  refine va_sld hx hb hx7 hbl hbA hS (in_lit (by decide)) dL_law_2197 ?_
  refine lv_aload_n hx hb dL_law_2198 rfl (lv_at hl 5 rfl) ?_
  refine lv_iload hx hb dL_law_2199 (lv_at hl 1 rfl) ?_
  refine lv_iconst (v := 2) hx hb dL_law_2201 (by decide) ?_
  refine lv_iadd hx hb dL_law_2202 ?_
  refine lv_topi (fun x8 ex8 => ?_)
  obtain rfl : x8 = 2 := ex8.trans (by decide)
  refine va_sld hx hb hx7 hbl hbA hS (in_lit (by decide)) dL_law_2203 ?_
  refine lv_aload_n hx hb dL_law_2204 rfl (lv_at hl 5 rfl) ?_
  refine lv_iload hx hb dL_law_2205 (lv_at hl 1 rfl) ?_
  refine lv_iconst (v := 3) hx hb dL_law_2207 (by decide) ?_
  refine lv_iadd hx hb dL_law_2208 ?_
  refine lv_topi (fun x9 ex9 => ?_)
  obtain rfl : x9 = 3 := ex9.trans (by decide)
  refine va_sld hx hb hx7 hbl hbA hS (in_lit (by decide)) dL_law_2209 ?_
  refine lv_aload_n hx hb dL_law_2210 rfl (lv_at hl 5 rfl) ?_
  refine lv_iload hx hb dL_law_2211 (lv_at hl 1 rfl) ?_
  refine lv_iconst (v := 4) hx hb dL_law_2213 (by decide) ?_
  refine lv_iadd hx hb dL_law_2214 ?_
  refine lv_topi (fun x10 ex10 => ?_)
  obtain rfl : x10 = 4 := ex10.trans (by decide)
  refine va_sld hx hb hx7 hbl hbA hS (in_lit (by decide)) dL_law_2215 ?_
  refine lv_aload_n hx hb dL_law_2216 rfl (lv_at hl 5 rfl) ?_
  refine lv_iload hx hb dL_law_2217 (lv_at hl 1 rfl) ?_
  refine lv_iconst (v := 5) hx hb dL_law_2219 (by decide) ?_
  refine lv_iadd hx hb dL_law_2220 ?_
  refine lv_topi (fun x11 ex11 => ?_)
  obtain rfl : x11 = 5 := ex11.trans (by decide)
  refine va_sld hx hb hx7 hbl hbA hS (in_lit (by decide)) dL_law_2221 ?_
  refine lv_aload_n hx hb dL_law_2222 rfl (lv_at hl 5 rfl) ?_
  refine lv_iload hx hb dL_law_2223 (lv_at hl 1 rfl) ?_
  refine lv_bipush (v := 6) hx hb dL_law_2225 (by decide) ?_
  refine lv_iadd hx hb dL_law_2227 ?_
  refine lv_topi (fun x12 ex12 => ?_)
  obtain rfl : x12 = 6 := ex12.trans (by decide)
  refine va_sld hx hb hx7 hbl hbA hS (in_lit (by decide)) dL_law_2228 ?_
  refine kVi (As := [.int (xs (1 : Int32).toNatClampNeg), .int (xs (2 : Int32).toNatClampNeg), .int (xs (3 : Int32).toNatClampNeg), .int (xs (4 : Int32).toNatClampNeg), .int (xs (5 : Int32).toNatClampNeg), .int (xs (6 : Int32).toNatClampNeg)]) (rest := []) (wr := [((a 300), .inl (cy 2, 1, .inr (.inl (g_))))]) hX hE (r_both l D cy a (xs (1 : Int32).toNatClampNeg) (xs (2 : Int32).toNatClampNeg) (xs (3 : Int32).toNatClampNeg) (xs (4 : Int32).toNatClampNeg) (xs (5 : Int32).toNatClampNeg) (xs (6 : Int32).toNatClampNeg)) (cwVA 6 htA wd_1967 wd_1964 wd_10 wd_1965 wd_1966 (by decide +kernel) ⟨by decide, by decide⟩) hP hD hS [0, 1] [2] rfl rfl (by decide) 0 rfl rfl rfl rfl hl.1 rfl (Nat.le_of_ble_eq_true rfl) dL_law_2229 (by decide) (fun r_ W1 H locs hw hP hD hS => ?_)
  refine W.widen (k := 132) (n := 17491) (by decide) (by decide) ?_
  obtain ⟨fs_, rfl, hf_, hr_⟩ := hw
  have hP : va_P D vwCl [((a 300), .inl (cy 2, 1, .inr (.inl (g_)))), ((a 200), .inr (11, fs_))] H := hP
  have hD : va_D A [((a 300), .inl (cy 2, 1, .inr (.inl (g_)))), ((a 200), .inr (11, fs_))] := hD
  refine lv_istore (lv' := [(6, .int r_), (5, .int (kf_both (xs (1 : Int32).toNatClampNeg) (xs (2 : Int32).toNatClampNeg) (xs (3 : Int32).toNatClampNeg) (xs (4 : Int32).toNatClampNeg) (xs (5 : Int32).toNatClampNeg) (xs (6 : Int32).toNatClampNeg))), (4, .int 0), (3, .ref (a 300)), (2, .ref (a 200)), (1, .ref (a 0)), (0, .ref b)]) hx hb dL_law_2232 hl (by decide) rfl (fun ls hl => ?_)
  refine lv_aload_n hx hb dL_law_2234 rfl (lv_at hl 4 rfl) ?_
  refine kVi (As := []) (rest := []) (wr := [((a 300), .inl (cy 2, 1, .inr (.inl (g_))))]) hX hE (r_thrown l D cy a fs_ (kf_both (xs (1 : Int32).toNatClampNeg) (xs (2 : Int32).toNatClampNeg) (xs (3 : Int32).toNatClampNeg) (xs (4 : Int32).toNatClampNeg) (xs (5 : Int32).toNatClampNeg) (xs (6 : Int32).toNatClampNeg)) hf_) (cwVA 0 htA wd_1476 wd_1473 wd_10 wd_1474 wd_1475 (by decide +kernel) ⟨by decide, by decide⟩) hP hD hS [1] [0] rfl rfl (by decide) 0 rfl rfl rfl rfl hl.1 rfl (Nat.le_of_ble_eq_true rfl) dL_law_2235 (by decide) (fun r_ W1 H locs hw hP hD hS => ?_)
  refine W.widen (k := 132) (n := 17491) (by decide) (by decide) ?_
  have hP : va_P D vwCl [((a 300), .inl (cy 2, 1, .inr (.inl (g_))))] H := hP.sub [0] rfl
  have hD : va_D A [((a 300), .inl (cy 2, 1, .inr (.inl (g_))))] := hD.sub [0] (by rfl) rfl
  obtain rfl := hw
  have hP : va_P D vwCl [((a 300), .inl (cy 2, 1, .inr (.inl (g_))))] H := hP
  have hD : va_D A [((a 300), .inl (cy 2, 1, .inr (.inl (g_))))] := hD
  refine lv_iload hx hb dL_law_2238 (lv_at hl 1 rfl) ?_
  refine lv_icmp_eq (tgt := 2245) hx hb dL_law_2240 (by decide) (fun _ => ?_) (fun q => absurd rfl q)
  refine lv_iload hx hb dL_law_2245 (lv_at hl 1 rfl) ?_
  refine lv_if_ne (tgt := 2262) hx hb dL_law_2247 (by decide) (fun c13 => ?_) (fun c13 => ?_)
  · refine lv_goto (tgt := 3161) hx hb dL_law_2262 (by decide) ?_
    exact W.widen (k := 600000) (n := 7300000) (Nat.le_of_ble_eq_true rfl) (Nat.le_of_ble_eq_true rfl) (kk H locs ls hS (lv_sub hl [2, 6] rfl))
  · refine lv_aload_n hx hb dL_law_2250 rfl (lv_at hl 3 rfl) ?_
    refine lv_iconst (v := 0) hx hb dL_law_2251 (by decide) ?_
    refine va_lald hx hb hK hP 0 2 rfl rfl (in_lit (by decide)) dL_law_2252 ?_
    refine lv_iload hx hb dL_law_2253 (lv_at hl 0 rfl) ?_
    refine lv_i2l hx hb dL_law_2255 rfl ?_
    refine W.lcmp hx hb dL_law_2256 ?_
    refine lv_if_eq (tgt := 2262) hx hb dL_law_2257 (by decide) (fun _ => ?_) (fun q => absurd (lgs ((hv_ c13).trans (hr_ c13).symm)) q)
    refine lv_goto (tgt := 3161) hx hb dL_law_2262 (by decide) ?_
    exact W.widen (k := 600000) (n := 7300000) (Nat.le_of_ble_eq_true rfl) (Nat.le_of_ble_eq_true rfl) (kk H locs ls hS (lv_sub hl [2, 6] rfl))
set_option maxHeartbeats 4000000 in
set_option maxRecDepth 100000 in
theorem cs_33 (l : Launch) (hlt : l.stackTraces = false) {p : Program} {e : Env} {s : State} {m : MethodId} {below : List Frame} {meth : Method} {c : Code} {D : va_G} {cy : Nat → ClassId} {A : Nat → Prop} {b : Nat} {xs : Nat → Int32} {H : Heap} {locs : List Loc} {ls : Array Slot} {Q : State → Prop} (a : Nat → Nat) (hX : Ex p s m #[Value.ref b] meth c code ret 8 RL) (hE : Ew D cy A s) (hx7 : va_X b 7 xs s s.heap) (hbl : b < s.heap.size) (hbA : ¬ A b) (hP : va_P D vwCl [((a 0), .inr (10, [.ref (a 1), .int 0, .int 0, .int (-1), .ref (a 2), .ref (a 3), .ref (a 4), .ref (a 5), .ref (a 6), .ref (a 7), .ref (a 8), .ref (a 9), .int 0])), ((a 3), .inr (6, [.ref (a 10), .int 0, .ref (a 21), .ref (a 22), .ref (a 23), .ref (a 24), .ref (a 25), .int 0])), ((a 21), .inl (cy 0, 8, .inl (fun _ => 0))), ((a 22), .inl (cy 0, 8, .inl (fun _ => 0))), ((a 23), .inl (cy 0, 8, .inl (fun _ => 0))), ((a 24), .inl (cy 0, 8, .inl (fun _ => 0))), ((a 25), .inl (cy 0, 4, .inl (fun _ => 0))), ((a 10), .inr (0, [.int 0, .int 1, .int 1, .int 0, .int 0, .ref (a 11), .ref (a 12), .ref (a 13), .null, .null])), ((a 5), .inr (1, [.ref (a 40), .int 0, .int 0, .ref (a 46), .ref (a 47)])), ((a 40), .inr (6, [.ref (a 10), .int 0, .ref (a 41), .ref (a 42), .ref (a 43), .ref (a 44), .ref (a 45), .int 0])), ((a 41), .inl (cy 0, 8, .inl (fun _ => 0))), ((a 42), .inl (cy 0, 8, .inl (fun _ => 0))), ((a 43), .inl (cy 0, 8, .inl (fun _ => 0))), ((a 44), .inl (cy 0, 8, .inl (fun _ => 0))), ((a 45), .inl (cy 0, 4, .inl (fun _ => 0))), ((a 6), .inr (9, [.int 0, .ref (a 51), .ref (a 52), .ref (a 53), .ref (a 54), .ref (a 55)])), ((a 51), .inl (cy 0, 61, .inl (fun _ => 0))), ((a 52), .inl (cy 0, 61, .inl (fun _ => 0))), ((a 53), .inl (cy 0, 61, .inl (fun _ => 0))), ((a 54), .inl (cy 2, 6, .inr (.inl (fun _ => 0)))), ((a 55), .inl (cy 2, 6, .inr (.inl (fun _ => 0)))), ((a 300), .inl (cy 2, 1, .inr (.inl (fun _ => 0)))), ((a 200), .inr (11, [.ref (a 201), .ref (a 202), .ref (a 203), .ref (a 204), .int 0, .ref (a 205), .int 0, .int 0, .int 0, .int 0, .int 0, .int 0, .int 0, .int 0, .int 0, .int (-1), .int 0, .int 0, .int 0, .ref (a 206), .ref (a 207), .int 0, .int 0, .ref (a 208), .int 0, .int 0, .int 0, .int 0, .ref (a 209), .ref (a 210), .ref (a 211), .ref (a 212), .ref (a 213), .ref (a 214), .ref (a 215), .int 0, .ref (a 216), .ref (a 217), .ref (a 218)])), ((a 201), .inl (cy 0, 2260, .inl (upd (upd (fun _ => 0) (1 : Int32).toNatClampNeg 1) (2 : Int32).toNatClampNeg 1))), ((a 202), .inl (cy 0, 2260, .inl (fun _ => 0))), ((a 203), .inl (cy 0, 6780, .inl (fun _ => 0))), ((a 204), .inl (cy 3, 3, .inl (fun _ => 0))), ((a 205), .inl (cy 0, 900, .inl (fun _ => 0))), ((a 206), .inl (cy 0, 64, .inl (fun _ => 0))), ((a 207), .inl (cy 0, 6, .inl (fun _ => 0))), ((a 208), .inl (cy 0, 37, .inl (fun _ => 0))), ((a 209), .inl (cy 0, 61, .inl (fun _ => 0))), ((a 210), .inl (cy 0, 61, .inl (fun _ => 0))), ((a 211), .inl (cy 0, 61, .inl (fun _ => 0))), ((a 212), .inl (cy 0, 61, .inl (fun _ => 0))), ((a 213), .inl (cy 0, 61, .inl (fun _ => 0))), ((a 214), .inl (cy 2, 6, .inr (.inl (fun _ => 0)))), ((a 215), .inl (cy 2, 6, .inr (.inl (fun _ => 0)))), ((a 216), .inl (cy 0, 4, .inl (upd (upd (upd (upd (fun _ => 0) (0 : Int32).toNatClampNeg (-1)) (1 : Int32).toNatClampNeg (-1)) (2 : Int32).toNatClampNeg (-1)) (3 : Int32).toNatClampNeg (-1)))), ((a 217), .inl (cy 0, 4, .inl (fun _ => 0))), ((a 218), .inl (cy 2, 120, .inr (.inl (fun _ => 0))))] H) (hD : va_D A [((a 0), .inr (10, [.ref (a 1), .int 0, .int 0, .int (-1), .ref (a 2), .ref (a 3), .ref (a 4), .ref (a 5), .ref (a 6), .ref (a 7), .ref (a 8), .ref (a 9), .int 0])), ((a 3), .inr (6, [.ref (a 10), .int 0, .ref (a 21), .ref (a 22), .ref (a 23), .ref (a 24), .ref (a 25), .int 0])), ((a 21), .inl (cy 0, 8, .inl (fun _ => 0))), ((a 22), .inl (cy 0, 8, .inl (fun _ => 0))), ((a 23), .inl (cy 0, 8, .inl (fun _ => 0))), ((a 24), .inl (cy 0, 8, .inl (fun _ => 0))), ((a 25), .inl (cy 0, 4, .inl (fun _ => 0))), ((a 10), .inr (0, [.int 0, .int 1, .int 1, .int 0, .int 0, .ref (a 11), .ref (a 12), .ref (a 13), .null, .null])), ((a 5), .inr (1, [.ref (a 40), .int 0, .int 0, .ref (a 46), .ref (a 47)])), ((a 40), .inr (6, [.ref (a 10), .int 0, .ref (a 41), .ref (a 42), .ref (a 43), .ref (a 44), .ref (a 45), .int 0])), ((a 41), .inl (cy 0, 8, .inl (fun _ => 0))), ((a 42), .inl (cy 0, 8, .inl (fun _ => 0))), ((a 43), .inl (cy 0, 8, .inl (fun _ => 0))), ((a 44), .inl (cy 0, 8, .inl (fun _ => 0))), ((a 45), .inl (cy 0, 4, .inl (fun _ => 0))), ((a 6), .inr (9, [.int 0, .ref (a 51), .ref (a 52), .ref (a 53), .ref (a 54), .ref (a 55)])), ((a 51), .inl (cy 0, 61, .inl (fun _ => 0))), ((a 52), .inl (cy 0, 61, .inl (fun _ => 0))), ((a 53), .inl (cy 0, 61, .inl (fun _ => 0))), ((a 54), .inl (cy 2, 6, .inr (.inl (fun _ => 0)))), ((a 55), .inl (cy 2, 6, .inr (.inl (fun _ => 0)))), ((a 300), .inl (cy 2, 1, .inr (.inl (fun _ => 0)))), ((a 200), .inr (11, [.ref (a 201), .ref (a 202), .ref (a 203), .ref (a 204), .int 0, .ref (a 205), .int 0, .int 0, .int 0, .int 0, .int 0, .int 0, .int 0, .int 0, .int 0, .int (-1), .int 0, .int 0, .int 0, .ref (a 206), .ref (a 207), .int 0, .int 0, .ref (a 208), .int 0, .int 0, .int 0, .int 0, .ref (a 209), .ref (a 210), .ref (a 211), .ref (a 212), .ref (a 213), .ref (a 214), .ref (a 215), .int 0, .ref (a 216), .ref (a 217), .ref (a 218)])), ((a 201), .inl (cy 0, 2260, .inl (upd (upd (fun _ => 0) (1 : Int32).toNatClampNeg 1) (2 : Int32).toNatClampNeg 1))), ((a 202), .inl (cy 0, 2260, .inl (fun _ => 0))), ((a 203), .inl (cy 0, 6780, .inl (fun _ => 0))), ((a 204), .inl (cy 3, 3, .inl (fun _ => 0))), ((a 205), .inl (cy 0, 900, .inl (fun _ => 0))), ((a 206), .inl (cy 0, 64, .inl (fun _ => 0))), ((a 207), .inl (cy 0, 6, .inl (fun _ => 0))), ((a 208), .inl (cy 0, 37, .inl (fun _ => 0))), ((a 209), .inl (cy 0, 61, .inl (fun _ => 0))), ((a 210), .inl (cy 0, 61, .inl (fun _ => 0))), ((a 211), .inl (cy 0, 61, .inl (fun _ => 0))), ((a 212), .inl (cy 0, 61, .inl (fun _ => 0))), ((a 213), .inl (cy 0, 61, .inl (fun _ => 0))), ((a 214), .inl (cy 2, 6, .inr (.inl (fun _ => 0)))), ((a 215), .inl (cy 2, 6, .inr (.inl (fun _ => 0)))), ((a 216), .inl (cy 0, 4, .inl (upd (upd (upd (upd (fun _ => 0) (0 : Int32).toNatClampNeg (-1)) (1 : Int32).toNatClampNeg (-1)) (2 : Int32).toNatClampNeg (-1)) (3 : Int32).toNatClampNeg (-1)))), ((a 217), .inl (cy 0, 4, .inl (fun _ => 0))), ((a 218), .inl (cy 2, 120, .inr (.inl (fun _ => 0))))]) (hS : va_S A s.heap H locs) (hl : lv_has ls 8 [(4, .int 0), (3, .ref (a 300)), (2, .ref (a 200)), (1, .ref (a 0)), (0, .ref b)]) (kk : ∀ (H : Heap) (locs : List Loc) (ls : Array Slot), va_S A s.heap H locs → lv_has ls 8 [(4, .int 0), (0, .ref b)] → W p l e room_1 s m #[Value.ref b] below meth c H locs 600000 7300000 Q (F0 m 3161 ls [])) : W p l e room_1 s m #[Value.ref b] below meth c H locs 131 17485 Q (F0 m 2265 ls []) := by
  obtain ⟨hx, hb, hr, hml, hown, htA, hlk⟩ := id hX
  have hK := hE.1
  refine lv_aload_n hx hb dL_law_2265 rfl (lv_at hl 3 rfl) ?_
  refine lv_aload_n hx hb dL_law_2266 rfl (lv_at hl 4 rfl) ?_
  refine lv_iload hx hb dL_law_2267 (lv_at hl 0 rfl) ?_
  refine lv_iconst (v := 1) hx hb dL_law_2269 (by decide) ?_
  refine lv_iadd hx hb dL_law_2270 ?_
  refine lv_topi (fun x1 ex1 => ?_)
  obtain rfl : x1 = 1 := ex1.trans (by decide)
  refine va_sld hx hb hx7 hbl hbA hS (in_lit (by decide)) dL_law_2271 ?_
  refine lv_aload_n hx hb dL_law_2272 rfl (lv_at hl 4 rfl) ?_
  refine lv_iload hx hb dL_law_2273 (lv_at hl 0 rfl) ?_
  refine lv_iconst (v := 2) hx hb dL_law_2275 (by decide) ?_
  refine lv_iadd hx hb dL_law_2276 ?_
  refine lv_topi (fun x2 ex2 => ?_)
  obtain rfl : x2 = 2 := ex2.trans (by decide)
  refine va_sld hx hb hx7 hbl hbA hS (in_lit (by decide)) dL_law_2277 ?_
  refine lv_aload_n hx hb dL_law_2278 rfl (lv_at hl 4 rfl) ?_
  refine lv_iload hx hb dL_law_2279 (lv_at hl 0 rfl) ?_
  refine lv_iconst (v := 3) hx hb dL_law_2281 (by decide) ?_
  refine lv_iadd hx hb dL_law_2282 ?_
  refine lv_topi (fun x3 ex3 => ?_)
  obtain rfl : x3 = 3 := ex3.trans (by decide)
  refine va_sld hx hb hx7 hbl hbA hS (in_lit (by decide)) dL_law_2283 ?_
  refine lv_aload_n hx hb dL_law_2284 rfl (lv_at hl 1 rfl) ?_
  refine kHi (As := [.ref (a 0), .int (xs (1 : Int32).toNatClampNeg), .int (xs (2 : Int32).toNatClampNeg), .int (xs (3 : Int32).toNatClampNeg), .ref (a 300)]) (rest := []) (wr := [((a 200), .inr (11, [.ref (a 201), .ref (a 202), .ref (a 203), .ref (a 204), .int 0, .ref (a 205), .int 0, .int 0, .int 0, .int 0, .int 0, .int 0, .int 0, .int 0, .int 0, .int (-1), .int 0, .int 0, .int 0, .ref (a 206), .ref (a 207), .int 0, .int 0, .ref (a 208), .int 0, .int 0, .int 0, .int 0, .ref (a 209), .ref (a 210), .ref (a 211), .ref (a 212), .ref (a 213), .ref (a 214), .ref (a 215), .int 0, .ref (a 216), .ref (a 217), .ref (a 218)])), ((a 201), .inl (cy 0, 2260, .inl (upd (upd (fun _ => 0) (1 : Int32).toNatClampNeg 1) (2 : Int32).toNatClampNeg 1))), ((a 202), .inl (cy 0, 2260, .inl (fun _ => 0))), ((a 203), .inl (cy 0, 6780, .inl (fun _ => 0))), ((a 204), .inl (cy 3, 3, .inl (fun _ => 0))), ((a 205), .inl (cy 0, 900, .inl (fun _ => 0))), ((a 206), .inl (cy 0, 64, .inl (fun _ => 0))), ((a 207), .inl (cy 0, 6, .inl (fun _ => 0))), ((a 208), .inl (cy 0, 37, .inl (fun _ => 0))), ((a 209), .inl (cy 0, 61, .inl (fun _ => 0))), ((a 210), .inl (cy 0, 61, .inl (fun _ => 0))), ((a 211), .inl (cy 0, 61, .inl (fun _ => 0))), ((a 212), .inl (cy 0, 61, .inl (fun _ => 0))), ((a 213), .inl (cy 0, 61, .inl (fun _ => 0))), ((a 214), .inl (cy 2, 6, .inr (.inl (fun _ => 0)))), ((a 215), .inl (cy 2, 6, .inr (.inl (fun _ => 0)))), ((a 216), .inl (cy 0, 4, .inl (upd (upd (upd (upd (fun _ => 0) (0 : Int32).toNatClampNeg (-1)) (1 : Int32).toNatClampNeg (-1)) (2 : Int32).toNatClampNeg (-1)) (3 : Int32).toNatClampNeg (-1)))), ((a 217), .inl (cy 0, 4, .inl (fun _ => 0))), ((a 218), .inl (cy 2, 120, .inr (.inl (fun _ => 0))))]) hX hE (h_safeWay l hlt D cy a (xs (1 : Int32).toNatClampNeg) (xs (2 : Int32).toNatClampNeg) (xs (3 : Int32).toNatClampNeg)) (cwHA 5 htA wd_1175 wd_1173 wd_0 wd_1174 (by decide +kernel) ⟨by decide, by decide⟩) hP hD hS [0, 1, 2, 3, 4, 5, 6, 7, 8, 9, 10, 11, 12, 13, 14, 15, 16, 17, 18, 19, 20, 21] [22, 23, 24, 25, 26, 27, 28, 29, 30, 31, 32, 33, 34, 35, 36, 37, 38, 39, 40] rfl rfl (by decide) rfl hl.1 rfl (Nat.le_of_ble_eq_true rfl) dL_law_2285 (by decide) (fun r_ W1 H locs hw hP hD hS => ?_)
  refine W.widen (k := 134) (n := 17503) (by decide) (by decide) ?_
  obtain ⟨rfl, g_, rfl, hv_⟩ := hw
  have hP : va_P D vwCl [((a 200), .inr (11, [.ref (a 201), .ref (a 202), .ref (a 203), .ref (a 204), .int 0, .ref (a 205), .int 0, .int 0, .int 0, .int 0, .int 0, .int 0, .int 0, .int 0, .int 0, .int (-1), .int 0, .int 0, .int 0, .ref (a 206), .ref (a 207), .int 0, .int 0, .ref (a 208), .int 0, .int 0, .int 0, .int 0, .ref (a 209), .ref (a 210), .ref (a 211), .ref (a 212), .ref (a 213), .ref (a 214), .ref (a 215), .int 0, .ref (a 216), .ref (a 217), .ref (a 218)])), ((a 201), .inl (cy 0, 2260, .inl (upd (upd (fun _ => 0) (1 : Int32).toNatClampNeg 1) (2 : Int32).toNatClampNeg 1))), ((a 202), .inl (cy 0, 2260, .inl (fun _ => 0))), ((a 203), .inl (cy 0, 6780, .inl (fun _ => 0))), ((a 204), .inl (cy 3, 3, .inl (fun _ => 0))), ((a 205), .inl (cy 0, 900, .inl (fun _ => 0))), ((a 206), .inl (cy 0, 64, .inl (fun _ => 0))), ((a 207), .inl (cy 0, 6, .inl (fun _ => 0))), ((a 208), .inl (cy 0, 37, .inl (fun _ => 0))), ((a 209), .inl (cy 0, 61, .inl (fun _ => 0))), ((a 210), .inl (cy 0, 61, .inl (fun _ => 0))), ((a 211), .inl (cy 0, 61, .inl (fun _ => 0))), ((a 212), .inl (cy 0, 61, .inl (fun _ => 0))), ((a 213), .inl (cy 0, 61, .inl (fun _ => 0))), ((a 214), .inl (cy 2, 6, .inr (.inl (fun _ => 0)))), ((a 215), .inl (cy 2, 6, .inr (.inl (fun _ => 0)))), ((a 216), .inl (cy 0, 4, .inl (upd (upd (upd (upd (fun _ => 0) (0 : Int32).toNatClampNeg (-1)) (1 : Int32).toNatClampNeg (-1)) (2 : Int32).toNatClampNeg (-1)) (3 : Int32).toNatClampNeg (-1)))), ((a 217), .inl (cy 0, 4, .inl (fun _ => 0))), ((a 218), .inl (cy 2, 120, .inr (.inl (fun _ => 0)))), ((a 300), .inl (cy 2, 1, .inr (.inl (g_))))] H := hP
  have hD : va_D A [((a 200), .inr (11, [.ref (a 201), .ref (a 202), .ref (a 203), .ref (a 204), .int 0, .ref (a 205), .int 0, .int 0, .int 0, .int 0, .int 0, .int 0, .int 0, .int 0, .int 0, .int (-1), .int 0, .int 0, .int 0, .ref (a 206), .ref (a 207), .int 0, .int 0, .ref (a 208), .int 0, .int 0, .int 0, .int 0, .ref (a 209), .ref (a 210), .ref (a 211), .ref (a 212), .ref (a 213), .ref (a 214), .ref (a 215), .int 0, .ref (a 216), .ref (a 217), .ref (a 218)])), ((a 201), .inl (cy 0, 2260, .inl (upd (upd (fun _ => 0) (1 : Int32).toNatClampNeg 1) (2 : Int32).toNatClampNeg 1))), ((a 202), .inl (cy 0, 2260, .inl (fun _ => 0))), ((a 203), .inl (cy 0, 6780, .inl (fun _ => 0))), ((a 204), .inl (cy 3, 3, .inl (fun _ => 0))), ((a 205), .inl (cy 0, 900, .inl (fun _ => 0))), ((a 206), .inl (cy 0, 64, .inl (fun _ => 0))), ((a 207), .inl (cy 0, 6, .inl (fun _ => 0))), ((a 208), .inl (cy 0, 37, .inl (fun _ => 0))), ((a 209), .inl (cy 0, 61, .inl (fun _ => 0))), ((a 210), .inl (cy 0, 61, .inl (fun _ => 0))), ((a 211), .inl (cy 0, 61, .inl (fun _ => 0))), ((a 212), .inl (cy 0, 61, .inl (fun _ => 0))), ((a 213), .inl (cy 0, 61, .inl (fun _ => 0))), ((a 214), .inl (cy 2, 6, .inr (.inl (fun _ => 0)))), ((a 215), .inl (cy 2, 6, .inr (.inl (fun _ => 0)))), ((a 216), .inl (cy 0, 4, .inl (upd (upd (upd (upd (fun _ => 0) (0 : Int32).toNatClampNeg (-1)) (1 : Int32).toNatClampNeg (-1)) (2 : Int32).toNatClampNeg (-1)) (3 : Int32).toNatClampNeg (-1)))), ((a 217), .inl (cy 0, 4, .inl (fun _ => 0))), ((a 218), .inl (cy 2, 120, .inr (.inl (fun _ => 0)))), ((a 300), .inl (cy 2, 1, .inr (.inl (g_))))] := hD
  refine lv_istore (lv' := [(5, .int (kf_safeWay (xs (1 : Int32).toNatClampNeg) (xs (2 : Int32).toNatClampNeg) (xs (3 : Int32).toNatClampNeg))), (4, .int 0), (3, .ref (a 300)), (2, .ref (a 200)), (1, .ref (a 0)), (0, .ref b)]) hx hb dL_law_2288 hl (by decide) rfl (fun ls hl => ?_)
  refine lv_aload_n hx hb dL_law_2290 rfl (lv_at hl 3 rfl) ?_
  refine lv_aload_n hx hb dL_law_2291 rfl (lv_at hl 5 rfl) ?_
  refine lv_iload hx hb dL_law_2292 (lv_at hl 1 rfl) ?_
  refine lv_iconst (v := 1) hx hb dL_law_2294 (by decide) ?_
  refine lv_iadd hx hb dL_law_2295 ?_
  refine lv_topi (fun x4 ex4 => ?_)
  obtain rfl : x4 = 1 := ex4.trans (by decide)
  refine va_sld hx hb hx7 hbl hbA hS (in_lit (by decide)) dL_law_2296 ?_
  refine lv_aload_n hx hb dL_law_2297 rfl (lv_at hl 5 rfl) ?_
  refine lv_iload hx hb dL_law_2298 (lv_at hl 1 rfl) ?_
  refine lv_iconst (v := 2) hx hb dL_law_2300 (by decide) ?_
  refine lv_iadd hx hb dL_law_2301 ?_
  refine lv_topi (fun x5 ex5 => ?_)
  obtain rfl : x5 = 2 := ex5.trans (by decide)
  refine va_sld hx hb hx7 hbl hbA hS (in_lit (by decide)) dL_law_2302 ?_
  refine lv_aload_n hx hb dL_law_2303 rfl (lv_at hl 5 rfl) ?_
  refine lv_iload hx hb dL_law_2304 (lv_at hl 1 rfl) ?_
  refine lv_iconst (v := 3) hx hb dL_law_2306 (by decide) ?_
  refine lv_iadd hx hb dL_law_2307 ?_
  refine lv_topi (fun x6 ex6 => ?_)
  obtain rfl : x6 = 3 := ex6.trans (by decide)
  refine va_sld hx hb hx7 hbl hbA hS (in_lit (by decide)) dL_law_2308 ?_
  refine kVi (As := [.int (xs (1 : Int32).toNatClampNeg), .int (xs (2 : Int32).toNatClampNeg), .int (xs (3 : Int32).toNatClampNeg)]) (rest := []) (wr := [((a 300), .inl (cy 2, 1, .inr (.inl (g_))))]) hX hE (r_safeWay l D cy a (xs (1 : Int32).toNatClampNeg) (xs (2 : Int32).toNatClampNeg) (xs (3 : Int32).toNatClampNeg)) (cwVA 3 htA wd_1971 wd_1968 wd_10 wd_1969 wd_1970 (by decide +kernel) ⟨by decide, by decide⟩) hP hD hS [0, 1, 2, 3, 4, 5, 6, 7, 8, 9, 10, 11, 12, 13, 14, 15, 16, 17, 18] [19] rfl rfl (by decide) 0 rfl rfl rfl rfl hl.1 rfl (Nat.le_of_ble_eq_true rfl) dL_law_2309 (by decide) (fun r_ W1 H locs hw hP hD hS => ?_)
  refine W.widen (k := 134) (n := 17503) (by decide) (by decide) ?_
  obtain ⟨fs_, rfl, hf_, hr_⟩ := hw
  have hP : va_P D vwCl [((a 300), .inl (cy 2, 1, .inr (.inl (g_)))), ((a 200), .inr (11, fs_))] H := hP
  have hD : va_D A [((a 300), .inl (cy 2, 1, .inr (.inl (g_)))), ((a 200), .inr (11, fs_))] := hD
  refine lv_istore (lv' := [(6, .int r_), (5, .int (kf_safeWay (xs (1 : Int32).toNatClampNeg) (xs (2 : Int32).toNatClampNeg) (xs (3 : Int32).toNatClampNeg))), (4, .int 0), (3, .ref (a 300)), (2, .ref (a 200)), (1, .ref (a 0)), (0, .ref b)]) hx hb dL_law_2312 hl (by decide) rfl (fun ls hl => ?_)
  refine lv_aload_n hx hb dL_law_2314 rfl (lv_at hl 4 rfl) ?_
  refine kVi (As := []) (rest := []) (wr := [((a 300), .inl (cy 2, 1, .inr (.inl (g_))))]) hX hE (r_thrown l D cy a fs_ (kf_safeWay (xs (1 : Int32).toNatClampNeg) (xs (2 : Int32).toNatClampNeg) (xs (3 : Int32).toNatClampNeg)) hf_) (cwVA 0 htA wd_1476 wd_1473 wd_10 wd_1474 wd_1475 (by decide +kernel) ⟨by decide, by decide⟩) hP hD hS [1] [0] rfl rfl (by decide) 0 rfl rfl rfl rfl hl.1 rfl (Nat.le_of_ble_eq_true rfl) dL_law_2315 (by decide) (fun r_ W1 H locs hw hP hD hS => ?_)
  refine W.widen (k := 134) (n := 17503) (by decide) (by decide) ?_
  have hP : va_P D vwCl [((a 300), .inl (cy 2, 1, .inr (.inl (g_))))] H := hP.sub [0] rfl
  have hD : va_D A [((a 300), .inl (cy 2, 1, .inr (.inl (g_))))] := hD.sub [0] (by rfl) rfl
  obtain rfl := hw
  have hP : va_P D vwCl [((a 300), .inl (cy 2, 1, .inr (.inl (g_))))] H := hP
  have hD : va_D A [((a 300), .inl (cy 2, 1, .inr (.inl (g_))))] := hD
  refine lv_iload hx hb dL_law_2318 (lv_at hl 1 rfl) ?_
  refine lv_icmp_eq (tgt := 2325) hx hb dL_law_2320 (by decide) (fun _ => ?_) (fun q => absurd rfl q)
  refine lv_iload hx hb dL_law_2325 (lv_at hl 1 rfl) ?_
  refine lv_if_ne (tgt := 2342) hx hb dL_law_2327 (by decide) (fun c7 => ?_) (fun c7 => ?_)
  · refine lv_goto (tgt := 3161) hx hb dL_law_2342 (by decide) ?_
    exact W.widen (k := 600000) (n := 7300000) (Nat.le_of_ble_eq_true rfl) (Nat.le_of_ble_eq_true rfl) (kk H locs ls hS (lv_sub hl [2, 6] rfl))
  · refine lv_aload_n hx hb dL_law_2330 rfl (lv_at hl 3 rfl) ?_
    refine lv_iconst (v := 0) hx hb dL_law_2331 (by decide) ?_
    refine va_lald hx hb hK hP 0 2 rfl rfl (in_lit (by decide)) dL_law_2332 ?_
    refine lv_iload hx hb dL_law_2333 (lv_at hl 0 rfl) ?_
    refine lv_i2l hx hb dL_law_2335 rfl ?_
    refine W.lcmp hx hb dL_law_2336 ?_
    refine lv_if_eq (tgt := 2342) hx hb dL_law_2337 (by decide) (fun _ => ?_) (fun q => absurd (lgs ((hv_ c7).trans (hr_ c7).symm)) q)
    refine lv_goto (tgt := 3161) hx hb dL_law_2342 (by decide) ?_
    exact W.widen (k := 600000) (n := 7300000) (Nat.le_of_ble_eq_true rfl) (Nat.le_of_ble_eq_true rfl) (kk H locs ls hS (lv_sub hl [2, 6] rfl))
set_option maxHeartbeats 4000000 in
set_option maxRecDepth 100000 in
theorem cs_34 (l : Launch) (hlt : l.stackTraces = false) {p : Program} {e : Env} {s : State} {m : MethodId} {below : List Frame} {meth : Method} {c : Code} {D : va_G} {cy : Nat → ClassId} {A : Nat → Prop} {b : Nat} {xs : Nat → Int32} {H : Heap} {locs : List Loc} {ls : Array Slot} {Q : State → Prop} (a : Nat → Nat) (hX : Ex p s m #[Value.ref b] meth c code ret 8 RL) (hE : Ew D cy A s) (hx7 : va_X b 7 xs s s.heap) (hbl : b < s.heap.size) (hbA : ¬ A b) (hP : va_P D vwCl [((a 0), .inr (10, [.ref (a 1), .int 0, .int 0, .int (-1), .ref (a 2), .ref (a 3), .ref (a 4), .ref (a 5), .ref (a 6), .ref (a 7), .ref (a 8), .ref (a 9), .int 0])), ((a 3), .inr (6, [.ref (a 10), .int 0, .ref (a 21), .ref (a 22), .ref (a 23), .ref (a 24), .ref (a 25), .int 0])), ((a 21), .inl (cy 0, 8, .inl (fun _ => 0))), ((a 22), .inl (cy 0, 8, .inl (fun _ => 0))), ((a 23), .inl (cy 0, 8, .inl (fun _ => 0))), ((a 24), .inl (cy 0, 8, .inl (fun _ => 0))), ((a 25), .inl (cy 0, 4, .inl (fun _ => 0))), ((a 10), .inr (0, [.int 0, .int 1, .int 1, .int 0, .int 0, .ref (a 11), .ref (a 12), .ref (a 13), .null, .null])), ((a 5), .inr (1, [.ref (a 40), .int 0, .int 0, .ref (a 46), .ref (a 47)])), ((a 40), .inr (6, [.ref (a 10), .int 0, .ref (a 41), .ref (a 42), .ref (a 43), .ref (a 44), .ref (a 45), .int 0])), ((a 41), .inl (cy 0, 8, .inl (fun _ => 0))), ((a 42), .inl (cy 0, 8, .inl (fun _ => 0))), ((a 43), .inl (cy 0, 8, .inl (fun _ => 0))), ((a 44), .inl (cy 0, 8, .inl (fun _ => 0))), ((a 45), .inl (cy 0, 4, .inl (fun _ => 0))), ((a 6), .inr (9, [.int 0, .ref (a 51), .ref (a 52), .ref (a 53), .ref (a 54), .ref (a 55)])), ((a 51), .inl (cy 0, 61, .inl (fun _ => 0))), ((a 52), .inl (cy 0, 61, .inl (fun _ => 0))), ((a 53), .inl (cy 0, 61, .inl (fun _ => 0))), ((a 54), .inl (cy 2, 6, .inr (.inl (fun _ => 0)))), ((a 55), .inl (cy 2, 6, .inr (.inl (fun _ => 0)))), ((a 300), .inl (cy 2, 1, .inr (.inl (fun _ => 0)))), ((a 200), .inr (11, [.ref (a 201), .ref (a 202), .ref (a 203), .ref (a 204), .int 0, .ref (a 205), .int 0, .int 0, .int 0, .int 0, .int 0, .int 0, .int 0, .int 0, .int 0, .int (-1), .int 0, .int 0, .int 0, .ref (a 206), .ref (a 207), .int 0, .int 0, .ref (a 208), .int 0, .int 0, .int 0, .int 0, .ref (a 209), .ref (a 210), .ref (a 211), .ref (a 212), .ref (a 213), .ref (a 214), .ref (a 215), .int 0, .ref (a 216), .ref (a 217), .ref (a 218)])), ((a 201), .inl (cy 0, 2260, .inl (upd (upd (fun _ => 0) (1 : Int32).toNatClampNeg 1) (2 : Int32).toNatClampNeg 1))), ((a 202), .inl (cy 0, 2260, .inl (fun _ => 0))), ((a 203), .inl (cy 0, 6780, .inl (fun _ => 0))), ((a 204), .inl (cy 3, 3, .inl (fun _ => 0))), ((a 205), .inl (cy 0, 900, .inl (fun _ => 0))), ((a 206), .inl (cy 0, 64, .inl (fun _ => 0))), ((a 207), .inl (cy 0, 6, .inl (fun _ => 0))), ((a 208), .inl (cy 0, 37, .inl (fun _ => 0))), ((a 209), .inl (cy 0, 61, .inl (fun _ => 0))), ((a 210), .inl (cy 0, 61, .inl (fun _ => 0))), ((a 211), .inl (cy 0, 61, .inl (fun _ => 0))), ((a 212), .inl (cy 0, 61, .inl (fun _ => 0))), ((a 213), .inl (cy 0, 61, .inl (fun _ => 0))), ((a 214), .inl (cy 2, 6, .inr (.inl (fun _ => 0)))), ((a 215), .inl (cy 2, 6, .inr (.inl (fun _ => 0)))), ((a 216), .inl (cy 0, 4, .inl (upd (upd (upd (upd (fun _ => 0) (0 : Int32).toNatClampNeg (-1)) (1 : Int32).toNatClampNeg (-1)) (2 : Int32).toNatClampNeg (-1)) (3 : Int32).toNatClampNeg (-1)))), ((a 217), .inl (cy 0, 4, .inl (fun _ => 0))), ((a 218), .inl (cy 2, 120, .inr (.inl (fun _ => 0))))] H) (hD : va_D A [((a 0), .inr (10, [.ref (a 1), .int 0, .int 0, .int (-1), .ref (a 2), .ref (a 3), .ref (a 4), .ref (a 5), .ref (a 6), .ref (a 7), .ref (a 8), .ref (a 9), .int 0])), ((a 3), .inr (6, [.ref (a 10), .int 0, .ref (a 21), .ref (a 22), .ref (a 23), .ref (a 24), .ref (a 25), .int 0])), ((a 21), .inl (cy 0, 8, .inl (fun _ => 0))), ((a 22), .inl (cy 0, 8, .inl (fun _ => 0))), ((a 23), .inl (cy 0, 8, .inl (fun _ => 0))), ((a 24), .inl (cy 0, 8, .inl (fun _ => 0))), ((a 25), .inl (cy 0, 4, .inl (fun _ => 0))), ((a 10), .inr (0, [.int 0, .int 1, .int 1, .int 0, .int 0, .ref (a 11), .ref (a 12), .ref (a 13), .null, .null])), ((a 5), .inr (1, [.ref (a 40), .int 0, .int 0, .ref (a 46), .ref (a 47)])), ((a 40), .inr (6, [.ref (a 10), .int 0, .ref (a 41), .ref (a 42), .ref (a 43), .ref (a 44), .ref (a 45), .int 0])), ((a 41), .inl (cy 0, 8, .inl (fun _ => 0))), ((a 42), .inl (cy 0, 8, .inl (fun _ => 0))), ((a 43), .inl (cy 0, 8, .inl (fun _ => 0))), ((a 44), .inl (cy 0, 8, .inl (fun _ => 0))), ((a 45), .inl (cy 0, 4, .inl (fun _ => 0))), ((a 6), .inr (9, [.int 0, .ref (a 51), .ref (a 52), .ref (a 53), .ref (a 54), .ref (a 55)])), ((a 51), .inl (cy 0, 61, .inl (fun _ => 0))), ((a 52), .inl (cy 0, 61, .inl (fun _ => 0))), ((a 53), .inl (cy 0, 61, .inl (fun _ => 0))), ((a 54), .inl (cy 2, 6, .inr (.inl (fun _ => 0)))), ((a 55), .inl (cy 2, 6, .inr (.inl (fun _ => 0)))), ((a 300), .inl (cy 2, 1, .inr (.inl (fun _ => 0)))), ((a 200), .inr (11, [.ref (a 201), .ref (a 202), .ref (a 203), .ref (a 204), .int 0, .ref (a 205), .int 0, .int 0, .int 0, .int 0, .int 0, .int 0, .int 0, .int 0, .int 0, .int (-1), .int 0, .int 0, .int 0, .ref (a 206), .ref (a 207), .int 0, .int 0, .ref (a 208), .int 0, .int 0, .int 0, .int 0, .ref (a 209), .ref (a 210), .ref (a 211), .ref (a 212), .ref (a 213), .ref (a 214), .ref (a 215), .int 0, .ref (a 216), .ref (a 217), .ref (a 218)])), ((a 201), .inl (cy 0, 2260, .inl (upd (upd (fun _ => 0) (1 : Int32).toNatClampNeg 1) (2 : Int32).toNatClampNeg 1))), ((a 202), .inl (cy 0, 2260, .inl (fun _ => 0))), ((a 203), .inl (cy 0, 6780, .inl (fun _ => 0))), ((a 204), .inl (cy 3, 3, .inl (fun _ => 0))), ((a 205), .inl (cy 0, 900, .inl (fun _ => 0))), ((a 206), .inl (cy 0, 64, .inl (fun _ => 0))), ((a 207), .inl (cy 0, 6, .inl (fun _ => 0))), ((a 208), .inl (cy 0, 37, .inl (fun _ => 0))), ((a 209), .inl (cy 0, 61, .inl (fun _ => 0))), ((a 210), .inl (cy 0, 61, .inl (fun _ => 0))), ((a 211), .inl (cy 0, 61, .inl (fun _ => 0))), ((a 212), .inl (cy 0, 61, .inl (fun _ => 0))), ((a 213), .inl (cy 0, 61, .inl (fun _ => 0))), ((a 214), .inl (cy 2, 6, .inr (.inl (fun _ => 0)))), ((a 215), .inl (cy 2, 6, .inr (.inl (fun _ => 0)))), ((a 216), .inl (cy 0, 4, .inl (upd (upd (upd (upd (fun _ => 0) (0 : Int32).toNatClampNeg (-1)) (1 : Int32).toNatClampNeg (-1)) (2 : Int32).toNatClampNeg (-1)) (3 : Int32).toNatClampNeg (-1)))), ((a 217), .inl (cy 0, 4, .inl (fun _ => 0))), ((a 218), .inl (cy 2, 120, .inr (.inl (fun _ => 0))))]) (hS : va_S A s.heap H locs) (hl : lv_has ls 8 [(4, .int 0), (3, .ref (a 300)), (2, .ref (a 200)), (1, .ref (a 0)), (0, .ref b)]) (kk : ∀ (H : Heap) (locs : List Loc) (ls : Array Slot), va_S A s.heap H locs → lv_has ls 8 [(4, .int 0), (0, .ref b)] → W p l e room_1 s m #[Value.ref b] below meth c H locs 600000 7300000 Q (F0 m 3161 ls [])) : W p l e room_1 s m #[Value.ref b] below meth c H locs 131 17485 Q (F0 m 2345 ls []) := by
  obtain ⟨hx, hb, hr, hml, hown, htA, hlk⟩ := id hX
  have hK := hE.1
  refine lv_aload_n hx hb dL_law_2345 rfl (lv_at hl 3 rfl) ?_
  refine lv_aload_n hx hb dL_law_2346 rfl (lv_at hl 4 rfl) ?_
  refine lv_iload hx hb dL_law_2347 (lv_at hl 0 rfl) ?_
  refine lv_iconst (v := 1) hx hb dL_law_2349 (by decide) ?_
  refine lv_iadd hx hb dL_law_2350 ?_
  refine lv_topi (fun x1 ex1 => ?_)
  obtain rfl : x1 = 1 := ex1.trans (by decide)
  refine va_sld hx hb hx7 hbl hbA hS (in_lit (by decide)) dL_law_2351 ?_
  refine lv_aload_n hx hb dL_law_2352 rfl (lv_at hl 4 rfl) ?_
  refine lv_iload hx hb dL_law_2353 (lv_at hl 0 rfl) ?_
  refine lv_iconst (v := 2) hx hb dL_law_2355 (by decide) ?_
  refine lv_iadd hx hb dL_law_2356 ?_
  refine lv_topi (fun x2 ex2 => ?_)
  obtain rfl : x2 = 2 := ex2.trans (by decide)
  refine va_sld hx hb hx7 hbl hbA hS (in_lit (by decide)) dL_law_2357 ?_
  refine lv_aload_n hx hb dL_law_2358 rfl (lv_at hl 4 rfl) ?_
  refine lv_iload hx hb dL_law_2359 (lv_at hl 0 rfl) ?_
  refine lv_iconst (v := 3) hx hb dL_law_2361 (by decide) ?_
  refine lv_iadd hx hb dL_law_2362 ?_
  refine lv_topi (fun x3 ex3 => ?_)
  obtain rfl : x3 = 3 := ex3.trans (by decide)
  refine va_sld hx hb hx7 hbl hbA hS (in_lit (by decide)) dL_law_2363 ?_
  refine lv_aload_n hx hb dL_law_2364 rfl (lv_at hl 1 rfl) ?_
  refine kHi (As := [.ref (a 0), .int (xs (1 : Int32).toNatClampNeg), .int (xs (2 : Int32).toNatClampNeg), .int (xs (3 : Int32).toNatClampNeg), .ref (a 300)]) (rest := []) (wr := [((a 200), .inr (11, [.ref (a 201), .ref (a 202), .ref (a 203), .ref (a 204), .int 0, .ref (a 205), .int 0, .int 0, .int 0, .int 0, .int 0, .int 0, .int 0, .int 0, .int 0, .int (-1), .int 0, .int 0, .int 0, .ref (a 206), .ref (a 207), .int 0, .int 0, .ref (a 208), .int 0, .int 0, .int 0, .int 0, .ref (a 209), .ref (a 210), .ref (a 211), .ref (a 212), .ref (a 213), .ref (a 214), .ref (a 215), .int 0, .ref (a 216), .ref (a 217), .ref (a 218)])), ((a 201), .inl (cy 0, 2260, .inl (upd (upd (fun _ => 0) (1 : Int32).toNatClampNeg 1) (2 : Int32).toNatClampNeg 1))), ((a 202), .inl (cy 0, 2260, .inl (fun _ => 0))), ((a 203), .inl (cy 0, 6780, .inl (fun _ => 0))), ((a 204), .inl (cy 3, 3, .inl (fun _ => 0))), ((a 205), .inl (cy 0, 900, .inl (fun _ => 0))), ((a 206), .inl (cy 0, 64, .inl (fun _ => 0))), ((a 207), .inl (cy 0, 6, .inl (fun _ => 0))), ((a 208), .inl (cy 0, 37, .inl (fun _ => 0))), ((a 209), .inl (cy 0, 61, .inl (fun _ => 0))), ((a 210), .inl (cy 0, 61, .inl (fun _ => 0))), ((a 211), .inl (cy 0, 61, .inl (fun _ => 0))), ((a 212), .inl (cy 0, 61, .inl (fun _ => 0))), ((a 213), .inl (cy 0, 61, .inl (fun _ => 0))), ((a 214), .inl (cy 2, 6, .inr (.inl (fun _ => 0)))), ((a 215), .inl (cy 2, 6, .inr (.inl (fun _ => 0)))), ((a 216), .inl (cy 0, 4, .inl (upd (upd (upd (upd (fun _ => 0) (0 : Int32).toNatClampNeg (-1)) (1 : Int32).toNatClampNeg (-1)) (2 : Int32).toNatClampNeg (-1)) (3 : Int32).toNatClampNeg (-1)))), ((a 217), .inl (cy 0, 4, .inl (fun _ => 0))), ((a 218), .inl (cy 2, 120, .inr (.inl (fun _ => 0))))]) hX hE (h_safeWays l hlt D cy a (xs (1 : Int32).toNatClampNeg) (xs (2 : Int32).toNatClampNeg) (xs (3 : Int32).toNatClampNeg)) (cwHA 5 htA wd_1203 wd_1201 wd_0 wd_1202 (by decide +kernel) ⟨by decide, by decide⟩) hP hD hS [0, 1, 2, 3, 4, 5, 6, 7, 8, 9, 10, 11, 12, 13, 14, 15, 16, 17, 18, 19, 20, 21] [22, 23, 24, 25, 26, 27, 28, 29, 30, 31, 32, 33, 34, 35, 36, 37, 38, 39, 40] rfl rfl (by decide) rfl hl.1 rfl (Nat.le_of_ble_eq_true rfl) dL_law_2365 (by decide) (fun r_ W1 H locs hw hP hD hS => ?_)
  refine W.widen (k := 134) (n := 17503) (by decide) (by decide) ?_
  obtain ⟨rfl, g_, rfl, hv_⟩ := hw
  have hP : va_P D vwCl [((a 200), .inr (11, [.ref (a 201), .ref (a 202), .ref (a 203), .ref (a 204), .int 0, .ref (a 205), .int 0, .int 0, .int 0, .int 0, .int 0, .int 0, .int 0, .int 0, .int 0, .int (-1), .int 0, .int 0, .int 0, .ref (a 206), .ref (a 207), .int 0, .int 0, .ref (a 208), .int 0, .int 0, .int 0, .int 0, .ref (a 209), .ref (a 210), .ref (a 211), .ref (a 212), .ref (a 213), .ref (a 214), .ref (a 215), .int 0, .ref (a 216), .ref (a 217), .ref (a 218)])), ((a 201), .inl (cy 0, 2260, .inl (upd (upd (fun _ => 0) (1 : Int32).toNatClampNeg 1) (2 : Int32).toNatClampNeg 1))), ((a 202), .inl (cy 0, 2260, .inl (fun _ => 0))), ((a 203), .inl (cy 0, 6780, .inl (fun _ => 0))), ((a 204), .inl (cy 3, 3, .inl (fun _ => 0))), ((a 205), .inl (cy 0, 900, .inl (fun _ => 0))), ((a 206), .inl (cy 0, 64, .inl (fun _ => 0))), ((a 207), .inl (cy 0, 6, .inl (fun _ => 0))), ((a 208), .inl (cy 0, 37, .inl (fun _ => 0))), ((a 209), .inl (cy 0, 61, .inl (fun _ => 0))), ((a 210), .inl (cy 0, 61, .inl (fun _ => 0))), ((a 211), .inl (cy 0, 61, .inl (fun _ => 0))), ((a 212), .inl (cy 0, 61, .inl (fun _ => 0))), ((a 213), .inl (cy 0, 61, .inl (fun _ => 0))), ((a 214), .inl (cy 2, 6, .inr (.inl (fun _ => 0)))), ((a 215), .inl (cy 2, 6, .inr (.inl (fun _ => 0)))), ((a 216), .inl (cy 0, 4, .inl (upd (upd (upd (upd (fun _ => 0) (0 : Int32).toNatClampNeg (-1)) (1 : Int32).toNatClampNeg (-1)) (2 : Int32).toNatClampNeg (-1)) (3 : Int32).toNatClampNeg (-1)))), ((a 217), .inl (cy 0, 4, .inl (fun _ => 0))), ((a 218), .inl (cy 2, 120, .inr (.inl (fun _ => 0)))), ((a 300), .inl (cy 2, 1, .inr (.inl (g_))))] H := hP
  have hD : va_D A [((a 200), .inr (11, [.ref (a 201), .ref (a 202), .ref (a 203), .ref (a 204), .int 0, .ref (a 205), .int 0, .int 0, .int 0, .int 0, .int 0, .int 0, .int 0, .int 0, .int 0, .int (-1), .int 0, .int 0, .int 0, .ref (a 206), .ref (a 207), .int 0, .int 0, .ref (a 208), .int 0, .int 0, .int 0, .int 0, .ref (a 209), .ref (a 210), .ref (a 211), .ref (a 212), .ref (a 213), .ref (a 214), .ref (a 215), .int 0, .ref (a 216), .ref (a 217), .ref (a 218)])), ((a 201), .inl (cy 0, 2260, .inl (upd (upd (fun _ => 0) (1 : Int32).toNatClampNeg 1) (2 : Int32).toNatClampNeg 1))), ((a 202), .inl (cy 0, 2260, .inl (fun _ => 0))), ((a 203), .inl (cy 0, 6780, .inl (fun _ => 0))), ((a 204), .inl (cy 3, 3, .inl (fun _ => 0))), ((a 205), .inl (cy 0, 900, .inl (fun _ => 0))), ((a 206), .inl (cy 0, 64, .inl (fun _ => 0))), ((a 207), .inl (cy 0, 6, .inl (fun _ => 0))), ((a 208), .inl (cy 0, 37, .inl (fun _ => 0))), ((a 209), .inl (cy 0, 61, .inl (fun _ => 0))), ((a 210), .inl (cy 0, 61, .inl (fun _ => 0))), ((a 211), .inl (cy 0, 61, .inl (fun _ => 0))), ((a 212), .inl (cy 0, 61, .inl (fun _ => 0))), ((a 213), .inl (cy 0, 61, .inl (fun _ => 0))), ((a 214), .inl (cy 2, 6, .inr (.inl (fun _ => 0)))), ((a 215), .inl (cy 2, 6, .inr (.inl (fun _ => 0)))), ((a 216), .inl (cy 0, 4, .inl (upd (upd (upd (upd (fun _ => 0) (0 : Int32).toNatClampNeg (-1)) (1 : Int32).toNatClampNeg (-1)) (2 : Int32).toNatClampNeg (-1)) (3 : Int32).toNatClampNeg (-1)))), ((a 217), .inl (cy 0, 4, .inl (fun _ => 0))), ((a 218), .inl (cy 2, 120, .inr (.inl (fun _ => 0)))), ((a 300), .inl (cy 2, 1, .inr (.inl (g_))))] := hD
  refine lv_istore (lv' := [(5, .int (kf_safeWays (xs (1 : Int32).toNatClampNeg) (xs (2 : Int32).toNatClampNeg) (xs (3 : Int32).toNatClampNeg))), (4, .int 0), (3, .ref (a 300)), (2, .ref (a 200)), (1, .ref (a 0)), (0, .ref b)]) hx hb dL_law_2368 hl (by decide) rfl (fun ls hl => ?_)
  refine lv_aload_n hx hb dL_law_2370 rfl (lv_at hl 3 rfl) ?_
  refine lv_aload_n hx hb dL_law_2371 rfl (lv_at hl 5 rfl) ?_
  refine lv_iload hx hb dL_law_2372 (lv_at hl 1 rfl) ?_
  refine lv_iconst (v := 1) hx hb dL_law_2374 (by decide) ?_
  refine lv_iadd hx hb dL_law_2375 ?_
  refine lv_topi (fun x4 ex4 => ?_)
  obtain rfl : x4 = 1 := ex4.trans (by decide)
  refine va_sld hx hb hx7 hbl hbA hS (in_lit (by decide)) dL_law_2376 ?_
  refine lv_aload_n hx hb dL_law_2377 rfl (lv_at hl 5 rfl) ?_
  refine lv_iload hx hb dL_law_2378 (lv_at hl 1 rfl) ?_
  refine lv_iconst (v := 2) hx hb dL_law_2380 (by decide) ?_
  refine lv_iadd hx hb dL_law_2381 ?_
  refine lv_topi (fun x5 ex5 => ?_)
  obtain rfl : x5 = 2 := ex5.trans (by decide)
  refine va_sld hx hb hx7 hbl hbA hS (in_lit (by decide)) dL_law_2382 ?_
  refine lv_aload_n hx hb dL_law_2383 rfl (lv_at hl 5 rfl) ?_
  refine lv_iload hx hb dL_law_2384 (lv_at hl 1 rfl) ?_
  refine lv_iconst (v := 3) hx hb dL_law_2386 (by decide) ?_
  refine lv_iadd hx hb dL_law_2387 ?_
  refine lv_topi (fun x6 ex6 => ?_)
  obtain rfl : x6 = 3 := ex6.trans (by decide)
  refine va_sld hx hb hx7 hbl hbA hS (in_lit (by decide)) dL_law_2388 ?_
  refine kVl (As := [.int (xs (1 : Int32).toNatClampNeg), .int (xs (2 : Int32).toNatClampNeg), .int (xs (3 : Int32).toNatClampNeg)]) (rest := []) (wr := [((a 300), .inl (cy 2, 1, .inr (.inl (g_))))]) hX hE (r_safeWays l D cy a (xs (1 : Int32).toNatClampNeg) (xs (2 : Int32).toNatClampNeg) (xs (3 : Int32).toNatClampNeg)) (cwVA 3 htA wd_1996 wd_1993 wd_10 wd_1994 wd_1995 (by decide +kernel) ⟨by decide, by decide⟩) hP hD hS [0, 1, 2, 3, 4, 5, 6, 7, 8, 9, 10, 11, 12, 13, 14, 15, 16, 17, 18] [19] rfl rfl (by decide) 0 rfl rfl rfl rfl hl.1 rfl (Nat.le_of_ble_eq_true rfl) dL_law_2389 (by decide) (fun r_ W1 H locs hw hP hD hS => ?_)
  refine W.widen (k := 134) (n := 17503) (by decide) (by decide) ?_
  obtain ⟨fs_, rfl, hf_, hr_⟩ := hw
  have hP : va_P D vwCl [((a 300), .inl (cy 2, 1, .inr (.inl (g_)))), ((a 200), .inr (11, fs_))] H := hP
  have hD : va_D A [((a 300), .inl (cy 2, 1, .inr (.inl (g_)))), ((a 200), .inr (11, fs_))] := hD
  refine lv_lstore (lv' := [(6, .long r_), (5, .int (kf_safeWays (xs (1 : Int32).toNatClampNeg) (xs (2 : Int32).toNatClampNeg) (xs (3 : Int32).toNatClampNeg))), (4, .int 0), (3, .ref (a 300)), (2, .ref (a 200)), (1, .ref (a 0)), (0, .ref b)]) hx hb dL_law_2392 hl (by decide) rfl (fun ls hl => ?_)
  refine lv_aload_n hx hb dL_law_2394 rfl (lv_at hl 4 rfl) ?_
  refine kVi (As := []) (rest := []) (wr := [((a 300), .inl (cy 2, 1, .inr (.inl (g_))))]) hX hE (r_thrown l D cy a fs_ (kf_safeWays (xs (1 : Int32).toNatClampNeg) (xs (2 : Int32).toNatClampNeg) (xs (3 : Int32).toNatClampNeg)) hf_) (cwVA 0 htA wd_1476 wd_1473 wd_10 wd_1474 wd_1475 (by decide +kernel) ⟨by decide, by decide⟩) hP hD hS [1] [0] rfl rfl (by decide) 0 rfl rfl rfl rfl hl.1 rfl (Nat.le_of_ble_eq_true rfl) dL_law_2395 (by decide) (fun r_ W1 H locs hw hP hD hS => ?_)
  refine W.widen (k := 134) (n := 17503) (by decide) (by decide) ?_
  have hP : va_P D vwCl [((a 300), .inl (cy 2, 1, .inr (.inl (g_))))] H := hP.sub [0] rfl
  have hD : va_D A [((a 300), .inl (cy 2, 1, .inr (.inl (g_))))] := hD.sub [0] (by rfl) rfl
  obtain rfl := hw
  have hP : va_P D vwCl [((a 300), .inl (cy 2, 1, .inr (.inl (g_))))] H := hP
  have hD : va_D A [((a 300), .inl (cy 2, 1, .inr (.inl (g_))))] := hD
  refine lv_iload hx hb dL_law_2398 (lv_at hl 1 rfl) ?_
  refine lv_icmp_eq (tgt := 2405) hx hb dL_law_2400 (by decide) (fun _ => ?_) (fun q => absurd rfl q)
  refine lv_iload hx hb dL_law_2405 (lv_at hl 1 rfl) ?_
  refine lv_if_ne (tgt := 2421) hx hb dL_law_2407 (by decide) (fun c7 => ?_) (fun c7 => ?_)
  · refine lv_goto (tgt := 3161) hx hb dL_law_2421 (by decide) ?_
    exact W.widen (k := 600000) (n := 7300000) (Nat.le_of_ble_eq_true rfl) (Nat.le_of_ble_eq_true rfl) (kk H locs ls hS (lv_sub hl [2, 6] rfl))
  · refine lv_aload_n hx hb dL_law_2410 rfl (lv_at hl 3 rfl) ?_
    refine lv_iconst (v := 0) hx hb dL_law_2411 (by decide) ?_
    refine va_lald hx hb hK hP 0 2 rfl rfl (in_lit (by decide)) dL_law_2412 ?_
    refine lv_lload hx hb dL_law_2413 (lv_at hl 0 rfl) ?_
    refine W.lcmp hx hb dL_law_2415 ?_
    refine lv_if_eq (tgt := 2421) hx hb dL_law_2416 (by decide) (fun _ => ?_) (fun q => absurd (lgs ((hv_ c7).trans (hr_ c7).symm)) q)
    refine lv_goto (tgt := 3161) hx hb dL_law_2421 (by decide) ?_
    exact W.widen (k := 600000) (n := 7300000) (Nat.le_of_ble_eq_true rfl) (Nat.le_of_ble_eq_true rfl) (kk H locs ls hS (lv_sub hl [2, 6] rfl))
set_option maxHeartbeats 4000000 in
set_option maxRecDepth 100000 in
theorem cs_35 (l : Launch) (hlt : l.stackTraces = false) {p : Program} {e : Env} {s : State} {m : MethodId} {below : List Frame} {meth : Method} {c : Code} {D : va_G} {cy : Nat → ClassId} {A : Nat → Prop} {b : Nat} {xs : Nat → Int32} {H : Heap} {locs : List Loc} {ls : Array Slot} {Q : State → Prop} (a : Nat → Nat) (hX : Ex p s m #[Value.ref b] meth c code ret 8 RL) (hE : Ew D cy A s) (hx7 : va_X b 7 xs s s.heap) (hbl : b < s.heap.size) (hbA : ¬ A b) (hP : va_P D vwCl [((a 0), .inr (10, [.ref (a 1), .int 0, .int 0, .int (-1), .ref (a 2), .ref (a 3), .ref (a 4), .ref (a 5), .ref (a 6), .ref (a 7), .ref (a 8), .ref (a 9), .int 0])), ((a 3), .inr (6, [.ref (a 10), .int 0, .ref (a 21), .ref (a 22), .ref (a 23), .ref (a 24), .ref (a 25), .int 0])), ((a 21), .inl (cy 0, 8, .inl (fun _ => 0))), ((a 22), .inl (cy 0, 8, .inl (fun _ => 0))), ((a 23), .inl (cy 0, 8, .inl (fun _ => 0))), ((a 24), .inl (cy 0, 8, .inl (fun _ => 0))), ((a 25), .inl (cy 0, 4, .inl (fun _ => 0))), ((a 10), .inr (0, [.int 0, .int 1, .int 1, .int 0, .int 0, .ref (a 11), .ref (a 12), .ref (a 13), .null, .null])), ((a 5), .inr (1, [.ref (a 40), .int 0, .int 0, .ref (a 46), .ref (a 47)])), ((a 40), .inr (6, [.ref (a 10), .int 0, .ref (a 41), .ref (a 42), .ref (a 43), .ref (a 44), .ref (a 45), .int 0])), ((a 41), .inl (cy 0, 8, .inl (fun _ => 0))), ((a 42), .inl (cy 0, 8, .inl (fun _ => 0))), ((a 43), .inl (cy 0, 8, .inl (fun _ => 0))), ((a 44), .inl (cy 0, 8, .inl (fun _ => 0))), ((a 45), .inl (cy 0, 4, .inl (fun _ => 0))), ((a 6), .inr (9, [.int 0, .ref (a 51), .ref (a 52), .ref (a 53), .ref (a 54), .ref (a 55)])), ((a 51), .inl (cy 0, 61, .inl (fun _ => 0))), ((a 52), .inl (cy 0, 61, .inl (fun _ => 0))), ((a 53), .inl (cy 0, 61, .inl (fun _ => 0))), ((a 54), .inl (cy 2, 6, .inr (.inl (fun _ => 0)))), ((a 55), .inl (cy 2, 6, .inr (.inl (fun _ => 0)))), ((a 300), .inl (cy 2, 1, .inr (.inl (fun _ => 0)))), ((a 200), .inr (11, [.ref (a 201), .ref (a 202), .ref (a 203), .ref (a 204), .int 0, .ref (a 205), .int 0, .int 0, .int 0, .int 0, .int 0, .int 0, .int 0, .int 0, .int 0, .int (-1), .int 0, .int 0, .int 0, .ref (a 206), .ref (a 207), .int 0, .int 0, .ref (a 208), .int 0, .int 0, .int 0, .int 0, .ref (a 209), .ref (a 210), .ref (a 211), .ref (a 212), .ref (a 213), .ref (a 214), .ref (a 215), .int 0, .ref (a 216), .ref (a 217), .ref (a 218)])), ((a 201), .inl (cy 0, 2260, .inl (upd (upd (fun _ => 0) (1 : Int32).toNatClampNeg 1) (2 : Int32).toNatClampNeg 1))), ((a 202), .inl (cy 0, 2260, .inl (fun _ => 0))), ((a 203), .inl (cy 0, 6780, .inl (fun _ => 0))), ((a 204), .inl (cy 3, 3, .inl (fun _ => 0))), ((a 205), .inl (cy 0, 900, .inl (fun _ => 0))), ((a 206), .inl (cy 0, 64, .inl (fun _ => 0))), ((a 207), .inl (cy 0, 6, .inl (fun _ => 0))), ((a 208), .inl (cy 0, 37, .inl (fun _ => 0))), ((a 209), .inl (cy 0, 61, .inl (fun _ => 0))), ((a 210), .inl (cy 0, 61, .inl (fun _ => 0))), ((a 211), .inl (cy 0, 61, .inl (fun _ => 0))), ((a 212), .inl (cy 0, 61, .inl (fun _ => 0))), ((a 213), .inl (cy 0, 61, .inl (fun _ => 0))), ((a 214), .inl (cy 2, 6, .inr (.inl (fun _ => 0)))), ((a 215), .inl (cy 2, 6, .inr (.inl (fun _ => 0)))), ((a 216), .inl (cy 0, 4, .inl (upd (upd (upd (upd (fun _ => 0) (0 : Int32).toNatClampNeg (-1)) (1 : Int32).toNatClampNeg (-1)) (2 : Int32).toNatClampNeg (-1)) (3 : Int32).toNatClampNeg (-1)))), ((a 217), .inl (cy 0, 4, .inl (fun _ => 0))), ((a 218), .inl (cy 2, 120, .inr (.inl (fun _ => 0))))] H) (hD : va_D A [((a 0), .inr (10, [.ref (a 1), .int 0, .int 0, .int (-1), .ref (a 2), .ref (a 3), .ref (a 4), .ref (a 5), .ref (a 6), .ref (a 7), .ref (a 8), .ref (a 9), .int 0])), ((a 3), .inr (6, [.ref (a 10), .int 0, .ref (a 21), .ref (a 22), .ref (a 23), .ref (a 24), .ref (a 25), .int 0])), ((a 21), .inl (cy 0, 8, .inl (fun _ => 0))), ((a 22), .inl (cy 0, 8, .inl (fun _ => 0))), ((a 23), .inl (cy 0, 8, .inl (fun _ => 0))), ((a 24), .inl (cy 0, 8, .inl (fun _ => 0))), ((a 25), .inl (cy 0, 4, .inl (fun _ => 0))), ((a 10), .inr (0, [.int 0, .int 1, .int 1, .int 0, .int 0, .ref (a 11), .ref (a 12), .ref (a 13), .null, .null])), ((a 5), .inr (1, [.ref (a 40), .int 0, .int 0, .ref (a 46), .ref (a 47)])), ((a 40), .inr (6, [.ref (a 10), .int 0, .ref (a 41), .ref (a 42), .ref (a 43), .ref (a 44), .ref (a 45), .int 0])), ((a 41), .inl (cy 0, 8, .inl (fun _ => 0))), ((a 42), .inl (cy 0, 8, .inl (fun _ => 0))), ((a 43), .inl (cy 0, 8, .inl (fun _ => 0))), ((a 44), .inl (cy 0, 8, .inl (fun _ => 0))), ((a 45), .inl (cy 0, 4, .inl (fun _ => 0))), ((a 6), .inr (9, [.int 0, .ref (a 51), .ref (a 52), .ref (a 53), .ref (a 54), .ref (a 55)])), ((a 51), .inl (cy 0, 61, .inl (fun _ => 0))), ((a 52), .inl (cy 0, 61, .inl (fun _ => 0))), ((a 53), .inl (cy 0, 61, .inl (fun _ => 0))), ((a 54), .inl (cy 2, 6, .inr (.inl (fun _ => 0)))), ((a 55), .inl (cy 2, 6, .inr (.inl (fun _ => 0)))), ((a 300), .inl (cy 2, 1, .inr (.inl (fun _ => 0)))), ((a 200), .inr (11, [.ref (a 201), .ref (a 202), .ref (a 203), .ref (a 204), .int 0, .ref (a 205), .int 0, .int 0, .int 0, .int 0, .int 0, .int 0, .int 0, .int 0, .int 0, .int (-1), .int 0, .int 0, .int 0, .ref (a 206), .ref (a 207), .int 0, .int 0, .ref (a 208), .int 0, .int 0, .int 0, .int 0, .ref (a 209), .ref (a 210), .ref (a 211), .ref (a 212), .ref (a 213), .ref (a 214), .ref (a 215), .int 0, .ref (a 216), .ref (a 217), .ref (a 218)])), ((a 201), .inl (cy 0, 2260, .inl (upd (upd (fun _ => 0) (1 : Int32).toNatClampNeg 1) (2 : Int32).toNatClampNeg 1))), ((a 202), .inl (cy 0, 2260, .inl (fun _ => 0))), ((a 203), .inl (cy 0, 6780, .inl (fun _ => 0))), ((a 204), .inl (cy 3, 3, .inl (fun _ => 0))), ((a 205), .inl (cy 0, 900, .inl (fun _ => 0))), ((a 206), .inl (cy 0, 64, .inl (fun _ => 0))), ((a 207), .inl (cy 0, 6, .inl (fun _ => 0))), ((a 208), .inl (cy 0, 37, .inl (fun _ => 0))), ((a 209), .inl (cy 0, 61, .inl (fun _ => 0))), ((a 210), .inl (cy 0, 61, .inl (fun _ => 0))), ((a 211), .inl (cy 0, 61, .inl (fun _ => 0))), ((a 212), .inl (cy 0, 61, .inl (fun _ => 0))), ((a 213), .inl (cy 0, 61, .inl (fun _ => 0))), ((a 214), .inl (cy 2, 6, .inr (.inl (fun _ => 0)))), ((a 215), .inl (cy 2, 6, .inr (.inl (fun _ => 0)))), ((a 216), .inl (cy 0, 4, .inl (upd (upd (upd (upd (fun _ => 0) (0 : Int32).toNatClampNeg (-1)) (1 : Int32).toNatClampNeg (-1)) (2 : Int32).toNatClampNeg (-1)) (3 : Int32).toNatClampNeg (-1)))), ((a 217), .inl (cy 0, 4, .inl (fun _ => 0))), ((a 218), .inl (cy 2, 120, .inr (.inl (fun _ => 0))))]) (hS : va_S A s.heap H locs) (hl : lv_has ls 8 [(4, .int 0), (3, .ref (a 300)), (2, .ref (a 200)), (1, .ref (a 0)), (0, .ref b)]) (kk : ∀ (H : Heap) (locs : List Loc) (ls : Array Slot), va_S A s.heap H locs → lv_has ls 8 [(4, .int 0), (0, .ref b)] → W p l e room_1 s m #[Value.ref b] below meth c H locs 600000 7300000 Q (F0 m 3161 ls [])) : W p l e room_1 s m #[Value.ref b] below meth c H locs 131 17485 Q (F0 m 2424 ls []) := by
  obtain ⟨hx, hb, hr, hml, hown, htA, hlk⟩ := id hX
  have hK := hE.1
  refine lv_aload_n hx hb dL_law_2424 rfl (lv_at hl 3 rfl) ?_
  refine lv_aload_n hx hb dL_law_2425 rfl (lv_at hl 4 rfl) ?_
  refine lv_iload hx hb dL_law_2426 (lv_at hl 0 rfl) ?_
  refine lv_iconst (v := 1) hx hb dL_law_2428 (by decide) ?_
  refine lv_iadd hx hb dL_law_2429 ?_
  refine lv_topi (fun x1 ex1 => ?_)
  obtain rfl : x1 = 1 := ex1.trans (by decide)
  refine va_sld hx hb hx7 hbl hbA hS (in_lit (by decide)) dL_law_2430 ?_
  refine lv_aload_n hx hb dL_law_2431 rfl (lv_at hl 4 rfl) ?_
  refine lv_iload hx hb dL_law_2432 (lv_at hl 0 rfl) ?_
  refine lv_iconst (v := 2) hx hb dL_law_2434 (by decide) ?_
  refine lv_iadd hx hb dL_law_2435 ?_
  refine lv_topi (fun x2 ex2 => ?_)
  obtain rfl : x2 = 2 := ex2.trans (by decide)
  refine va_sld hx hb hx7 hbl hbA hS (in_lit (by decide)) dL_law_2436 ?_
  refine lv_aload_n hx hb dL_law_2437 rfl (lv_at hl 1 rfl) ?_
  refine kHi (As := [.ref (a 0), .int (xs (1 : Int32).toNatClampNeg), .int (xs (2 : Int32).toNatClampNeg), .ref (a 300)]) (rest := []) (wr := [((a 200), .inr (11, [.ref (a 201), .ref (a 202), .ref (a 203), .ref (a 204), .int 0, .ref (a 205), .int 0, .int 0, .int 0, .int 0, .int 0, .int 0, .int 0, .int 0, .int 0, .int (-1), .int 0, .int 0, .int 0, .ref (a 206), .ref (a 207), .int 0, .int 0, .ref (a 208), .int 0, .int 0, .int 0, .int 0, .ref (a 209), .ref (a 210), .ref (a 211), .ref (a 212), .ref (a 213), .ref (a 214), .ref (a 215), .int 0, .ref (a 216), .ref (a 217), .ref (a 218)])), ((a 201), .inl (cy 0, 2260, .inl (upd (upd (fun _ => 0) (1 : Int32).toNatClampNeg 1) (2 : Int32).toNatClampNeg 1))), ((a 202), .inl (cy 0, 2260, .inl (fun _ => 0))), ((a 203), .inl (cy 0, 6780, .inl (fun _ => 0))), ((a 204), .inl (cy 3, 3, .inl (fun _ => 0))), ((a 205), .inl (cy 0, 900, .inl (fun _ => 0))), ((a 206), .inl (cy 0, 64, .inl (fun _ => 0))), ((a 207), .inl (cy 0, 6, .inl (fun _ => 0))), ((a 208), .inl (cy 0, 37, .inl (fun _ => 0))), ((a 209), .inl (cy 0, 61, .inl (fun _ => 0))), ((a 210), .inl (cy 0, 61, .inl (fun _ => 0))), ((a 211), .inl (cy 0, 61, .inl (fun _ => 0))), ((a 212), .inl (cy 0, 61, .inl (fun _ => 0))), ((a 213), .inl (cy 0, 61, .inl (fun _ => 0))), ((a 214), .inl (cy 2, 6, .inr (.inl (fun _ => 0)))), ((a 215), .inl (cy 2, 6, .inr (.inl (fun _ => 0)))), ((a 216), .inl (cy 0, 4, .inl (upd (upd (upd (upd (fun _ => 0) (0 : Int32).toNatClampNeg (-1)) (1 : Int32).toNatClampNeg (-1)) (2 : Int32).toNatClampNeg (-1)) (3 : Int32).toNatClampNeg (-1)))), ((a 217), .inl (cy 0, 4, .inl (fun _ => 0))), ((a 218), .inl (cy 2, 120, .inr (.inl (fun _ => 0))))]) hX hE (h_safeIn l hlt D cy a (xs (1 : Int32).toNatClampNeg) (xs (2 : Int32).toNatClampNeg)) (cwHA 4 htA wd_1219 wd_1217 wd_0 wd_1218 (by decide +kernel) ⟨by decide, by decide⟩) hP hD hS [0, 1, 2, 3, 4, 5, 6, 7, 8, 9, 10, 11, 12, 13, 14, 15, 16, 17, 18, 19, 20, 21] [22, 23, 24, 25, 26, 27, 28, 29, 30, 31, 32, 33, 34, 35, 36, 37, 38, 39, 40] rfl rfl (by decide) rfl hl.1 rfl (Nat.le_of_ble_eq_true rfl) dL_law_2438 (by decide) (fun r_ W1 H locs hw hP hD hS => ?_)
  refine W.widen (k := 133) (n := 17497) (by decide) (by decide) ?_
  obtain ⟨rfl, g_, rfl, hv_⟩ := hw
  have hP : va_P D vwCl [((a 200), .inr (11, [.ref (a 201), .ref (a 202), .ref (a 203), .ref (a 204), .int 0, .ref (a 205), .int 0, .int 0, .int 0, .int 0, .int 0, .int 0, .int 0, .int 0, .int 0, .int (-1), .int 0, .int 0, .int 0, .ref (a 206), .ref (a 207), .int 0, .int 0, .ref (a 208), .int 0, .int 0, .int 0, .int 0, .ref (a 209), .ref (a 210), .ref (a 211), .ref (a 212), .ref (a 213), .ref (a 214), .ref (a 215), .int 0, .ref (a 216), .ref (a 217), .ref (a 218)])), ((a 201), .inl (cy 0, 2260, .inl (upd (upd (fun _ => 0) (1 : Int32).toNatClampNeg 1) (2 : Int32).toNatClampNeg 1))), ((a 202), .inl (cy 0, 2260, .inl (fun _ => 0))), ((a 203), .inl (cy 0, 6780, .inl (fun _ => 0))), ((a 204), .inl (cy 3, 3, .inl (fun _ => 0))), ((a 205), .inl (cy 0, 900, .inl (fun _ => 0))), ((a 206), .inl (cy 0, 64, .inl (fun _ => 0))), ((a 207), .inl (cy 0, 6, .inl (fun _ => 0))), ((a 208), .inl (cy 0, 37, .inl (fun _ => 0))), ((a 209), .inl (cy 0, 61, .inl (fun _ => 0))), ((a 210), .inl (cy 0, 61, .inl (fun _ => 0))), ((a 211), .inl (cy 0, 61, .inl (fun _ => 0))), ((a 212), .inl (cy 0, 61, .inl (fun _ => 0))), ((a 213), .inl (cy 0, 61, .inl (fun _ => 0))), ((a 214), .inl (cy 2, 6, .inr (.inl (fun _ => 0)))), ((a 215), .inl (cy 2, 6, .inr (.inl (fun _ => 0)))), ((a 216), .inl (cy 0, 4, .inl (upd (upd (upd (upd (fun _ => 0) (0 : Int32).toNatClampNeg (-1)) (1 : Int32).toNatClampNeg (-1)) (2 : Int32).toNatClampNeg (-1)) (3 : Int32).toNatClampNeg (-1)))), ((a 217), .inl (cy 0, 4, .inl (fun _ => 0))), ((a 218), .inl (cy 2, 120, .inr (.inl (fun _ => 0)))), ((a 300), .inl (cy 2, 1, .inr (.inl (g_))))] H := hP
  have hD : va_D A [((a 200), .inr (11, [.ref (a 201), .ref (a 202), .ref (a 203), .ref (a 204), .int 0, .ref (a 205), .int 0, .int 0, .int 0, .int 0, .int 0, .int 0, .int 0, .int 0, .int 0, .int (-1), .int 0, .int 0, .int 0, .ref (a 206), .ref (a 207), .int 0, .int 0, .ref (a 208), .int 0, .int 0, .int 0, .int 0, .ref (a 209), .ref (a 210), .ref (a 211), .ref (a 212), .ref (a 213), .ref (a 214), .ref (a 215), .int 0, .ref (a 216), .ref (a 217), .ref (a 218)])), ((a 201), .inl (cy 0, 2260, .inl (upd (upd (fun _ => 0) (1 : Int32).toNatClampNeg 1) (2 : Int32).toNatClampNeg 1))), ((a 202), .inl (cy 0, 2260, .inl (fun _ => 0))), ((a 203), .inl (cy 0, 6780, .inl (fun _ => 0))), ((a 204), .inl (cy 3, 3, .inl (fun _ => 0))), ((a 205), .inl (cy 0, 900, .inl (fun _ => 0))), ((a 206), .inl (cy 0, 64, .inl (fun _ => 0))), ((a 207), .inl (cy 0, 6, .inl (fun _ => 0))), ((a 208), .inl (cy 0, 37, .inl (fun _ => 0))), ((a 209), .inl (cy 0, 61, .inl (fun _ => 0))), ((a 210), .inl (cy 0, 61, .inl (fun _ => 0))), ((a 211), .inl (cy 0, 61, .inl (fun _ => 0))), ((a 212), .inl (cy 0, 61, .inl (fun _ => 0))), ((a 213), .inl (cy 0, 61, .inl (fun _ => 0))), ((a 214), .inl (cy 2, 6, .inr (.inl (fun _ => 0)))), ((a 215), .inl (cy 2, 6, .inr (.inl (fun _ => 0)))), ((a 216), .inl (cy 0, 4, .inl (upd (upd (upd (upd (fun _ => 0) (0 : Int32).toNatClampNeg (-1)) (1 : Int32).toNatClampNeg (-1)) (2 : Int32).toNatClampNeg (-1)) (3 : Int32).toNatClampNeg (-1)))), ((a 217), .inl (cy 0, 4, .inl (fun _ => 0))), ((a 218), .inl (cy 2, 120, .inr (.inl (fun _ => 0)))), ((a 300), .inl (cy 2, 1, .inr (.inl (g_))))] := hD
  refine lv_istore (lv' := [(5, .int (kf_safeIn (xs (1 : Int32).toNatClampNeg) (xs (2 : Int32).toNatClampNeg))), (4, .int 0), (3, .ref (a 300)), (2, .ref (a 200)), (1, .ref (a 0)), (0, .ref b)]) hx hb dL_law_2441 hl (by decide) rfl (fun ls hl => ?_)
  refine lv_aload_n hx hb dL_law_2443 rfl (lv_at hl 3 rfl) ?_
  refine lv_aload_n hx hb dL_law_2444 rfl (lv_at hl 5 rfl) ?_
  refine lv_iload hx hb dL_law_2445 (lv_at hl 1 rfl) ?_
  refine lv_iconst (v := 1) hx hb dL_law_2447 (by decide) ?_
  refine lv_iadd hx hb dL_law_2448 ?_
  refine lv_topi (fun x3 ex3 => ?_)
  obtain rfl : x3 = 1 := ex3.trans (by decide)
  refine va_sld hx hb hx7 hbl hbA hS (in_lit (by decide)) dL_law_2449 ?_
  refine lv_aload_n hx hb dL_law_2450 rfl (lv_at hl 5 rfl) ?_
  refine lv_iload hx hb dL_law_2451 (lv_at hl 1 rfl) ?_
  refine lv_iconst (v := 2) hx hb dL_law_2453 (by decide) ?_
  refine lv_iadd hx hb dL_law_2454 ?_
  refine lv_topi (fun x4 ex4 => ?_)
  obtain rfl : x4 = 2 := ex4.trans (by decide)
  refine va_sld hx hb hx7 hbl hbA hS (in_lit (by decide)) dL_law_2455 ?_
  refine kVi (As := [.int (xs (1 : Int32).toNatClampNeg), .int (xs (2 : Int32).toNatClampNeg)]) (rest := []) (wr := [((a 300), .inl (cy 2, 1, .inr (.inl (g_))))]) hX hE (r_safeIn l D cy a (xs (1 : Int32).toNatClampNeg) (xs (2 : Int32).toNatClampNeg)) (cwVA 2 htA wd_2005 wd_2002 wd_10 wd_2003 wd_2004 (by decide +kernel) ⟨by decide, by decide⟩) hP hD hS [0, 1, 2, 3, 4, 5, 6, 7, 8, 9, 10, 11, 12, 13, 14, 15, 16, 17, 18] [19] rfl rfl (by decide) 0 rfl rfl rfl rfl hl.1 rfl (Nat.le_of_ble_eq_true rfl) dL_law_2456 (by decide) (fun r_ W1 H locs hw hP hD hS => ?_)
  refine W.widen (k := 133) (n := 17497) (by decide) (by decide) ?_
  obtain ⟨fs_, rfl, hf_, hr_⟩ := hw
  have hP : va_P D vwCl [((a 300), .inl (cy 2, 1, .inr (.inl (g_)))), ((a 200), .inr (11, fs_))] H := hP
  have hD : va_D A [((a 300), .inl (cy 2, 1, .inr (.inl (g_)))), ((a 200), .inr (11, fs_))] := hD
  refine lv_istore (lv' := [(6, .int r_), (5, .int (kf_safeIn (xs (1 : Int32).toNatClampNeg) (xs (2 : Int32).toNatClampNeg))), (4, .int 0), (3, .ref (a 300)), (2, .ref (a 200)), (1, .ref (a 0)), (0, .ref b)]) hx hb dL_law_2459 hl (by decide) rfl (fun ls hl => ?_)
  refine lv_aload_n hx hb dL_law_2461 rfl (lv_at hl 4 rfl) ?_
  refine kVi (As := []) (rest := []) (wr := [((a 300), .inl (cy 2, 1, .inr (.inl (g_))))]) hX hE (r_thrown l D cy a fs_ (kf_safeIn (xs (1 : Int32).toNatClampNeg) (xs (2 : Int32).toNatClampNeg)) hf_) (cwVA 0 htA wd_1476 wd_1473 wd_10 wd_1474 wd_1475 (by decide +kernel) ⟨by decide, by decide⟩) hP hD hS [1] [0] rfl rfl (by decide) 0 rfl rfl rfl rfl hl.1 rfl (Nat.le_of_ble_eq_true rfl) dL_law_2462 (by decide) (fun r_ W1 H locs hw hP hD hS => ?_)
  refine W.widen (k := 133) (n := 17497) (by decide) (by decide) ?_
  have hP : va_P D vwCl [((a 300), .inl (cy 2, 1, .inr (.inl (g_))))] H := hP.sub [0] rfl
  have hD : va_D A [((a 300), .inl (cy 2, 1, .inr (.inl (g_))))] := hD.sub [0] (by rfl) rfl
  obtain rfl := hw
  have hP : va_P D vwCl [((a 300), .inl (cy 2, 1, .inr (.inl (g_))))] H := hP
  have hD : va_D A [((a 300), .inl (cy 2, 1, .inr (.inl (g_))))] := hD
  refine lv_iload hx hb dL_law_2465 (lv_at hl 1 rfl) ?_
  refine lv_icmp_eq (tgt := 2472) hx hb dL_law_2467 (by decide) (fun _ => ?_) (fun q => absurd rfl q)
  refine lv_iload hx hb dL_law_2472 (lv_at hl 1 rfl) ?_
  refine lv_if_ne (tgt := 2489) hx hb dL_law_2474 (by decide) (fun c5 => ?_) (fun c5 => ?_)
  · refine lv_goto (tgt := 3161) hx hb dL_law_2489 (by decide) ?_
    exact W.widen (k := 600000) (n := 7300000) (Nat.le_of_ble_eq_true rfl) (Nat.le_of_ble_eq_true rfl) (kk H locs ls hS (lv_sub hl [2, 6] rfl))
  · refine lv_aload_n hx hb dL_law_2477 rfl (lv_at hl 3 rfl) ?_
    refine lv_iconst (v := 0) hx hb dL_law_2478 (by decide) ?_
    refine va_lald hx hb hK hP 0 2 rfl rfl (in_lit (by decide)) dL_law_2479 ?_
    refine lv_iload hx hb dL_law_2480 (lv_at hl 0 rfl) ?_
    refine lv_i2l hx hb dL_law_2482 rfl ?_
    refine W.lcmp hx hb dL_law_2483 ?_
    refine lv_if_eq (tgt := 2489) hx hb dL_law_2484 (by decide) (fun _ => ?_) (fun q => absurd (lgs ((hv_ c5).trans (hr_ c5).symm)) q)
    refine lv_goto (tgt := 3161) hx hb dL_law_2489 (by decide) ?_
    exact W.widen (k := 600000) (n := 7300000) (Nat.le_of_ble_eq_true rfl) (Nat.le_of_ble_eq_true rfl) (kk H locs ls hS (lv_sub hl [2, 6] rfl))
set_option maxHeartbeats 4000000 in
set_option maxRecDepth 100000 in
theorem cs_36 (l : Launch) (hlt : l.stackTraces = false) {p : Program} {e : Env} {s : State} {m : MethodId} {below : List Frame} {meth : Method} {c : Code} {D : va_G} {cy : Nat → ClassId} {A : Nat → Prop} {b : Nat} {xs : Nat → Int32} {H : Heap} {locs : List Loc} {ls : Array Slot} {Q : State → Prop} (a : Nat → Nat) (hX : Ex p s m #[Value.ref b] meth c code ret 8 RL) (hE : Ew D cy A s) (hx7 : va_X b 7 xs s s.heap) (hbl : b < s.heap.size) (hbA : ¬ A b) (hP : va_P D vwCl [((a 0), .inr (10, [.ref (a 1), .int 0, .int 0, .int (-1), .ref (a 2), .ref (a 3), .ref (a 4), .ref (a 5), .ref (a 6), .ref (a 7), .ref (a 8), .ref (a 9), .int 0])), ((a 3), .inr (6, [.ref (a 10), .int 0, .ref (a 21), .ref (a 22), .ref (a 23), .ref (a 24), .ref (a 25), .int 0])), ((a 21), .inl (cy 0, 8, .inl (fun _ => 0))), ((a 22), .inl (cy 0, 8, .inl (fun _ => 0))), ((a 23), .inl (cy 0, 8, .inl (fun _ => 0))), ((a 24), .inl (cy 0, 8, .inl (fun _ => 0))), ((a 25), .inl (cy 0, 4, .inl (fun _ => 0))), ((a 10), .inr (0, [.int 0, .int 1, .int 1, .int 0, .int 0, .ref (a 11), .ref (a 12), .ref (a 13), .null, .null])), ((a 5), .inr (1, [.ref (a 40), .int 0, .int 0, .ref (a 46), .ref (a 47)])), ((a 40), .inr (6, [.ref (a 10), .int 0, .ref (a 41), .ref (a 42), .ref (a 43), .ref (a 44), .ref (a 45), .int 0])), ((a 41), .inl (cy 0, 8, .inl (fun _ => 0))), ((a 42), .inl (cy 0, 8, .inl (fun _ => 0))), ((a 43), .inl (cy 0, 8, .inl (fun _ => 0))), ((a 44), .inl (cy 0, 8, .inl (fun _ => 0))), ((a 45), .inl (cy 0, 4, .inl (fun _ => 0))), ((a 200), .inr (11, [.ref (a 201), .ref (a 202), .ref (a 203), .ref (a 204), .int 0, .ref (a 205), .int 0, .int 0, .int 0, .int 0, .int 0, .int 0, .int 0, .int 0, .int 0, .int (-1), .int 0, .int 0, .int 0, .ref (a 206), .ref (a 207), .int 0, .int 0, .ref (a 208), .int 0, .int 0, .int 0, .int 0, .ref (a 209), .ref (a 210), .ref (a 211), .ref (a 212), .ref (a 213), .ref (a 214), .ref (a 215), .int 0, .ref (a 216), .ref (a 217), .ref (a 218)])), ((a 201), .inl (cy 0, 2260, .inl (upd (upd (fun _ => 0) (1 : Int32).toNatClampNeg 1) (2 : Int32).toNatClampNeg 1))), ((a 202), .inl (cy 0, 2260, .inl (fun _ => 0))), ((a 203), .inl (cy 0, 6780, .inl (fun _ => 0))), ((a 204), .inl (cy 3, 3, .inl (fun _ => 0))), ((a 205), .inl (cy 0, 900, .inl (fun _ => 0))), ((a 206), .inl (cy 0, 64, .inl (fun _ => 0))), ((a 207), .inl (cy 0, 6, .inl (fun _ => 0))), ((a 208), .inl (cy 0, 37, .inl (fun _ => 0))), ((a 209), .inl (cy 0, 61, .inl (fun _ => 0))), ((a 210), .inl (cy 0, 61, .inl (fun _ => 0))), ((a 211), .inl (cy 0, 61, .inl (fun _ => 0))), ((a 212), .inl (cy 0, 61, .inl (fun _ => 0))), ((a 213), .inl (cy 0, 61, .inl (fun _ => 0))), ((a 214), .inl (cy 2, 6, .inr (.inl (fun _ => 0)))), ((a 215), .inl (cy 2, 6, .inr (.inl (fun _ => 0)))), ((a 216), .inl (cy 0, 4, .inl (upd (upd (upd (upd (fun _ => 0) (0 : Int32).toNatClampNeg (-1)) (1 : Int32).toNatClampNeg (-1)) (2 : Int32).toNatClampNeg (-1)) (3 : Int32).toNatClampNeg (-1)))), ((a 217), .inl (cy 0, 4, .inl (fun _ => 0))), ((a 218), .inl (cy 2, 120, .inr (.inl (fun _ => 0))))] H) (hD : va_D A [((a 0), .inr (10, [.ref (a 1), .int 0, .int 0, .int (-1), .ref (a 2), .ref (a 3), .ref (a 4), .ref (a 5), .ref (a 6), .ref (a 7), .ref (a 8), .ref (a 9), .int 0])), ((a 3), .inr (6, [.ref (a 10), .int 0, .ref (a 21), .ref (a 22), .ref (a 23), .ref (a 24), .ref (a 25), .int 0])), ((a 21), .inl (cy 0, 8, .inl (fun _ => 0))), ((a 22), .inl (cy 0, 8, .inl (fun _ => 0))), ((a 23), .inl (cy 0, 8, .inl (fun _ => 0))), ((a 24), .inl (cy 0, 8, .inl (fun _ => 0))), ((a 25), .inl (cy 0, 4, .inl (fun _ => 0))), ((a 10), .inr (0, [.int 0, .int 1, .int 1, .int 0, .int 0, .ref (a 11), .ref (a 12), .ref (a 13), .null, .null])), ((a 5), .inr (1, [.ref (a 40), .int 0, .int 0, .ref (a 46), .ref (a 47)])), ((a 40), .inr (6, [.ref (a 10), .int 0, .ref (a 41), .ref (a 42), .ref (a 43), .ref (a 44), .ref (a 45), .int 0])), ((a 41), .inl (cy 0, 8, .inl (fun _ => 0))), ((a 42), .inl (cy 0, 8, .inl (fun _ => 0))), ((a 43), .inl (cy 0, 8, .inl (fun _ => 0))), ((a 44), .inl (cy 0, 8, .inl (fun _ => 0))), ((a 45), .inl (cy 0, 4, .inl (fun _ => 0))), ((a 200), .inr (11, [.ref (a 201), .ref (a 202), .ref (a 203), .ref (a 204), .int 0, .ref (a 205), .int 0, .int 0, .int 0, .int 0, .int 0, .int 0, .int 0, .int 0, .int 0, .int (-1), .int 0, .int 0, .int 0, .ref (a 206), .ref (a 207), .int 0, .int 0, .ref (a 208), .int 0, .int 0, .int 0, .int 0, .ref (a 209), .ref (a 210), .ref (a 211), .ref (a 212), .ref (a 213), .ref (a 214), .ref (a 215), .int 0, .ref (a 216), .ref (a 217), .ref (a 218)])), ((a 201), .inl (cy 0, 2260, .inl (upd (upd (fun _ => 0) (1 : Int32).toNatClampNeg 1) (2 : Int32).toNatClampNeg 1))), ((a 202), .inl (cy 0, 2260, .inl (fun _ => 0))), ((a 203), .inl (cy 0, 6780, .inl (fun _ => 0))), ((a 204), .inl (cy 3, 3, .inl (fun _ => 0))), ((a 205), .inl (cy 0, 900, .inl (fun _ => 0))), ((a 206), .inl (cy 0, 64, .inl (fun _ => 0))), ((a 207), .inl (cy 0, 6, .inl (fun _ => 0))), ((a 208), .inl (cy 0, 37, .inl (fun _ => 0))), ((a 209), .inl (cy 0, 61, .inl (fun _ => 0))), ((a 210), .inl (cy 0, 61, .inl (fun _ => 0))), ((a 211), .inl (cy 0, 61, .inl (fun _ => 0))), ((a 212), .inl (cy 0, 61, .inl (fun _ => 0))), ((a 213), .inl (cy 0, 61, .inl (fun _ => 0))), ((a 214), .inl (cy 2, 6, .inr (.inl (fun _ => 0)))), ((a 215), .inl (cy 2, 6, .inr (.inl (fun _ => 0)))), ((a 216), .inl (cy 0, 4, .inl (upd (upd (upd (upd (fun _ => 0) (0 : Int32).toNatClampNeg (-1)) (1 : Int32).toNatClampNeg (-1)) (2 : Int32).toNatClampNeg (-1)) (3 : Int32).toNatClampNeg (-1)))), ((a 217), .inl (cy 0, 4, .inl (fun _ => 0))), ((a 218), .inl (cy 2, 120, .inr (.inl (fun _ => 0))))]) (hS : va_S A s.heap H locs) (hl : lv_has ls 8 [(4, .int 0), (3, .ref (a 300)), (2, .ref (a 200)), (1, .ref (a 0)), (0, .ref b)]) (kk : ∀ (H : Heap) (locs : List Loc) (ls : Array Slot), va_S A s.heap H locs → lv_has ls 8 [(4, .int 0), (0, .ref b)] → W p l e room_1 s m #[Value.ref b] below meth c H locs 600000 7300000 Q (F0 m 3161 ls [])) : W p l e room_1 s m #[Value.ref b] below meth c H locs 131 17485 Q (F0 m 2492 ls []) := by
  obtain ⟨hx, hb, hr, hml, hown, htA, hlk⟩ := id hX
  have hK := hE.1
  refine lv_aload_n hx hb dL_law_2492 rfl (lv_at hl 3 rfl) ?_
  refine kVi (As := []) (rest := []) (wr := [((a 200), .inr (11, [.ref (a 201), .ref (a 202), .ref (a 203), .ref (a 204), .int 0, .ref (a 205), .int 0, .int 0, .int 0, .int 0, .int 0, .int 0, .int 0, .int 0, .int 0, .int (-1), .int 0, .int 0, .int 0, .ref (a 206), .ref (a 207), .int 0, .int 0, .ref (a 208), .int 0, .int 0, .int 0, .int 0, .ref (a 209), .ref (a 210), .ref (a 211), .ref (a 212), .ref (a 213), .ref (a 214), .ref (a 215), .int 0, .ref (a 216), .ref (a 217), .ref (a 218)])), ((a 201), .inl (cy 0, 2260, .inl (upd (upd (fun _ => 0) (1 : Int32).toNatClampNeg 1) (2 : Int32).toNatClampNeg 1))), ((a 202), .inl (cy 0, 2260, .inl (fun _ => 0))), ((a 203), .inl (cy 0, 6780, .inl (fun _ => 0))), ((a 204), .inl (cy 3, 3, .inl (fun _ => 0))), ((a 205), .inl (cy 0, 900, .inl (fun _ => 0))), ((a 206), .inl (cy 0, 64, .inl (fun _ => 0))), ((a 207), .inl (cy 0, 6, .inl (fun _ => 0))), ((a 208), .inl (cy 0, 37, .inl (fun _ => 0))), ((a 209), .inl (cy 0, 61, .inl (fun _ => 0))), ((a 210), .inl (cy 0, 61, .inl (fun _ => 0))), ((a 211), .inl (cy 0, 61, .inl (fun _ => 0))), ((a 212), .inl (cy 0, 61, .inl (fun _ => 0))), ((a 213), .inl (cy 0, 61, .inl (fun _ => 0))), ((a 214), .inl (cy 2, 6, .inr (.inl (fun _ => 0)))), ((a 215), .inl (cy 2, 6, .inr (.inl (fun _ => 0)))), ((a 216), .inl (cy 0, 4, .inl (upd (upd (upd (upd (fun _ => 0) (0 : Int32).toNatClampNeg (-1)) (1 : Int32).toNatClampNeg (-1)) (2 : Int32).toNatClampNeg (-1)) (3 : Int32).toNatClampNeg (-1)))), ((a 217), .inl (cy 0, 4, .inl (fun _ => 0))), ((a 218), .inl (cy 2, 120, .inr (.inl (fun _ => 0))))]) hX hE (m_shelter l D cy a) (cwVA 0 htA wd_504 wd_501 wd_1 wd_502 wd_503 (by decide +kernel) ⟨by decide, by decide⟩) hP hD hS [0, 1, 2, 3, 4, 5, 6, 7, 8, 9, 10, 11, 12, 13, 14] [15, 16, 17, 18, 19, 20, 21, 22, 23, 24, 25, 26, 27, 28, 29, 30, 31, 32, 33] rfl rfl (by decide) 0 rfl rfl rfl rfl hl.1 rfl (Nat.le_of_ble_eq_true rfl) dL_law_2493 (by decide) (fun r_ W1 H locs hw hP hD hS => ?_)
  refine W.widen (k := 131) (n := 17485) (by decide) (by decide) ?_
  have hP : va_P D vwCl [((a 200), .inr (11, [.ref (a 201), .ref (a 202), .ref (a 203), .ref (a 204), .int 0, .ref (a 205), .int 0, .int 0, .int 0, .int 0, .int 0, .int 0, .int 0, .int 0, .int 0, .int (-1), .int 0, .int 0, .int 0, .ref (a 206), .ref (a 207), .int 0, .int 0, .ref (a 208), .int 0, .int 0, .int 0, .int 0, .ref (a 209), .ref (a 210), .ref (a 211), .ref (a 212), .ref (a 213), .ref (a 214), .ref (a 215), .int 0, .ref (a 216), .ref (a 217), .ref (a 218)])), ((a 201), .inl (cy 0, 2260, .inl (upd (upd (fun _ => 0) (1 : Int32).toNatClampNeg 1) (2 : Int32).toNatClampNeg 1))), ((a 202), .inl (cy 0, 2260, .inl (fun _ => 0))), ((a 203), .inl (cy 0, 6780, .inl (fun _ => 0))), ((a 204), .inl (cy 3, 3, .inl (fun _ => 0))), ((a 205), .inl (cy 0, 900, .inl (fun _ => 0))), ((a 206), .inl (cy 0, 64, .inl (fun _ => 0))), ((a 207), .inl (cy 0, 6, .inl (fun _ => 0))), ((a 208), .inl (cy 0, 37, .inl (fun _ => 0))), ((a 209), .inl (cy 0, 61, .inl (fun _ => 0))), ((a 210), .inl (cy 0, 61, .inl (fun _ => 0))), ((a 211), .inl (cy 0, 61, .inl (fun _ => 0))), ((a 212), .inl (cy 0, 61, .inl (fun _ => 0))), ((a 213), .inl (cy 0, 61, .inl (fun _ => 0))), ((a 214), .inl (cy 2, 6, .inr (.inl (fun _ => 0)))), ((a 215), .inl (cy 2, 6, .inr (.inl (fun _ => 0)))), ((a 216), .inl (cy 0, 4, .inl (upd (upd (upd (upd (fun _ => 0) (0 : Int32).toNatClampNeg (-1)) (1 : Int32).toNatClampNeg (-1)) (2 : Int32).toNatClampNeg (-1)) (3 : Int32).toNatClampNeg (-1)))), ((a 217), .inl (cy 0, 4, .inl (fun _ => 0))), ((a 218), .inl (cy 2, 120, .inr (.inl (fun _ => 0))))] H := hP.sub [0, 1, 2, 3, 4, 5, 6, 7, 8, 9, 10, 11, 12, 13, 14, 15, 16, 17, 18] rfl
  have hD : va_D A [((a 200), .inr (11, [.ref (a 201), .ref (a 202), .ref (a 203), .ref (a 204), .int 0, .ref (a 205), .int 0, .int 0, .int 0, .int 0, .int 0, .int 0, .int 0, .int 0, .int 0, .int (-1), .int 0, .int 0, .int 0, .ref (a 206), .ref (a 207), .int 0, .int 0, .ref (a 208), .int 0, .int 0, .int 0, .int 0, .ref (a 209), .ref (a 210), .ref (a 211), .ref (a 212), .ref (a 213), .ref (a 214), .ref (a 215), .int 0, .ref (a 216), .ref (a 217), .ref (a 218)])), ((a 201), .inl (cy 0, 2260, .inl (upd (upd (fun _ => 0) (1 : Int32).toNatClampNeg 1) (2 : Int32).toNatClampNeg 1))), ((a 202), .inl (cy 0, 2260, .inl (fun _ => 0))), ((a 203), .inl (cy 0, 6780, .inl (fun _ => 0))), ((a 204), .inl (cy 3, 3, .inl (fun _ => 0))), ((a 205), .inl (cy 0, 900, .inl (fun _ => 0))), ((a 206), .inl (cy 0, 64, .inl (fun _ => 0))), ((a 207), .inl (cy 0, 6, .inl (fun _ => 0))), ((a 208), .inl (cy 0, 37, .inl (fun _ => 0))), ((a 209), .inl (cy 0, 61, .inl (fun _ => 0))), ((a 210), .inl (cy 0, 61, .inl (fun _ => 0))), ((a 211), .inl (cy 0, 61, .inl (fun _ => 0))), ((a 212), .inl (cy 0, 61, .inl (fun _ => 0))), ((a 213), .inl (cy 0, 61, .inl (fun _ => 0))), ((a 214), .inl (cy 2, 6, .inr (.inl (fun _ => 0)))), ((a 215), .inl (cy 2, 6, .inr (.inl (fun _ => 0)))), ((a 216), .inl (cy 0, 4, .inl (upd (upd (upd (upd (fun _ => 0) (0 : Int32).toNatClampNeg (-1)) (1 : Int32).toNatClampNeg (-1)) (2 : Int32).toNatClampNeg (-1)) (3 : Int32).toNatClampNeg (-1)))), ((a 217), .inl (cy 0, 4, .inl (fun _ => 0))), ((a 218), .inl (cy 2, 120, .inr (.inl (fun _ => 0))))] := hD.sub [0, 1, 2, 3, 4, 5, 6, 7, 8, 9, 10, 11, 12, 13, 14, 15, 16, 17, 18] (by rfl) rfl
  obtain rfl := hw
  have hP : va_P D vwCl [((a 200), .inr (11, [.ref (a 201), .ref (a 202), .ref (a 203), .ref (a 204), .int 0, .ref (a 205), .int 0, .int 0, .int 0, .int 0, .int 0, .int 0, .int 0, .int 0, .int 0, .int (-1), .int 0, .int 0, .int 0, .ref (a 206), .ref (a 207), .int 0, .int 0, .ref (a 208), .int 0, .int 0, .int 0, .int 0, .ref (a 209), .ref (a 210), .ref (a 211), .ref (a 212), .ref (a 213), .ref (a 214), .ref (a 215), .int 0, .ref (a 216), .ref (a 217), .ref (a 218)])), ((a 201), .inl (cy 0, 2260, .inl (upd (upd (fun _ => 0) (1 : Int32).toNatClampNeg 1) (2 : Int32).toNatClampNeg 1))), ((a 202), .inl (cy 0, 2260, .inl (fun _ => 0))), ((a 203), .inl (cy 0, 6780, .inl (fun _ => 0))), ((a 204), .inl (cy 3, 3, .inl (fun _ => 0))), ((a 205), .inl (cy 0, 900, .inl (fun _ => 0))), ((a 206), .inl (cy 0, 64, .inl (fun _ => 0))), ((a 207), .inl (cy 0, 6, .inl (fun _ => 0))), ((a 208), .inl (cy 0, 37, .inl (fun _ => 0))), ((a 209), .inl (cy 0, 61, .inl (fun _ => 0))), ((a 210), .inl (cy 0, 61, .inl (fun _ => 0))), ((a 211), .inl (cy 0, 61, .inl (fun _ => 0))), ((a 212), .inl (cy 0, 61, .inl (fun _ => 0))), ((a 213), .inl (cy 0, 61, .inl (fun _ => 0))), ((a 214), .inl (cy 2, 6, .inr (.inl (fun _ => 0)))), ((a 215), .inl (cy 2, 6, .inr (.inl (fun _ => 0)))), ((a 216), .inl (cy 0, 4, .inl (upd (upd (upd (upd (fun _ => 0) (0 : Int32).toNatClampNeg (-1)) (1 : Int32).toNatClampNeg (-1)) (2 : Int32).toNatClampNeg (-1)) (3 : Int32).toNatClampNeg (-1)))), ((a 217), .inl (cy 0, 4, .inl (fun _ => 0))), ((a 218), .inl (cy 2, 120, .inr (.inl (fun _ => 0))))] H := hP
  have hD : va_D A [((a 200), .inr (11, [.ref (a 201), .ref (a 202), .ref (a 203), .ref (a 204), .int 0, .ref (a 205), .int 0, .int 0, .int 0, .int 0, .int 0, .int 0, .int 0, .int 0, .int 0, .int (-1), .int 0, .int 0, .int 0, .ref (a 206), .ref (a 207), .int 0, .int 0, .ref (a 208), .int 0, .int 0, .int 0, .int 0, .ref (a 209), .ref (a 210), .ref (a 211), .ref (a 212), .ref (a 213), .ref (a 214), .ref (a 215), .int 0, .ref (a 216), .ref (a 217), .ref (a 218)])), ((a 201), .inl (cy 0, 2260, .inl (upd (upd (fun _ => 0) (1 : Int32).toNatClampNeg 1) (2 : Int32).toNatClampNeg 1))), ((a 202), .inl (cy 0, 2260, .inl (fun _ => 0))), ((a 203), .inl (cy 0, 6780, .inl (fun _ => 0))), ((a 204), .inl (cy 3, 3, .inl (fun _ => 0))), ((a 205), .inl (cy 0, 900, .inl (fun _ => 0))), ((a 206), .inl (cy 0, 64, .inl (fun _ => 0))), ((a 207), .inl (cy 0, 6, .inl (fun _ => 0))), ((a 208), .inl (cy 0, 37, .inl (fun _ => 0))), ((a 209), .inl (cy 0, 61, .inl (fun _ => 0))), ((a 210), .inl (cy 0, 61, .inl (fun _ => 0))), ((a 211), .inl (cy 0, 61, .inl (fun _ => 0))), ((a 212), .inl (cy 0, 61, .inl (fun _ => 0))), ((a 213), .inl (cy 0, 61, .inl (fun _ => 0))), ((a 214), .inl (cy 2, 6, .inr (.inl (fun _ => 0)))), ((a 215), .inl (cy 2, 6, .inr (.inl (fun _ => 0)))), ((a 216), .inl (cy 0, 4, .inl (upd (upd (upd (upd (fun _ => 0) (0 : Int32).toNatClampNeg (-1)) (1 : Int32).toNatClampNeg (-1)) (2 : Int32).toNatClampNeg (-1)) (3 : Int32).toNatClampNeg (-1)))), ((a 217), .inl (cy 0, 4, .inl (fun _ => 0))), ((a 218), .inl (cy 2, 120, .inr (.inl (fun _ => 0))))] := hD
  refine lv_aload_n hx hb dL_law_2496 rfl (lv_at hl 2 rfl) ?_
  refine kVi (As := []) (rest := [.int vi_shelter]) (wr := []) hX hE (r_shelter l D cy a) (cwVA 0 htA wd_2009 wd_2006 wd_10 wd_2007 wd_2008 (by decide +kernel) ⟨by decide, by decide⟩) hP hD hS [0, 1, 2, 3, 4, 5, 6, 7, 8, 9, 10, 11, 12, 13, 14, 15, 16, 17, 18] [] rfl rfl (by decide) 0 rfl rfl rfl rfl hl.1 rfl (Nat.le_of_ble_eq_true rfl) dL_law_2497 (by decide) (fun r_ W1 H locs hw hP hD hS => ?_)
  refine W.widen (k := 131) (n := 17485) (by decide) (by decide) ?_
  obtain ⟨fs_, rfl, rfl⟩ := hw
  have hP : va_P D vwCl [((a 200), .inr (11, fs_))] H := hP
  have hD : va_D A [((a 200), .inr (11, fs_))] := hD
  refine lv_icmp_eq (tgt := 3161) hx hb dL_law_2500 (by decide) (fun _ => ?_) (fun q => absurd rfl q)
  exact W.widen (k := 600000) (n := 7300000) (Nat.le_of_ble_eq_true rfl) (Nat.le_of_ble_eq_true rfl) (kk H locs ls hS (lv_sub hl [0, 4] rfl))
set_option maxHeartbeats 4000000 in
set_option maxRecDepth 100000 in
theorem cs_37 (l : Launch) (hlt : l.stackTraces = false) {p : Program} {e : Env} {s : State} {m : MethodId} {below : List Frame} {meth : Method} {c : Code} {D : va_G} {cy : Nat → ClassId} {A : Nat → Prop} {b : Nat} {xs : Nat → Int32} {H : Heap} {locs : List Loc} {ls : Array Slot} {Q : State → Prop} (a : Nat → Nat) (hX : Ex p s m #[Value.ref b] meth c code ret 8 RL) (hE : Ew D cy A s) (hx7 : va_X b 7 xs s s.heap) (hbl : b < s.heap.size) (hbA : ¬ A b) (hP : va_P D vwCl [((a 0), .inr (10, [.ref (a 1), .int 0, .int 0, .int (-1), .ref (a 2), .ref (a 3), .ref (a 4), .ref (a 5), .ref (a 6), .ref (a 7), .ref (a 8), .ref (a 9), .int 0])), ((a 3), .inr (6, [.ref (a 10), .int 0, .ref (a 21), .ref (a 22), .ref (a 23), .ref (a 24), .ref (a 25), .int 0])), ((a 10), .inr (0, [.int 0, .int 1, .int 1, .int 0, .int 0, .ref (a 11), .ref (a 12), .ref (a 13), .null, .null])), ((a 300), .inl (cy 2, 1, .inr (.inl (fun _ => 0)))), ((a 200), .inr (11, [.ref (a 201), .ref (a 202), .ref (a 203), .ref (a 204), .int 0, .ref (a 205), .int 0, .int 0, .int 0, .int 0, .int 0, .int 0, .int 0, .int 0, .int 0, .int (-1), .int 0, .int 0, .int 0, .ref (a 206), .ref (a 207), .int 0, .int 0, .ref (a 208), .int 0, .int 0, .int 0, .int 0, .ref (a 209), .ref (a 210), .ref (a 211), .ref (a 212), .ref (a 213), .ref (a 214), .ref (a 215), .int 0, .ref (a 216), .ref (a 217), .ref (a 218)])), ((a 201), .inl (cy 0, 2260, .inl (upd (upd (fun _ => 0) (1 : Int32).toNatClampNeg 1) (2 : Int32).toNatClampNeg 1)))] H) (hD : va_D A [((a 0), .inr (10, [.ref (a 1), .int 0, .int 0, .int (-1), .ref (a 2), .ref (a 3), .ref (a 4), .ref (a 5), .ref (a 6), .ref (a 7), .ref (a 8), .ref (a 9), .int 0])), ((a 3), .inr (6, [.ref (a 10), .int 0, .ref (a 21), .ref (a 22), .ref (a 23), .ref (a 24), .ref (a 25), .int 0])), ((a 10), .inr (0, [.int 0, .int 1, .int 1, .int 0, .int 0, .ref (a 11), .ref (a 12), .ref (a 13), .null, .null])), ((a 300), .inl (cy 2, 1, .inr (.inl (fun _ => 0)))), ((a 200), .inr (11, [.ref (a 201), .ref (a 202), .ref (a 203), .ref (a 204), .int 0, .ref (a 205), .int 0, .int 0, .int 0, .int 0, .int 0, .int 0, .int 0, .int 0, .int 0, .int (-1), .int 0, .int 0, .int 0, .ref (a 206), .ref (a 207), .int 0, .int 0, .ref (a 208), .int 0, .int 0, .int 0, .int 0, .ref (a 209), .ref (a 210), .ref (a 211), .ref (a 212), .ref (a 213), .ref (a 214), .ref (a 215), .int 0, .ref (a 216), .ref (a 217), .ref (a 218)])), ((a 201), .inl (cy 0, 2260, .inl (upd (upd (fun _ => 0) (1 : Int32).toNatClampNeg 1) (2 : Int32).toNatClampNeg 1)))]) (hS : va_S A s.heap H locs) (hl : lv_has ls 8 [(4, .int 0), (3, .ref (a 300)), (2, .ref (a 200)), (1, .ref (a 0)), (0, .ref b)]) (kk : ∀ (H : Heap) (locs : List Loc) (ls : Array Slot), va_S A s.heap H locs → lv_has ls 8 [(4, .int 0), (0, .ref b)] → W p l e room_1 s m #[Value.ref b] below meth c H locs 600000 7300000 Q (F0 m 3161 ls [])) : W p l e room_1 s m #[Value.ref b] below meth c H locs 131 17485 Q (F0 m 2505 ls []) := by
  obtain ⟨hx, hb, hr, hml, hown, htA, hlk⟩ := id hX
  have hK := hE.1
  refine lv_aload_n hx hb dL_law_2505 rfl (lv_at hl 3 rfl) ?_
  refine lv_aload_n hx hb dL_law_2506 rfl (lv_at hl 4 rfl) ?_
  refine lv_iload hx hb dL_law_2507 (lv_at hl 0 rfl) ?_
  refine lv_iconst (v := 1) hx hb dL_law_2509 (by decide) ?_
  refine lv_iadd hx hb dL_law_2510 ?_
  refine lv_topi (fun x1 ex1 => ?_)
  obtain rfl : x1 = 1 := ex1.trans (by decide)
  refine va_sld hx hb hx7 hbl hbA hS (in_lit (by decide)) dL_law_2511 ?_
  refine lv_aload_n hx hb dL_law_2512 rfl (lv_at hl 4 rfl) ?_
  refine lv_iload hx hb dL_law_2513 (lv_at hl 0 rfl) ?_
  refine lv_iconst (v := 2) hx hb dL_law_2515 (by decide) ?_
  refine lv_iadd hx hb dL_law_2516 ?_
  refine lv_topi (fun x2 ex2 => ?_)
  obtain rfl : x2 = 2 := ex2.trans (by decide)
  refine va_sld hx hb hx7 hbl hbA hS (in_lit (by decide)) dL_law_2517 ?_
  refine lv_aload_n hx hb dL_law_2518 rfl (lv_at hl 1 rfl) ?_
  refine kHi (As := [.ref (a 0), .int (xs (1 : Int32).toNatClampNeg), .int (xs (2 : Int32).toNatClampNeg), .ref (a 300)]) (rest := []) (wr := [((a 200), .inr (11, [.ref (a 201), .ref (a 202), .ref (a 203), .ref (a 204), .int 0, .ref (a 205), .int 0, .int 0, .int 0, .int 0, .int 0, .int 0, .int 0, .int 0, .int 0, .int (-1), .int 0, .int 0, .int 0, .ref (a 206), .ref (a 207), .int 0, .int 0, .ref (a 208), .int 0, .int 0, .int 0, .int 0, .ref (a 209), .ref (a 210), .ref (a 211), .ref (a 212), .ref (a 213), .ref (a 214), .ref (a 215), .int 0, .ref (a 216), .ref (a 217), .ref (a 218)])), ((a 201), .inl (cy 0, 2260, .inl (upd (upd (fun _ => 0) (1 : Int32).toNatClampNeg 1) (2 : Int32).toNatClampNeg 1)))]) hX hE (h_later l hlt D cy a (xs (1 : Int32).toNatClampNeg) (xs (2 : Int32).toNatClampNeg)) (cwHA 4 htA wd_1226 wd_1224 wd_0 wd_1225 (by decide +kernel) ⟨by decide, by decide⟩) hP hD hS [0, 1, 2, 3] [4, 5] rfl rfl (by decide) rfl hl.1 rfl (Nat.le_of_ble_eq_true rfl) dL_law_2519 (by decide) (fun r_ W1 H locs hw hP hD hS => ?_)
  refine W.widen (k := 132) (n := 17491) (by decide) (by decide) ?_
  obtain ⟨rfl, g_, rfl, hv_⟩ := hw
  have hP : va_P D vwCl [((a 200), .inr (11, [.ref (a 201), .ref (a 202), .ref (a 203), .ref (a 204), .int 0, .ref (a 205), .int 0, .int 0, .int 0, .int 0, .int 0, .int 0, .int 0, .int 0, .int 0, .int (-1), .int 0, .int 0, .int 0, .ref (a 206), .ref (a 207), .int 0, .int 0, .ref (a 208), .int 0, .int 0, .int 0, .int 0, .ref (a 209), .ref (a 210), .ref (a 211), .ref (a 212), .ref (a 213), .ref (a 214), .ref (a 215), .int 0, .ref (a 216), .ref (a 217), .ref (a 218)])), ((a 201), .inl (cy 0, 2260, .inl (upd (upd (fun _ => 0) (1 : Int32).toNatClampNeg 1) (2 : Int32).toNatClampNeg 1))), ((a 300), .inl (cy 2, 1, .inr (.inl (g_))))] H := hP
  have hD : va_D A [((a 200), .inr (11, [.ref (a 201), .ref (a 202), .ref (a 203), .ref (a 204), .int 0, .ref (a 205), .int 0, .int 0, .int 0, .int 0, .int 0, .int 0, .int 0, .int 0, .int 0, .int (-1), .int 0, .int 0, .int 0, .ref (a 206), .ref (a 207), .int 0, .int 0, .ref (a 208), .int 0, .int 0, .int 0, .int 0, .ref (a 209), .ref (a 210), .ref (a 211), .ref (a 212), .ref (a 213), .ref (a 214), .ref (a 215), .int 0, .ref (a 216), .ref (a 217), .ref (a 218)])), ((a 201), .inl (cy 0, 2260, .inl (upd (upd (fun _ => 0) (1 : Int32).toNatClampNeg 1) (2 : Int32).toNatClampNeg 1))), ((a 300), .inl (cy 2, 1, .inr (.inl (g_))))] := hD
  refine lv_istore (lv' := [(5, .int (kf_later (xs (1 : Int32).toNatClampNeg) (xs (2 : Int32).toNatClampNeg))), (4, .int 0), (3, .ref (a 300)), (2, .ref (a 200)), (1, .ref (a 0)), (0, .ref b)]) hx hb dL_law_2522 hl (by decide) rfl (fun ls hl => ?_)
  refine lv_aload_n hx hb dL_law_2524 rfl (lv_at hl 3 rfl) ?_
  refine lv_aload_n hx hb dL_law_2525 rfl (lv_at hl 5 rfl) ?_
  refine lv_iload hx hb dL_law_2526 (lv_at hl 1 rfl) ?_
  refine lv_iconst (v := 1) hx hb dL_law_2528 (by decide) ?_
  refine lv_iadd hx hb dL_law_2529 ?_
  refine lv_topi (fun x3 ex3 => ?_)
  obtain rfl : x3 = 1 := ex3.trans (by decide)
  refine va_sld hx hb hx7 hbl hbA hS (in_lit (by decide)) dL_law_2530 ?_
  refine lv_aload_n hx hb dL_law_2531 rfl (lv_at hl 5 rfl) ?_
  refine lv_iload hx hb dL_law_2532 (lv_at hl 1 rfl) ?_
  refine lv_iconst (v := 2) hx hb dL_law_2534 (by decide) ?_
  refine lv_iadd hx hb dL_law_2535 ?_
  refine lv_topi (fun x4 ex4 => ?_)
  obtain rfl : x4 = 2 := ex4.trans (by decide)
  refine va_sld hx hb hx7 hbl hbA hS (in_lit (by decide)) dL_law_2536 ?_
  refine kVi (As := [.int (xs (1 : Int32).toNatClampNeg), .int (xs (2 : Int32).toNatClampNeg)]) (rest := []) (wr := [((a 300), .inl (cy 2, 1, .inr (.inl (g_))))]) hX hE (r_later l D cy a (xs (1 : Int32).toNatClampNeg) (xs (2 : Int32).toNatClampNeg)) (cwVA 2 htA wd_2013 wd_2010 wd_10 wd_2011 wd_2012 (by decide +kernel) ⟨by decide, by decide⟩) hP hD hS [0, 1] [2] rfl rfl (by decide) 0 rfl rfl rfl rfl hl.1 rfl (Nat.le_of_ble_eq_true rfl) dL_law_2537 (by decide) (fun r_ W1 H locs hw hP hD hS => ?_)
  refine W.widen (k := 132) (n := 17491) (by decide) (by decide) ?_
  obtain ⟨fs_, rfl, hf_, hr_⟩ := hw
  have hP : va_P D vwCl [((a 300), .inl (cy 2, 1, .inr (.inl (g_)))), ((a 200), .inr (11, fs_))] H := hP
  have hD : va_D A [((a 300), .inl (cy 2, 1, .inr (.inl (g_)))), ((a 200), .inr (11, fs_))] := hD
  refine lv_istore (lv' := [(6, .int r_), (5, .int (kf_later (xs (1 : Int32).toNatClampNeg) (xs (2 : Int32).toNatClampNeg))), (4, .int 0), (3, .ref (a 300)), (2, .ref (a 200)), (1, .ref (a 0)), (0, .ref b)]) hx hb dL_law_2540 hl (by decide) rfl (fun ls hl => ?_)
  refine lv_aload_n hx hb dL_law_2542 rfl (lv_at hl 4 rfl) ?_
  refine kVi (As := []) (rest := []) (wr := [((a 300), .inl (cy 2, 1, .inr (.inl (g_))))]) hX hE (r_thrown l D cy a fs_ (kf_later (xs (1 : Int32).toNatClampNeg) (xs (2 : Int32).toNatClampNeg)) hf_) (cwVA 0 htA wd_1476 wd_1473 wd_10 wd_1474 wd_1475 (by decide +kernel) ⟨by decide, by decide⟩) hP hD hS [1] [0] rfl rfl (by decide) 0 rfl rfl rfl rfl hl.1 rfl (Nat.le_of_ble_eq_true rfl) dL_law_2543 (by decide) (fun r_ W1 H locs hw hP hD hS => ?_)
  refine W.widen (k := 132) (n := 17491) (by decide) (by decide) ?_
  have hP : va_P D vwCl [((a 300), .inl (cy 2, 1, .inr (.inl (g_))))] H := hP.sub [0] rfl
  have hD : va_D A [((a 300), .inl (cy 2, 1, .inr (.inl (g_))))] := hD.sub [0] (by rfl) rfl
  obtain rfl := hw
  have hP : va_P D vwCl [((a 300), .inl (cy 2, 1, .inr (.inl (g_))))] H := hP
  have hD : va_D A [((a 300), .inl (cy 2, 1, .inr (.inl (g_))))] := hD
  refine lv_iload hx hb dL_law_2546 (lv_at hl 1 rfl) ?_
  refine lv_icmp_eq (tgt := 2553) hx hb dL_law_2548 (by decide) (fun _ => ?_) (fun q => absurd rfl q)
  refine lv_iload hx hb dL_law_2553 (lv_at hl 1 rfl) ?_
  refine lv_if_ne (tgt := 2570) hx hb dL_law_2555 (by decide) (fun c5 => ?_) (fun c5 => ?_)
  · refine lv_goto (tgt := 3161) hx hb dL_law_2570 (by decide) ?_
    exact W.widen (k := 600000) (n := 7300000) (Nat.le_of_ble_eq_true rfl) (Nat.le_of_ble_eq_true rfl) (kk H locs ls hS (lv_sub hl [2, 6] rfl))
  · refine lv_aload_n hx hb dL_law_2558 rfl (lv_at hl 3 rfl) ?_
    refine lv_iconst (v := 0) hx hb dL_law_2559 (by decide) ?_
    refine va_lald hx hb hK hP 0 2 rfl rfl (in_lit (by decide)) dL_law_2560 ?_
    refine lv_iload hx hb dL_law_2561 (lv_at hl 0 rfl) ?_
    refine lv_i2l hx hb dL_law_2563 rfl ?_
    refine W.lcmp hx hb dL_law_2564 ?_
    refine lv_if_eq (tgt := 2570) hx hb dL_law_2565 (by decide) (fun _ => ?_) (fun q => absurd (lgs ((hv_ c5).trans (hr_ c5).symm)) q)
    refine lv_goto (tgt := 3161) hx hb dL_law_2570 (by decide) ?_
    exact W.widen (k := 600000) (n := 7300000) (Nat.le_of_ble_eq_true rfl) (Nat.le_of_ble_eq_true rfl) (kk H locs ls hS (lv_sub hl [2, 6] rfl))
set_option maxHeartbeats 4000000 in
set_option maxRecDepth 100000 in
theorem cs_38 (l : Launch) (hlt : l.stackTraces = false) {p : Program} {e : Env} {s : State} {m : MethodId} {below : List Frame} {meth : Method} {c : Code} {D : va_G} {cy : Nat → ClassId} {A : Nat → Prop} {b : Nat} {xs : Nat → Int32} {H : Heap} {locs : List Loc} {ls : Array Slot} {Q : State → Prop} (a : Nat → Nat) (hX : Ex p s m #[Value.ref b] meth c code ret 8 RL) (hE : Ew D cy A s) (hx7 : va_X b 7 xs s s.heap) (hbl : b < s.heap.size) (hbA : ¬ A b) (hP : va_P D vwCl [((a 0), .inr (10, [.ref (a 1), .int 0, .int 0, .int (-1), .ref (a 2), .ref (a 3), .ref (a 4), .ref (a 5), .ref (a 6), .ref (a 7), .ref (a 8), .ref (a 9), .int 0])), ((a 3), .inr (6, [.ref (a 10), .int 0, .ref (a 21), .ref (a 22), .ref (a 23), .ref (a 24), .ref (a 25), .int 0])), ((a 10), .inr (0, [.int 0, .int 1, .int 1, .int 0, .int 0, .ref (a 11), .ref (a 12), .ref (a 13), .null, .null])), ((a 300), .inl (cy 2, 1, .inr (.inl (fun _ => 0)))), ((a 200), .inr (11, [.ref (a 201), .ref (a 202), .ref (a 203), .ref (a 204), .int 0, .ref (a 205), .int 0, .int 0, .int 0, .int 0, .int 0, .int 0, .int 0, .int 0, .int 0, .int (-1), .int 0, .int 0, .int 0, .ref (a 206), .ref (a 207), .int 0, .int 0, .ref (a 208), .int 0, .int 0, .int 0, .int 0, .ref (a 209), .ref (a 210), .ref (a 211), .ref (a 212), .ref (a 213), .ref (a 214), .ref (a 215), .int 0, .ref (a 216), .ref (a 217), .ref (a 218)])), ((a 201), .inl (cy 0, 2260, .inl (upd (upd (fun _ => 0) (1 : Int32).toNatClampNeg 1) (2 : Int32).toNatClampNeg 1))), ((a 202), .inl (cy 0, 2260, .inl (fun _ => 0))), ((a 203), .inl (cy 0, 6780, .inl (fun _ => 0))), ((a 204), .inl (cy 3, 3, .inl (fun _ => 0))), ((a 205), .inl (cy 0, 900, .inl (fun _ => 0))), ((a 206), .inl (cy 0, 64, .inl (fun _ => 0))), ((a 207), .inl (cy 0, 6, .inl (fun _ => 0))), ((a 208), .inl (cy 0, 37, .inl (fun _ => 0))), ((a 209), .inl (cy 0, 61, .inl (fun _ => 0))), ((a 210), .inl (cy 0, 61, .inl (fun _ => 0))), ((a 211), .inl (cy 0, 61, .inl (fun _ => 0))), ((a 212), .inl (cy 0, 61, .inl (fun _ => 0))), ((a 213), .inl (cy 0, 61, .inl (fun _ => 0))), ((a 214), .inl (cy 2, 6, .inr (.inl (fun _ => 0)))), ((a 215), .inl (cy 2, 6, .inr (.inl (fun _ => 0)))), ((a 216), .inl (cy 0, 4, .inl (upd (upd (upd (upd (fun _ => 0) (0 : Int32).toNatClampNeg (-1)) (1 : Int32).toNatClampNeg (-1)) (2 : Int32).toNatClampNeg (-1)) (3 : Int32).toNatClampNeg (-1)))), ((a 217), .inl (cy 0, 4, .inl (fun _ => 0))), ((a 218), .inl (cy 2, 120, .inr (.inl (fun _ => 0))))] H) (hD : va_D A [((a 0), .inr (10, [.ref (a 1), .int 0, .int 0, .int (-1), .ref (a 2), .ref (a 3), .ref (a 4), .ref (a 5), .ref (a 6), .ref (a 7), .ref (a 8), .ref (a 9), .int 0])), ((a 3), .inr (6, [.ref (a 10), .int 0, .ref (a 21), .ref (a 22), .ref (a 23), .ref (a 24), .ref (a 25), .int 0])), ((a 10), .inr (0, [.int 0, .int 1, .int 1, .int 0, .int 0, .ref (a 11), .ref (a 12), .ref (a 13), .null, .null])), ((a 300), .inl (cy 2, 1, .inr (.inl (fun _ => 0)))), ((a 200), .inr (11, [.ref (a 201), .ref (a 202), .ref (a 203), .ref (a 204), .int 0, .ref (a 205), .int 0, .int 0, .int 0, .int 0, .int 0, .int 0, .int 0, .int 0, .int 0, .int (-1), .int 0, .int 0, .int 0, .ref (a 206), .ref (a 207), .int 0, .int 0, .ref (a 208), .int 0, .int 0, .int 0, .int 0, .ref (a 209), .ref (a 210), .ref (a 211), .ref (a 212), .ref (a 213), .ref (a 214), .ref (a 215), .int 0, .ref (a 216), .ref (a 217), .ref (a 218)])), ((a 201), .inl (cy 0, 2260, .inl (upd (upd (fun _ => 0) (1 : Int32).toNatClampNeg 1) (2 : Int32).toNatClampNeg 1))), ((a 202), .inl (cy 0, 2260, .inl (fun _ => 0))), ((a 203), .inl (cy 0, 6780, .inl (fun _ => 0))), ((a 204), .inl (cy 3, 3, .inl (fun _ => 0))), ((a 205), .inl (cy 0, 900, .inl (fun _ => 0))), ((a 206), .inl (cy 0, 64, .inl (fun _ => 0))), ((a 207), .inl (cy 0, 6, .inl (fun _ => 0))), ((a 208), .inl (cy 0, 37, .inl (fun _ => 0))), ((a 209), .inl (cy 0, 61, .inl (fun _ => 0))), ((a 210), .inl (cy 0, 61, .inl (fun _ => 0))), ((a 211), .inl (cy 0, 61, .inl (fun _ => 0))), ((a 212), .inl (cy 0, 61, .inl (fun _ => 0))), ((a 213), .inl (cy 0, 61, .inl (fun _ => 0))), ((a 214), .inl (cy 2, 6, .inr (.inl (fun _ => 0)))), ((a 215), .inl (cy 2, 6, .inr (.inl (fun _ => 0)))), ((a 216), .inl (cy 0, 4, .inl (upd (upd (upd (upd (fun _ => 0) (0 : Int32).toNatClampNeg (-1)) (1 : Int32).toNatClampNeg (-1)) (2 : Int32).toNatClampNeg (-1)) (3 : Int32).toNatClampNeg (-1)))), ((a 217), .inl (cy 0, 4, .inl (fun _ => 0))), ((a 218), .inl (cy 2, 120, .inr (.inl (fun _ => 0))))]) (hS : va_S A s.heap H locs) (hl : lv_has ls 8 [(4, .int 0), (3, .ref (a 300)), (2, .ref (a 200)), (1, .ref (a 0)), (0, .ref b)]) (kk : ∀ (H : Heap) (locs : List Loc) (ls : Array Slot), va_S A s.heap H locs → lv_has ls 8 [(4, .int 0), (0, .ref b)] → W p l e room_1 s m #[Value.ref b] below meth c H locs 600000 7300000 Q (F0 m 3161 ls [])) : W p l e room_1 s m #[Value.ref b] below meth c H locs 131 17485 Q (F0 m 2573 ls []) := by
  obtain ⟨hx, hb, hr, hml, hown, htA, hlk⟩ := id hX
  have hK := hE.1
  refine lv_aload_n hx hb dL_law_2573 rfl (lv_at hl 3 rfl) ?_
  refine lv_aload_n hx hb dL_law_2574 rfl (lv_at hl 4 rfl) ?_
  refine lv_iload hx hb dL_law_2575 (lv_at hl 0 rfl) ?_
  refine lv_iconst (v := 1) hx hb dL_law_2577 (by decide) ?_
  refine lv_iadd hx hb dL_law_2578 ?_
  refine lv_topi (fun x1 ex1 => ?_)
  obtain rfl : x1 = 1 := ex1.trans (by decide)
  refine va_sld hx hb hx7 hbl hbA hS (in_lit (by decide)) dL_law_2579 ?_
  refine lv_aload_n hx hb dL_law_2580 rfl (lv_at hl 4 rfl) ?_
  refine lv_iload hx hb dL_law_2581 (lv_at hl 0 rfl) ?_
  refine lv_iconst (v := 2) hx hb dL_law_2583 (by decide) ?_
  refine lv_iadd hx hb dL_law_2584 ?_
  refine lv_topi (fun x2 ex2 => ?_)
  obtain rfl : x2 = 2 := ex2.trans (by decide)
  refine va_sld hx hb hx7 hbl hbA hS (in_lit (by decide)) dL_law_2585 ?_
  refine lv_aload_n hx hb dL_law_2586 rfl (lv_at hl 4 rfl) ?_
  refine lv_iload hx hb dL_law_2587 (lv_at hl 0 rfl) ?_
  refine lv_iconst (v := 3) hx hb dL_law_2589 (by decide) ?_
  refine lv_iadd hx hb dL_law_2590 ?_
  refine lv_topi (fun x3 ex3 => ?_)
  obtain rfl : x3 = 3 := ex3.trans (by decide)
  refine va_sld hx hb hx7 hbl hbA hS (in_lit (by decide)) dL_law_2591 ?_
  refine lv_aload_n hx hb dL_law_2592 rfl (lv_at hl 1 rfl) ?_
  refine kHi (As := [.ref (a 0), .int (xs (1 : Int32).toNatClampNeg), .int (xs (2 : Int32).toNatClampNeg), .int (xs (3 : Int32).toNatClampNeg), .ref (a 300)]) (rest := []) (wr := [((a 200), .inr (11, [.ref (a 201), .ref (a 202), .ref (a 203), .ref (a 204), .int 0, .ref (a 205), .int 0, .int 0, .int 0, .int 0, .int 0, .int 0, .int 0, .int 0, .int 0, .int (-1), .int 0, .int 0, .int 0, .ref (a 206), .ref (a 207), .int 0, .int 0, .ref (a 208), .int 0, .int 0, .int 0, .int 0, .ref (a 209), .ref (a 210), .ref (a 211), .ref (a 212), .ref (a 213), .ref (a 214), .ref (a 215), .int 0, .ref (a 216), .ref (a 217), .ref (a 218)])), ((a 201), .inl (cy 0, 2260, .inl (upd (upd (fun _ => 0) (1 : Int32).toNatClampNeg 1) (2 : Int32).toNatClampNeg 1))), ((a 202), .inl (cy 0, 2260, .inl (fun _ => 0))), ((a 203), .inl (cy 0, 6780, .inl (fun _ => 0))), ((a 204), .inl (cy 3, 3, .inl (fun _ => 0))), ((a 205), .inl (cy 0, 900, .inl (fun _ => 0))), ((a 206), .inl (cy 0, 64, .inl (fun _ => 0))), ((a 207), .inl (cy 0, 6, .inl (fun _ => 0))), ((a 208), .inl (cy 0, 37, .inl (fun _ => 0))), ((a 209), .inl (cy 0, 61, .inl (fun _ => 0))), ((a 210), .inl (cy 0, 61, .inl (fun _ => 0))), ((a 211), .inl (cy 0, 61, .inl (fun _ => 0))), ((a 212), .inl (cy 0, 61, .inl (fun _ => 0))), ((a 213), .inl (cy 0, 61, .inl (fun _ => 0))), ((a 214), .inl (cy 2, 6, .inr (.inl (fun _ => 0)))), ((a 215), .inl (cy 2, 6, .inr (.inl (fun _ => 0)))), ((a 216), .inl (cy 0, 4, .inl (upd (upd (upd (upd (fun _ => 0) (0 : Int32).toNatClampNeg (-1)) (1 : Int32).toNatClampNeg (-1)) (2 : Int32).toNatClampNeg (-1)) (3 : Int32).toNatClampNeg (-1)))), ((a 217), .inl (cy 0, 4, .inl (fun _ => 0))), ((a 218), .inl (cy 2, 120, .inr (.inl (fun _ => 0))))]) hX hE (h_letGoBy l hlt D cy a (xs (1 : Int32).toNatClampNeg) (xs (2 : Int32).toNatClampNeg) (xs (3 : Int32).toNatClampNeg)) (cwHA 5 htA wd_1233 wd_1231 wd_0 wd_1232 (by decide +kernel) ⟨by decide, by decide⟩) hP hD hS [0, 1, 2, 3] [4, 5, 6, 7, 8, 9, 10, 11, 12, 13, 14, 15, 16, 17, 18, 19, 20, 21, 22] rfl rfl (by decide) rfl hl.1 rfl (Nat.le_of_ble_eq_true rfl) dL_law_2593 (by decide) (fun r_ W1 H locs hw hP hD hS => ?_)
  refine W.widen (k := 133) (n := 17497) (by decide) (by decide) ?_
  obtain ⟨rfl, g_, rfl, hv_⟩ := hw
  have hP : va_P D vwCl [((a 200), .inr (11, [.ref (a 201), .ref (a 202), .ref (a 203), .ref (a 204), .int 0, .ref (a 205), .int 0, .int 0, .int 0, .int 0, .int 0, .int 0, .int 0, .int 0, .int 0, .int (-1), .int 0, .int 0, .int 0, .ref (a 206), .ref (a 207), .int 0, .int 0, .ref (a 208), .int 0, .int 0, .int 0, .int 0, .ref (a 209), .ref (a 210), .ref (a 211), .ref (a 212), .ref (a 213), .ref (a 214), .ref (a 215), .int 0, .ref (a 216), .ref (a 217), .ref (a 218)])), ((a 201), .inl (cy 0, 2260, .inl (upd (upd (fun _ => 0) (1 : Int32).toNatClampNeg 1) (2 : Int32).toNatClampNeg 1))), ((a 202), .inl (cy 0, 2260, .inl (fun _ => 0))), ((a 203), .inl (cy 0, 6780, .inl (fun _ => 0))), ((a 204), .inl (cy 3, 3, .inl (fun _ => 0))), ((a 205), .inl (cy 0, 900, .inl (fun _ => 0))), ((a 206), .inl (cy 0, 64, .inl (fun _ => 0))), ((a 207), .inl (cy 0, 6, .inl (fun _ => 0))), ((a 208), .inl (cy 0, 37, .inl (fun _ => 0))), ((a 209), .inl (cy 0, 61, .inl (fun _ => 0))), ((a 210), .inl (cy 0, 61, .inl (fun _ => 0))), ((a 211), .inl (cy 0, 61, .inl (fun _ => 0))), ((a 212), .inl (cy 0, 61, .inl (fun _ => 0))), ((a 213), .inl (cy 0, 61, .inl (fun _ => 0))), ((a 214), .inl (cy 2, 6, .inr (.inl (fun _ => 0)))), ((a 215), .inl (cy 2, 6, .inr (.inl (fun _ => 0)))), ((a 216), .inl (cy 0, 4, .inl (upd (upd (upd (upd (fun _ => 0) (0 : Int32).toNatClampNeg (-1)) (1 : Int32).toNatClampNeg (-1)) (2 : Int32).toNatClampNeg (-1)) (3 : Int32).toNatClampNeg (-1)))), ((a 217), .inl (cy 0, 4, .inl (fun _ => 0))), ((a 218), .inl (cy 2, 120, .inr (.inl (fun _ => 0)))), ((a 300), .inl (cy 2, 1, .inr (.inl (g_))))] H := hP
  have hD : va_D A [((a 200), .inr (11, [.ref (a 201), .ref (a 202), .ref (a 203), .ref (a 204), .int 0, .ref (a 205), .int 0, .int 0, .int 0, .int 0, .int 0, .int 0, .int 0, .int 0, .int 0, .int (-1), .int 0, .int 0, .int 0, .ref (a 206), .ref (a 207), .int 0, .int 0, .ref (a 208), .int 0, .int 0, .int 0, .int 0, .ref (a 209), .ref (a 210), .ref (a 211), .ref (a 212), .ref (a 213), .ref (a 214), .ref (a 215), .int 0, .ref (a 216), .ref (a 217), .ref (a 218)])), ((a 201), .inl (cy 0, 2260, .inl (upd (upd (fun _ => 0) (1 : Int32).toNatClampNeg 1) (2 : Int32).toNatClampNeg 1))), ((a 202), .inl (cy 0, 2260, .inl (fun _ => 0))), ((a 203), .inl (cy 0, 6780, .inl (fun _ => 0))), ((a 204), .inl (cy 3, 3, .inl (fun _ => 0))), ((a 205), .inl (cy 0, 900, .inl (fun _ => 0))), ((a 206), .inl (cy 0, 64, .inl (fun _ => 0))), ((a 207), .inl (cy 0, 6, .inl (fun _ => 0))), ((a 208), .inl (cy 0, 37, .inl (fun _ => 0))), ((a 209), .inl (cy 0, 61, .inl (fun _ => 0))), ((a 210), .inl (cy 0, 61, .inl (fun _ => 0))), ((a 211), .inl (cy 0, 61, .inl (fun _ => 0))), ((a 212), .inl (cy 0, 61, .inl (fun _ => 0))), ((a 213), .inl (cy 0, 61, .inl (fun _ => 0))), ((a 214), .inl (cy 2, 6, .inr (.inl (fun _ => 0)))), ((a 215), .inl (cy 2, 6, .inr (.inl (fun _ => 0)))), ((a 216), .inl (cy 0, 4, .inl (upd (upd (upd (upd (fun _ => 0) (0 : Int32).toNatClampNeg (-1)) (1 : Int32).toNatClampNeg (-1)) (2 : Int32).toNatClampNeg (-1)) (3 : Int32).toNatClampNeg (-1)))), ((a 217), .inl (cy 0, 4, .inl (fun _ => 0))), ((a 218), .inl (cy 2, 120, .inr (.inl (fun _ => 0)))), ((a 300), .inl (cy 2, 1, .inr (.inl (g_))))] := hD
  refine lv_istore (lv' := [(5, .int (kf_letGoBy (xs (1 : Int32).toNatClampNeg) (xs (2 : Int32).toNatClampNeg) (xs (3 : Int32).toNatClampNeg))), (4, .int 0), (3, .ref (a 300)), (2, .ref (a 200)), (1, .ref (a 0)), (0, .ref b)]) hx hb dL_law_2596 hl (by decide) rfl (fun ls hl => ?_)
  refine lv_aload_n hx hb dL_law_2598 rfl (lv_at hl 3 rfl) ?_
  refine lv_aload_n hx hb dL_law_2599 rfl (lv_at hl 5 rfl) ?_
  refine lv_iload hx hb dL_law_2600 (lv_at hl 1 rfl) ?_
  refine lv_iconst (v := 1) hx hb dL_law_2602 (by decide) ?_
  refine lv_iadd hx hb dL_law_2603 ?_
  refine lv_topi (fun x4 ex4 => ?_)
  obtain rfl : x4 = 1 := ex4.trans (by decide)
  refine va_sld hx hb hx7 hbl hbA hS (in_lit (by decide)) dL_law_2604 ?_
  refine lv_aload_n hx hb dL_law_2605 rfl (lv_at hl 5 rfl) ?_
  refine lv_iload hx hb dL_law_2606 (lv_at hl 1 rfl) ?_
  refine lv_iconst (v := 2) hx hb dL_law_2608 (by decide) ?_
  refine lv_iadd hx hb dL_law_2609 ?_
  refine lv_topi (fun x5 ex5 => ?_)
  obtain rfl : x5 = 2 := ex5.trans (by decide)
  refine va_sld hx hb hx7 hbl hbA hS (in_lit (by decide)) dL_law_2610 ?_
  refine lv_aload_n hx hb dL_law_2611 rfl (lv_at hl 5 rfl) ?_
  refine lv_iload hx hb dL_law_2612 (lv_at hl 1 rfl) ?_
  refine lv_iconst (v := 3) hx hb dL_law_2614 (by decide) ?_
  refine lv_iadd hx hb dL_law_2615 ?_
  refine lv_topi (fun x6 ex6 => ?_)
  obtain rfl : x6 = 3 := ex6.trans (by decide)
  refine va_sld hx hb hx7 hbl hbA hS (in_lit (by decide)) dL_law_2616 ?_
  refine kVi (As := [.int (xs (1 : Int32).toNatClampNeg), .int (xs (2 : Int32).toNatClampNeg), .int (xs (3 : Int32).toNatClampNeg)]) (rest := []) (wr := [((a 300), .inl (cy 2, 1, .inr (.inl (g_))))]) hX hE (r_letGoBy l D cy a (xs (1 : Int32).toNatClampNeg) (xs (2 : Int32).toNatClampNeg) (xs (3 : Int32).toNatClampNeg)) (cwVA 3 htA wd_2018 wd_2015 wd_10 wd_2016 wd_2017 (by decide +kernel) ⟨by decide, by decide⟩) hP hD hS [0, 1, 2, 3, 4, 5, 6, 7, 8, 9, 10, 11, 12, 13, 14, 15, 16, 17, 18] [19] rfl rfl (by decide) 0 rfl rfl rfl rfl hl.1 rfl (Nat.le_of_ble_eq_true rfl) dL_law_2617 (by decide) (fun r_ W1 H locs hw hP hD hS => ?_)
  refine W.widen (k := 133) (n := 17497) (by decide) (by decide) ?_
  obtain ⟨fs_, rfl, hf_, hr_⟩ := hw
  have hP : va_P D vwCl [((a 300), .inl (cy 2, 1, .inr (.inl (g_)))), ((a 200), .inr (11, fs_))] H := hP
  have hD : va_D A [((a 300), .inl (cy 2, 1, .inr (.inl (g_)))), ((a 200), .inr (11, fs_))] := hD
  refine lv_istore (lv' := [(6, .int r_), (5, .int (kf_letGoBy (xs (1 : Int32).toNatClampNeg) (xs (2 : Int32).toNatClampNeg) (xs (3 : Int32).toNatClampNeg))), (4, .int 0), (3, .ref (a 300)), (2, .ref (a 200)), (1, .ref (a 0)), (0, .ref b)]) hx hb dL_law_2620 hl (by decide) rfl (fun ls hl => ?_)
  refine lv_aload_n hx hb dL_law_2622 rfl (lv_at hl 4 rfl) ?_
  refine kVi (As := []) (rest := []) (wr := [((a 300), .inl (cy 2, 1, .inr (.inl (g_))))]) hX hE (r_thrown l D cy a fs_ (kf_letGoBy (xs (1 : Int32).toNatClampNeg) (xs (2 : Int32).toNatClampNeg) (xs (3 : Int32).toNatClampNeg)) hf_) (cwVA 0 htA wd_1476 wd_1473 wd_10 wd_1474 wd_1475 (by decide +kernel) ⟨by decide, by decide⟩) hP hD hS [1] [0] rfl rfl (by decide) 0 rfl rfl rfl rfl hl.1 rfl (Nat.le_of_ble_eq_true rfl) dL_law_2623 (by decide) (fun r_ W1 H locs hw hP hD hS => ?_)
  refine W.widen (k := 133) (n := 17497) (by decide) (by decide) ?_
  have hP : va_P D vwCl [((a 300), .inl (cy 2, 1, .inr (.inl (g_))))] H := hP.sub [0] rfl
  have hD : va_D A [((a 300), .inl (cy 2, 1, .inr (.inl (g_))))] := hD.sub [0] (by rfl) rfl
  obtain rfl := hw
  have hP : va_P D vwCl [((a 300), .inl (cy 2, 1, .inr (.inl (g_))))] H := hP
  have hD : va_D A [((a 300), .inl (cy 2, 1, .inr (.inl (g_))))] := hD
  refine lv_iload hx hb dL_law_2626 (lv_at hl 1 rfl) ?_
  refine lv_icmp_eq (tgt := 2633) hx hb dL_law_2628 (by decide) (fun _ => ?_) (fun q => absurd rfl q)
  refine lv_iload hx hb dL_law_2633 (lv_at hl 1 rfl) ?_
  refine lv_if_ne (tgt := 2650) hx hb dL_law_2635 (by decide) (fun c7 => ?_) (fun c7 => ?_)
  · refine lv_goto (tgt := 3161) hx hb dL_law_2650 (by decide) ?_
    exact W.widen (k := 600000) (n := 7300000) (Nat.le_of_ble_eq_true rfl) (Nat.le_of_ble_eq_true rfl) (kk H locs ls hS (lv_sub hl [2, 6] rfl))
  · refine lv_aload_n hx hb dL_law_2638 rfl (lv_at hl 3 rfl) ?_
    refine lv_iconst (v := 0) hx hb dL_law_2639 (by decide) ?_
    refine va_lald hx hb hK hP 0 2 rfl rfl (in_lit (by decide)) dL_law_2640 ?_
    refine lv_iload hx hb dL_law_2641 (lv_at hl 0 rfl) ?_
    refine lv_i2l hx hb dL_law_2643 rfl ?_
    refine W.lcmp hx hb dL_law_2644 ?_
    refine lv_if_eq (tgt := 2650) hx hb dL_law_2645 (by decide) (fun _ => ?_) (fun q => absurd (lgs ((hv_ c7).trans (hr_ c7).symm)) q)
    refine lv_goto (tgt := 3161) hx hb dL_law_2650 (by decide) ?_
    exact W.widen (k := 600000) (n := 7300000) (Nat.le_of_ble_eq_true rfl) (Nat.le_of_ble_eq_true rfl) (kk H locs ls hS (lv_sub hl [2, 6] rfl))
