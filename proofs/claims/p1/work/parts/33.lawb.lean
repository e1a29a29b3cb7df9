set_option maxHeartbeats 4000000 in
set_option maxRecDepth 100000 in
theorem law_9 {p : Program} {l : Launch} {e : Env} {s : State} {m : MethodId} {below : List Frame} {meth : Method} {c : Code} {b : Nat} {xs : Nat → Int32} {dC : Nat → ClassId} {dI : Nat → Nat → Nat} {x tp hi sh g3 g4 g5 g6 g7 g8 g9 i1 i2 bt t1 t2 z tm a9 nw a11 a12 a16 a17 a18 a19 a20 a21 a22 a23 a24 a25 a26 a28 a29 a30 a31 a32 a33 a35 a36 : Nat} {cB cT cM cI : ClassId} (C00 : lw_At p s m meth c b 6 xs) (hK : va_K (dC, dI) vwCl [(cB, .byte), (cT, .object RX10), (cM, .byte), (cI, .int)] s) {H : Heap} {locs : List Loc} (hP : va_P (dC, dI) vwCl [(x, .inr (11, [.ref tp, .ref hi, .ref sh, .ref g3, .ref g4, .ref g5, .ref g6, .ref g7, .ref g8, .ref g9, .int 0, .int 0])), (tp, .inr (8, [.ref i1, .ref i2, .int 0, .int 0, .int 0, .int 0, .int 0, .ref bt, .int 0, .int 0, .int 0])), (bt, .inl (cB, 300, .inl (fun _ => 0))), (hi, .inr (3, [.int 0, .ref t1, .ref t2, .int 0])), (sh, .inl (cT, 2, .inr (.inr (.inr (.inr (fun _ => none)))))), (z, .inr (12, [.ref tm, .int 0, .int 0, .int 0, .int 0, .int 0, .int 0, .int 0, .int 0, .ref a9, .ref nw, .ref a11, .ref a12, .int 0, .int 0, .int 0, .ref a16, .ref a17, .ref a18, .ref a19, .ref a20, .ref a21, .ref a22, .ref a23, .ref a24, .ref a25, .ref a26, .int 0, .ref a28, .ref a29, .ref a30, .ref a31, .ref a32, .ref a33, .int 0, .ref a35, .ref a36])), (tm, .inl (cM, 300, .inl (fun _ => 0))), (nw, .inl (cI, 12507, .inl (fun _ => 0)))] H) (hD : va_D (fun q : Nat => s.heap.size ≤ q) [(x, .inr (11, [.ref tp, .ref hi, .ref sh, .ref g3, .ref g4, .ref g5, .ref g6, .ref g7, .ref g8, .ref g9, .int 0, .int 0])), (tp, .inr (8, [.ref i1, .ref i2, .int 0, .int 0, .int 0, .int 0, .int 0, .ref bt, .int 0, .int 0, .int 0])), (bt, .inl (cB, 300, .inl (fun _ => 0))), (hi, .inr (3, [.int 0, .ref t1, .ref t2, .int 0])), (sh, .inl (cT, 2, .inr (.inr (.inr (.inr (fun _ => none)))))), (z, .inr (12, [.ref tm, .int 0, .int 0, .int 0, .int 0, .int 0, .int 0, .int 0, .int 0, .ref a9, .ref nw, .ref a11, .ref a12, .int 0, .int 0, .int 0, .ref a16, .ref a17, .ref a18, .ref a19, .ref a20, .ref a21, .ref a22, .ref a23, .ref a24, .ref a25, .ref a26, .int 0, .ref a28, .ref a29, .ref a30, .ref a31, .ref a32, .ref a33, .int 0, .ref a35, .ref a36])), (tm, .inl (cM, 300, .inl (fun _ => 0))), (nw, .inl (cI, 12507, .inl (fun _ => 0)))]) (hS : va_S (fun q : Nat => s.heap.size ≤ q) s.heap H locs) {ls : Array Slot} (hl : lv_has ls 4 [(3, .int 0), (2, .ref z), (1, .ref x), (0, .ref b)]) : W p l e room_1 s m #[Value.ref b] below meth c H locs 80 147144 (lw_Z below #[Value.ref b] s) (F0 m 453 ls []) := by
  obtain ⟨hx, hb, hr, hml, hown, hts, hX, hbl, hlocks, hgv⟩ := id C00
  have hts : ∀ w ∈ wsU, w.before #[Value.ref b] s = true := fun w h => hts w (wsU_in w h)
  have hown : s.vm.findClass RL = some m.cls := hown
  have hA : ∀ q : Nat, s.heap.size ≤ q → (fun q : Nat => s.heap.size ≤ q) q := fun _ h => h
  have hbA : ¬ (fun q : Nat => s.heap.size ≤ q) b := Nat.not_le.mpr hbl
  refine lv_aload_n hx hb dL_law_453 rfl (lv_at hl 2 rfl) ?_
  refine lv_aload_n hx hb dL_law_454 rfl (lv_at hl 3 rfl) ?_
  refine lv_iload_n hx hb dL_law_455 rfl (lv_at hl 0 rfl) ?_
  refine lv_iconst (v := 1) hx hb dL_law_456 (by decide) ?_
  refine lv_iadd hx hb dL_law_457 ?_
  refine kz_topi (y := 1) (by decide) ?_
  refine va_sld hx hb hX hbl hbA hS (i := 1) (kz_in (by decide +kernel)) dL_law_458 ?_
  refine kz_topi (y := xs 1) (congrArg xs (by decide)) ?_
  have hPc := hP.sub (ws' := [(x, .inr (11, [.ref tp, .ref hi, .ref sh, .ref g3, .ref g4, .ref g5, .ref g6, .ref g7, .ref g8, .ref g9, .int 0, .int 0]))]) [0] rfl
  have hDc := hD.sub (ws' := [(x, .inr (11, [.ref tp, .ref hi, .ref sh, .ref g3, .ref g4, .ref g5, .ref g6, .ref g7, .ref g8, .ref g9, .int 0, .int 0]))]) [0] (by decide) rfl
  have hKc := hK.sub (tys' := []) [] rfl
  have hFc := va_free (wc := [(x, .inr (11, [.ref tp, .ref hi, .ref sh, .ref g3, .ref g4, .ref g5, .ref g6, .ref g7, .ref g8, .ref g9, .int 0, .int 0]))]) hD hS hA [0] rfl
  refine va_calli (va_runV (As := [.int (xs 1)]) (rest := []) ⟨hx, hb, hml, hown, hts⟩ (c_X11_draws l dC dI (x) (tp) (hi) (sh) (g3) (g4) (g5) (g6) (g7) (g8) (g9) ((xs 1)) H.size) (cwV 1 hts (kz_gV qw_995 qw_996 qw_997 qw_2 qw_998) rfl rfl rfl (by decide +kernel) ⟨Nat.le_of_ble_eq_true rfl, Nat.le_of_ble_eq_true rfl⟩) (⟨(kz_preS hPc hKc hDc).1, (va_recv hKc hPc (ci := 11) (q0 := 0) rfl rfl), (kz_preS hPc hKc hDc).2⟩) rfl rfl hl.1 rfl (lv_room (Nat.le_of_ble_eq_true rfl)) dL_law_459 ⟨Nat.le_of_ble_eq_true rfl, Nat.le_of_ble_eq_true rfl⟩) hS (fun q _ h => hFc q h) hFc (fun r_1 u_2 t H1 locs ht hvm hw hB hz1 hk1 hS => ?_)
  try dsimp only at hw
  have hP1 : va_P (dC, dI) vwCl [] H1 := kz_P0
  have hD1 : va_D (va_A [(x, .inr (11, [.ref tp, .ref hi, .ref sh, .ref g3, .ref g4, .ref g5, .ref g6, .ref g7, .ref g8, .ref g9, .int 0, .int 0]))] H.size) [] := kz_D0
  have hK1 : va_K (dC, dI) vwCl [] s := hK.sub [] rfl
  obtain ⟨hP, hD⟩ := va_join (wr := [(tp, .inr (8, [.ref i1, .ref i2, .int 0, .int 0, .int 0, .int 0, .int 0, .ref bt, .int 0, .int 0, .int 0])), (bt, .inl (cB, 300, .inl (fun _ => 0))), (hi, .inr (3, [.int 0, .ref t1, .ref t2, .int 0])), (sh, .inl (cT, 2, .inr (.inr (.inr (.inr (fun _ => none)))))), (z, .inr (12, [.ref tm, .int 0, .int 0, .int 0, .int 0, .int 0, .int 0, .int 0, .int 0, .ref a9, .ref nw, .ref a11, .ref a12, .int 0, .int 0, .int 0, .ref a16, .ref a17, .ref a18, .ref a19, .ref a20, .ref a21, .ref a22, .ref a23, .ref a24, .ref a25, .ref a26, .int 0, .ref a28, .ref a29, .ref a30, .ref a31, .ref a32, .ref a33, .int 0, .ref a35, .ref a36])), (tm, .inl (cM, 300, .inl (fun _ => 0))), (nw, .inl (cI, 12507, .inl (fun _ => 0)))]) (w1 := []) hP hD [0] [1, 2, 3, 4, 5, 6, 7] rfl rfl (by decide) (by decide) hk1 hFc hP1 hD1
  have hK := (hK.sub (tys' := [(cB, .byte), (cT, .object RX10), (cM, .byte), (cI, .int)]) [0, 1, 2, 3] rfl).app hK1
  generalize H1 = H at hP hS ⊢
  have hP : va_P (dC, dI) vwCl [(tp, .inr (8, [.ref i1, .ref i2, .int 0, .int 0, .int 0, .int 0, .int 0, .ref bt, .int 0, .int 0, .int 0])), (bt, .inl (cB, 300, .inl (fun _ => 0))), (hi, .inr (3, [.int 0, .ref t1, .ref t2, .int 0])), (sh, .inl (cT, 2, .inr (.inr (.inr (.inr (fun _ => none)))))), (z, .inr (12, [.ref tm, .int 0, .int 0, .int 0, .int 0, .int 0, .int 0, .int 0, .int 0, .ref a9, .ref nw, .ref a11, .ref a12, .int 0, .int 0, .int 0, .ref a16, .ref a17, .ref a18, .ref a19, .ref a20, .ref a21, .ref a22, .ref a23, .ref a24, .ref a25, .ref a26, .int 0, .ref a28, .ref a29, .ref a30, .ref a31, .ref a32, .ref a33, .int 0, .ref a35, .ref a36])), (tm, .inl (cM, 300, .inl (fun _ => 0))), (nw, .inl (cI, 12507, .inl (fun _ => 0)))] H := hP
  have hD : va_D (fun q : Nat => s.heap.size ≤ q) [(tp, .inr (8, [.ref i1, .ref i2, .int 0, .int 0, .int 0, .int 0, .int 0, .ref bt, .int 0, .int 0, .int 0])), (bt, .inl (cB, 300, .inl (fun _ => 0))), (hi, .inr (3, [.int 0, .ref t1, .ref t2, .int 0])), (sh, .inl (cT, 2, .inr (.inr (.inr (.inr (fun _ => none)))))), (z, .inr (12, [.ref tm, .int 0, .int 0, .int 0, .int 0, .int 0, .int 0, .int 0, .int 0, .ref a9, .ref nw, .ref a11, .ref a12, .int 0, .int 0, .int 0, .ref a16, .ref a17, .ref a18, .ref a19, .ref a20, .ref a21, .ref a22, .ref a23, .ref a24, .ref a25, .ref a26, .int 0, .ref a28, .ref a29, .ref a30, .ref a31, .ref a32, .ref a33, .int 0, .ref a35, .ref a36])), (tm, .inl (cM, 300, .inl (fun _ => 0))), (nw, .inl (cI, 12507, .inl (fun _ => 0)))] := hD
  have hK : va_K (dC, dI) vwCl [(cB, .byte), (cT, .object RX10), (cM, .byte), (cI, .int)] s := hK
  have hw3 := hw
  refine lv_aload_n hx hb dL_law_462 rfl (lv_at hl 1 rfl) ?_
  refine lv_aload_n hx hb dL_law_463 rfl (lv_at hl 3 rfl) ?_
  refine lv_iload_n hx hb dL_law_464 rfl (lv_at hl 0 rfl) ?_
  refine lv_iconst (v := 1) hx hb dL_law_465 (by decide) ?_
  refine lv_iadd hx hb dL_law_466 ?_
  refine kz_topi (y := 1) (by decide) ?_
  refine va_sld hx hb hX hbl hbA hS (i := 1) (kz_in (by decide +kernel)) dL_law_467 ?_
  refine kz_topi (y := xs 1) (congrArg xs (by decide)) ?_
  have hPc := hP.sub (ws' := [(z, .inr (12, [.ref tm, .int 0, .int 0, .int 0, .int 0, .int 0, .int 0, .int 0, .int 0, .ref a9, .ref nw, .ref a11, .ref a12, .int 0, .int 0, .int 0, .ref a16, .ref a17, .ref a18, .ref a19, .ref a20, .ref a21, .ref a22, .ref a23, .ref a24, .ref a25, .ref a26, .int 0, .ref a28, .ref a29, .ref a30, .ref a31, .ref a32, .ref a33, .int 0, .ref a35, .ref a36])), (nw, .inl (cI, 12507, .inl (fun _ => 0)))]) [4, 6] rfl
  have hDc := hD.sub (ws' := [(z, .inr (12, [.ref tm, .int 0, .int 0, .int 0, .int 0, .int 0, .int 0, .int 0, .int 0, .ref a9, .ref nw, .ref a11, .ref a12, .int 0, .int 0, .int 0, .ref a16, .ref a17, .ref a18, .ref a19, .ref a20, .ref a21, .ref a22, .ref a23, .ref a24, .ref a25, .ref a26, .int 0, .ref a28, .ref a29, .ref a30, .ref a31, .ref a32, .ref a33, .int 0, .ref a35, .ref a36])), (nw, .inl (cI, 12507, .inl (fun _ => 0)))]) [4, 6] (by decide) rfl
  have hKc := hK.sub (tys' := [(cI, .int)]) [3] rfl
  have hFc := va_free (wc := [(z, .inr (12, [.ref tm, .int 0, .int 0, .int 0, .int 0, .int 0, .int 0, .int 0, .int 0, .ref a9, .ref nw, .ref a11, .ref a12, .int 0, .int 0, .int 0, .ref a16, .ref a17, .ref a18, .ref a19, .ref a20, .ref a21, .ref a22, .ref a23, .ref a24, .ref a25, .ref a26, .int 0, .ref a28, .ref a29, .ref a30, .ref a31, .ref a32, .ref a33, .int 0, .ref a35, .ref a36])), (nw, .inl (cI, 12507, .inl (fun _ => 0)))]) hD hS hA [4, 6] rfl
  refine va_calli (va_runV (As := [.int (xs 1)]) (rest := [.int r_1]) ⟨hx, hb, hml, hown, hts⟩ (c_X12_draws l dC dI (z) (tm) (a9) (nw) (a11) (a12) (a16) (a17) (a18) (a19) (a20) (a21) (a22) (a23) (a24) (a25) (a26) (a28) (a29) (a30) (a31) (a32) (a33) (a35) (a36) (cI) ((xs 1)) H.size) (cwV 1 hts (kz_gV qw_999 qw_1000 qw_1001 qw_5 qw_1002) rfl rfl rfl (by decide +kernel) ⟨Nat.le_of_ble_eq_true rfl, Nat.le_of_ble_eq_true rfl⟩) (⟨(kz_preS hPc hKc hDc).1, (va_recv hKc hPc (ci := 12) (q0 := 0) rfl rfl), (kz_preS hPc hKc hDc).2⟩) rfl rfl hl.1 rfl (lv_room (Nat.le_of_ble_eq_true rfl)) dL_law_468 ⟨Nat.le_of_ble_eq_true rfl, Nat.le_of_ble_eq_true rfl⟩) hS (fun q _ h => hFc q h) hFc (fun r_4 u_5 t H1 locs ht hvm hw hB hz1 hk1 hS => ?_)
  try dsimp only at hw
  have hP1 : va_P (dC, dI) vwCl [] H1 := kz_P0
  have hD1 : va_D (va_A [(z, .inr (12, [.ref tm, .int 0, .int 0, .int 0, .int 0, .int 0, .int 0, .int 0, .int 0, .ref a9, .ref nw, .ref a11, .ref a12, .int 0, .int 0, .int 0, .ref a16, .ref a17, .ref a18, .ref a19, .ref a20, .ref a21, .ref a22, .ref a23, .ref a24, .ref a25, .ref a26, .int 0, .ref a28, .ref a29, .ref a30, .ref a31, .ref a32, .ref a33, .int 0, .ref a35, .ref a36])), (nw, .inl (cI, 12507, .inl (fun _ => 0)))] H.size) [] := kz_D0
  have hK1 : va_K (dC, dI) vwCl [] s := hK.sub [] rfl
  obtain ⟨hP, hD⟩ := va_join (wr := [(tp, .inr (8, [.ref i1, .ref i2, .int 0, .int 0, .int 0, .int 0, .int 0, .ref bt, .int 0, .int 0, .int 0])), (bt, .inl (cB, 300, .inl (fun _ => 0))), (hi, .inr (3, [.int 0, .ref t1, .ref t2, .int 0])), (sh, .inl (cT, 2, .inr (.inr (.inr (.inr (fun _ => none)))))), (tm, .inl (cM, 300, .inl (fun _ => 0)))]) (w1 := []) hP hD [4, 6] [0, 1, 2, 3, 5] rfl rfl (by decide) (by decide) hk1 hFc hP1 hD1
  have hK := (hK.sub (tys' := [(cB, .byte), (cT, .object RX10), (cM, .byte)]) [0, 1, 2] rfl).app hK1
  generalize H1 = H at hP hS ⊢
  have hP : va_P (dC, dI) vwCl [(tp, .inr (8, [.ref i1, .ref i2, .int 0, .int 0, .int 0, .int 0, .int 0, .ref bt, .int 0, .int 0, .int 0])), (bt, .inl (cB, 300, .inl (fun _ => 0))), (hi, .inr (3, [.int 0, .ref t1, .ref t2, .int 0])), (sh, .inl (cT, 2, .inr (.inr (.inr (.inr (fun _ => none)))))), (tm, .inl (cM, 300, .inl (fun _ => 0)))] H := hP
  have hD : va_D (fun q : Nat => s.heap.size ≤ q) [(tp, .inr (8, [.ref i1, .ref i2, .int 0, .int 0, .int 0, .int 0, .int 0, .ref bt, .int 0, .int 0, .int 0])), (bt, .inl (cB, 300, .inl (fun _ => 0))), (hi, .inr (3, [.int 0, .ref t1, .ref t2, .int 0])), (sh, .inl (cT, 2, .inr (.inr (.inr (.inr (fun _ => none)))))), (tm, .inl (cM, 300, .inl (fun _ => 0)))] := hD
  have hK : va_K (dC, dI) vwCl [(cB, .byte), (cT, .object RX10), (cM, .byte)] s := hK
  have hw6 := hw
  refine lv_icmp_eq (tgt := 971) hx hb dL_law_471 (by decide) (fun _ => ?_) (fun c9 => absurd (hw3.trans hw6.symm) c9)
  exact law_tail C00 hS (lv_sub hl [0, 3] rfl)
set_option maxHeartbeats 4000000 in
set_option maxRecDepth 100000 in
theorem law_10 {p : Program} {l : Launch} {e : Env} {s : State} {m : MethodId} {below : List Frame} {meth : Method} {c : Code} {b : Nat} {xs : Nat → Int32} {dC : Nat → ClassId} {dI : Nat → Nat → Nat} {x tp hi sh g3 g4 g5 g6 g7 g8 g9 i1 i2 bt t1 t2 z tm a9 nw a11 a12 a16 a17 a18 a19 a20 a21 a22 a23 a24 a25 a26 a28 a29 a30 a31 a32 a33 a35 a36 : Nat} {cB cT cM cI : ClassId} (C00 : lw_At p s m meth c b 6 xs) (hK : va_K (dC, dI) vwCl [(cB, .byte), (cT, .object RX10), (cM, .byte), (cI, .int)] s) {H : Heap} {locs : List Loc} (hP : va_P (dC, dI) vwCl [(x, .inr (11, [.ref tp, .ref hi, .ref sh, .ref g3, .ref g4, .ref g5, .ref g6, .ref g7, .ref g8, .ref g9, .int 0, .int 0])), (tp, .inr (8, [.ref i1, .ref i2, .int 0, .int 0, .int 0, .int 0, .int 0, .ref bt, .int 0, .int 0, .int 0])), (bt, .inl (cB, 300, .inl (fun _ => 0))), (hi, .inr (3, [.int 0, .ref t1, .ref t2, .int 0])), (sh, .inl (cT, 2, .inr (.inr (.inr (.inr (fun _ => none)))))), (z, .inr (12, [.ref tm, .int 0, .int 0, .int 0, .int 0, .int 0, .int 0, .int 0, .int 0, .ref a9, .ref nw, .ref a11, .ref a12, .int 0, .int 0, .int 0, .ref a16, .ref a17, .ref a18, .ref a19, .ref a20, .ref a21, .ref a22, .ref a23, .ref a24, .ref a25, .ref a26, .int 0, .ref a28, .ref a29, .ref a30, .ref a31, .ref a32, .ref a33, .int 0, .ref a35, .ref a36])), (tm, .inl (cM, 300, .inl (fun _ => 0))), (nw, .inl (cI, 12507, .inl (fun _ => 0)))] H) (hD : va_D (fun q : Nat => s.heap.size ≤ q) [(x, .inr (11, [.ref tp, .ref hi, .ref sh, .ref g3, .ref g4, .ref g5, .ref g6, .ref g7, .ref g8, .ref g9, .int 0, .int 0])), (tp, .inr (8, [.ref i1, .ref i2, .int 0, .int 0, .int 0, .int 0, .int 0, .ref bt, .int 0, .int 0, .int 0])), (bt, .inl (cB, 300, .inl (fun _ => 0))), (hi, .inr (3, [.int 0, .ref t1, .ref t2, .int 0])), (sh, .inl (cT, 2, .inr (.inr (.inr (.inr (fun _ => none)))))), (z, .inr (12, [.ref tm, .int 0, .int 0, .int 0, .int 0, .int 0, .int 0, .int 0, .int 0, .ref a9, .ref nw, .ref a11, .ref a12, .int 0, .int 0, .int 0, .ref a16, .ref a17, .ref a18, .ref a19, .ref a20, .ref a21, .ref a22, .ref a23, .ref a24, .ref a25, .ref a26, .int 0, .ref a28, .ref a29, .ref a30, .ref a31, .ref a32, .ref a33, .int 0, .ref a35, .ref a36])), (tm, .inl (cM, 300, .inl (fun _ => 0))), (nw, .inl (cI, 12507, .inl (fun _ => 0)))]) (hS : va_S (fun q : Nat => s.heap.size ≤ q) s.heap H locs) {ls : Array Slot} (hl : lv_has ls 4 [(3, .int 0), (2, .ref z), (1, .ref x), (0, .ref b)]) : W p l e room_1 s m #[Value.ref b] below meth c H locs 80 147144 (lw_Z below #[Value.ref b] s) (F0 m 476 ls []) := by
  obtain ⟨hx, hb, hr, hml, hown, hts, hX, hbl, hlocks, hgv⟩ := id C00
  have hts : ∀ w ∈ wsU, w.before #[Value.ref b] s = true := fun w h => hts w (wsU_in w h)
  have hown : s.vm.findClass RL = some m.cls := hown
  have hA : ∀ q : Nat, s.heap.size ≤ q → (fun q : Nat => s.heap.size ≤ q) q := fun _ h => h
  have hbA : ¬ (fun q : Nat => s.heap.size ≤ q) b := Nat.not_le.mpr hbl
  refine lv_aload_n hx hb dL_law_476 rfl (lv_at hl 2 rfl) ?_
  have hPc := hP.sub (ws' := [(x, .inr (11, [.ref tp, .ref hi, .ref sh, .ref g3, .ref g4, .ref g5, .ref g6, .ref g7, .ref g8, .ref g9, .int 0, .int 0])), (hi, .inr (3, [.int 0, .ref t1, .ref t2, .int 0]))]) [0, 3] rfl
  have hDc := hD.sub (ws' := [(x, .inr (11, [.ref tp, .ref hi, .ref sh, .ref g3, .ref g4, .ref g5, .ref g6, .ref g7, .ref g8, .ref g9, .int 0, .int 0])), (hi, .inr (3, [.int 0, .ref t1, .ref t2, .int 0]))]) [0, 3] (by decide) rfl
  have hKc := hK.sub (tys' := []) [] rfl
  have hFc := va_free (wc := [(x, .inr (11, [.ref tp, .ref hi, .ref sh, .ref g3, .ref g4, .ref g5, .ref g6, .ref g7, .ref g8, .ref g9, .int 0, .int 0])), (hi, .inr (3, [.int 0, .ref t1, .ref t2, .int 0]))]) hD hS hA [0, 3] rfl
  refine va_calli (va_runV (As := []) (rest := []) ⟨hx, hb, hml, hown, hts⟩ (c_X11_undo l dC dI (x) (tp) (hi) (sh) (g3) (g4) (g5) (g6) (g7) (g8) (g9) (t1) (t2) H.size) (cwV 0 hts (kz_gV qw_1003 qw_1004 qw_1005 qw_2 qw_1006) rfl rfl rfl (by decide +kernel) ⟨Nat.le_of_ble_eq_true rfl, Nat.le_of_ble_eq_true rfl⟩) (⟨(kz_preS hPc hKc hDc).1, (va_recv hKc hPc (ci := 11) (q0 := 0) rfl rfl), (kz_preS hPc hKc hDc).2⟩) rfl rfl hl.1 rfl (lv_room (Nat.le_of_ble_eq_true rfl)) dL_law_477 ⟨Nat.le_of_ble_eq_true rfl, Nat.le_of_ble_eq_true rfl⟩) hS (fun q _ h => hFc q h) hFc (fun r_1 u_2 t H1 locs ht hvm hw hB hz1 hk1 hS => ?_)
  try dsimp only at hw
  have hP1 : va_P (dC, dI) vwCl [] H1 := kz_P0
  have hD1 : va_D (va_A [(x, .inr (11, [.ref tp, .ref hi, .ref sh, .ref g3, .ref g4, .ref g5, .ref g6, .ref g7, .ref g8, .ref g9, .int 0, .int 0])), (hi, .inr (3, [.int 0, .ref t1, .ref t2, .int 0]))] H.size) [] := kz_D0
  have hK1 : va_K (dC, dI) vwCl [] s := hK.sub [] rfl
  obtain ⟨hP, hD⟩ := va_join (wr := [(tp, .inr (8, [.ref i1, .ref i2, .int 0, .int 0, .int 0, .int 0, .int 0, .ref bt, .int 0, .int 0, .int 0])), (bt, .inl (cB, 300, .inl (fun _ => 0))), (sh, .inl (cT, 2, .inr (.inr (.inr (.inr (fun _ => none)))))), (z, .inr (12, [.ref tm, .int 0, .int 0, .int 0, .int 0, .int 0, .int 0, .int 0, .int 0, .ref a9, .ref nw, .ref a11, .ref a12, .int 0, .int 0, .int 0, .ref a16, .ref a17, .ref a18, .ref a19, .ref a20, .ref a21, .ref a22, .ref a23, .ref a24, .ref a25, .ref a26, .int 0, .ref a28, .ref a29, .ref a30, .ref a31, .ref a32, .ref a33, .int 0, .ref a35, .ref a36])), (tm, .inl (cM, 300, .inl (fun _ => 0))), (nw, .inl (cI, 12507, .inl (fun _ => 0)))]) (w1 := []) hP hD [0, 3] [1, 2, 4, 5, 6, 7] rfl rfl (by decide) (by decide) hk1 hFc hP1 hD1
  have hK := (hK.sub (tys' := [(cB, .byte), (cT, .object RX10), (cM, .byte), (cI, .int)]) [0, 1, 2, 3] rfl).app hK1
  generalize H1 = H at hP hS ⊢
  have hP : va_P (dC, dI) vwCl [(tp, .inr (8, [.ref i1, .ref i2, .int 0, .int 0, .int 0, .int 0, .int 0, .ref bt, .int 0, .int 0, .int 0])), (bt, .inl (cB, 300, .inl (fun _ => 0))), (sh, .inl (cT, 2, .inr (.inr (.inr (.inr (fun _ => none)))))), (z, .inr (12, [.ref tm, .int 0, .int 0, .int 0, .int 0, .int 0, .int 0, .int 0, .int 0, .ref a9, .ref nw, .ref a11, .ref a12, .int 0, .int 0, .int 0, .ref a16, .ref a17, .ref a18, .ref a19, .ref a20, .ref a21, .ref a22, .ref a23, .ref a24, .ref a25, .ref a26, .int 0, .ref a28, .ref a29, .ref a30, .ref a31, .ref a32, .ref a33, .int 0, .ref a35, .ref a36])), (tm, .inl (cM, 300, .inl (fun _ => 0))), (nw, .inl (cI, 12507, .inl (fun _ => 0)))] H := hP
  have hD : va_D (fun q : Nat => s.heap.size ≤ q) [(tp, .inr (8, [.ref i1, .ref i2, .int 0, .int 0, .int 0, .int 0, .int 0, .ref bt, .int 0, .int 0, .int 0])), (bt, .inl (cB, 300, .inl (fun _ => 0))), (sh, .inl (cT, 2, .inr (.inr (.inr (.inr (fun _ => none)))))), (z, .inr (12, [.ref tm, .int 0, .int 0, .int 0, .int 0, .int 0, .int 0, .int 0, .int 0, .ref a9, .ref nw, .ref a11, .ref a12, .int 0, .int 0, .int 0, .ref a16, .ref a17, .ref a18, .ref a19, .ref a20, .ref a21, .ref a22, .ref a23, .ref a24, .ref a25, .ref a26, .int 0, .ref a28, .ref a29, .ref a30, .ref a31, .ref a32, .ref a33, .int 0, .ref a35, .ref a36])), (tm, .inl (cM, 300, .inl (fun _ => 0))), (nw, .inl (cI, 12507, .inl (fun _ => 0)))] := hD
  have hK : va_K (dC, dI) vwCl [(cB, .byte), (cT, .object RX10), (cM, .byte), (cI, .int)] s := hK
  obtain rfl : r_1 = (-1) := hw
  refine lv_aload_n hx hb dL_law_480 rfl (lv_at hl 1 rfl) ?_
  have hPc := hP.sub (ws' := [(z, .inr (12, [.ref tm, .int 0, .int 0, .int 0, .int 0, .int 0, .int 0, .int 0, .int 0, .ref a9, .ref nw, .ref a11, .ref a12, .int 0, .int 0, .int 0, .ref a16, .ref a17, .ref a18, .ref a19, .ref a20, .ref a21, .ref a22, .ref a23, .ref a24, .ref a25, .ref a26, .int 0, .ref a28, .ref a29, .ref a30, .ref a31, .ref a32, .ref a33, .int 0, .ref a35, .ref a36]))]) [3] rfl
  have hDc := hD.sub (ws' := [(z, .inr (12, [.ref tm, .int 0, .int 0, .int 0, .int 0, .int 0, .int 0, .int 0, .int 0, .ref a9, .ref nw, .ref a11, .ref a12, .int 0, .int 0, .int 0, .ref a16, .ref a17, .ref a18, .ref a19, .ref a20, .ref a21, .ref a22, .ref a23, .ref a24, .ref a25, .ref a26, .int 0, .ref a28, .ref a29, .ref a30, .ref a31, .ref a32, .ref a33, .int 0, .ref a35, .ref a36]))]) [3] (by decide) rfl
  have hKc := hK.sub (tys' := []) [] rfl
  have hFc := va_free (wc := [(z, .inr (12, [.ref tm, .int 0, .int 0, .int 0, .int 0, .int 0, .int 0, .int 0, .int 0, .ref a9, .ref nw, .ref a11, .ref a12, .int 0, .int 0, .int 0, .ref a16, .ref a17, .ref a18, .ref a19, .ref a20, .ref a21, .ref a22, .ref a23, .ref a24, .ref a25, .ref a26, .int 0, .ref a28, .ref a29, .ref a30, .ref a31, .ref a32, .ref a33, .int 0, .ref a35, .ref a36]))]) hD hS hA [3] rfl
  refine va_calli (va_runV (As := []) (rest := [.int (-1)]) ⟨hx, hb, hml, hown, hts⟩ (c_X12_undo l dC dI (z) (tm) (a9) (nw) (a11) (a12) (a16) (a17) (a18) (a19) (a20) (a21) (a22) (a23) (a24) (a25) (a26) (a28) (a29) (a30) (a31) (a32) (a33) (a35) (a36) H.size) (cwV 0 hts (kz_gV qw_1016 qw_1017 qw_1018 qw_5 qw_1019) rfl rfl rfl (by decide +kernel) ⟨Nat.le_of_ble_eq_true rfl, Nat.le_of_ble_eq_true rfl⟩) (⟨(kz_preS hPc hKc hDc).1, (va_recv hKc hPc (ci := 12) (q0 := 0) rfl rfl), (kz_preS hPc hKc hDc).2⟩) rfl rfl hl.1 rfl (lv_room (Nat.le_of_ble_eq_true rfl)) dL_law_481 ⟨Nat.le_of_ble_eq_true rfl, Nat.le_of_ble_eq_true rfl⟩) hS (fun q _ h => hFc q h) hFc (fun r_3 u_4 t H1 locs ht hvm hw hB hz1 hk1 hS => ?_)
  try dsimp only at hw
  have hP1 : va_P (dC, dI) vwCl [] H1 := kz_P0
  have hD1 : va_D (va_A [(z, .inr (12, [.ref tm, .int 0, .int 0, .int 0, .int 0, .int 0, .int 0, .int 0, .int 0, .ref a9, .ref nw, .ref a11, .ref a12, .int 0, .int 0, .int 0, .ref a16, .ref a17, .ref a18, .ref a19, .ref a20, .ref a21, .ref a22, .ref a23, .ref a24, .ref a25, .ref a26, .int 0, .ref a28, .ref a29, .ref a30, .ref a31, .ref a32, .ref a33, .int 0, .ref a35, .ref a36]))] H.size) [] := kz_D0
  have hK1 : va_K (dC, dI) vwCl [] s := hK.sub [] rfl
  obtain ⟨hP, hD⟩ := va_join (wr := [(tp, .inr (8, [.ref i1, .ref i2, .int 0, .int 0, .int 0, .int 0, .int 0, .ref bt, .int 0, .int 0, .int 0])), (bt, .inl (cB, 300, .inl (fun _ => 0))), (sh, .inl (cT, 2, .inr (.inr (.inr (.inr (fun _ => none)))))), (tm, .inl (cM, 300, .inl (fun _ => 0))), (nw, .inl (cI, 12507, .inl (fun _ => 0)))]) (w1 := []) hP hD [3] [0, 1, 2, 4, 5] rfl rfl (by decide) (by decide) hk1 hFc hP1 hD1
  have hK := (hK.sub (tys' := [(cB, .byte), (cT, .object RX10), (cM, .byte), (cI, .int)]) [0, 1, 2, 3] rfl).app hK1
  generalize H1 = H at hP hS ⊢
  have hP : va_P (dC, dI) vwCl [(tp, .inr (8, [.ref i1, .ref i2, .int 0, .int 0, .int 0, .int 0, .int 0, .ref bt, .int 0, .int 0, .int 0])), (bt, .inl (cB, 300, .inl (fun _ => 0))), (sh, .inl (cT, 2, .inr (.inr (.inr (.inr (fun _ => none)))))), (tm, .inl (cM, 300, .inl (fun _ => 0))), (nw, .inl (cI, 12507, .inl (fun _ => 0)))] H := hP
  have hD : va_D (fun q : Nat => s.heap.size ≤ q) [(tp, .inr (8, [.ref i1, .ref i2, .int 0, .int 0, .int 0, .int 0, .int 0, .ref bt, .int 0, .int 0, .int 0])), (bt, .inl (cB, 300, .inl (fun _ => 0))), (sh, .inl (cT, 2, .inr (.inr (.inr (.inr (fun _ => none)))))), (tm, .inl (cM, 300, .inl (fun _ => 0))), (nw, .inl (cI, 12507, .inl (fun _ => 0)))] := hD
  have hK : va_K (dC, dI) vwCl [(cB, .byte), (cT, .object RX10), (cM, .byte), (cI, .int)] s := hK
  obtain rfl : r_3 = (-1) := hw
  refine lv_icmp_eq (tgt := 971) hx hb dL_law_484 (by decide) (fun _ => ?_) (fun c9 => absurd (by decide) c9)
  exact law_tail C00 hS (lv_sub hl [0, 3] rfl)
set_option maxHeartbeats 4000000 in
set_option maxRecDepth 100000 in
theorem law_11 {p : Program} {l : Launch} {e : Env} {s : State} {m : MethodId} {below : List Frame} {meth : Method} {c : Code} {b : Nat} {xs : Nat → Int32} {dC : Nat → ClassId} {dI : Nat → Nat → Nat} {x tp hi sh g3 g4 g5 g6 g7 g8 g9 i1 i2 bt t1 t2 z tm a9 nw a11 a12 a16 a17 a18 a19 a20 a21 a22 a23 a24 a25 a26 a28 a29 a30 a31 a32 a33 a35 a36 : Nat} {cB cT cM cI : ClassId} (C00 : lw_At p s m meth c b 6 xs) (hK : va_K (dC, dI) vwCl [(cB, .byte), (cT, .object RX10), (cM, .byte), (cI, .int)] s) {H : Heap} {locs : List Loc} (hP : va_P (dC, dI) vwCl [(x, .inr (11, [.ref tp, .ref hi, .ref sh, .ref g3, .ref g4, .ref g5, .ref g6, .ref g7, .ref g8, .ref g9, .int 0, .int 0])), (tp, .inr (8, [.ref i1, .ref i2, .int 0, .int 0, .int 0, .int 0, .int 0, .ref bt, .int 0, .int 0, .int 0])), (bt, .inl (cB, 300, .inl (fun _ => 0))), (hi, .inr (3, [.int 0, .ref t1, .ref t2, .int 0])), (sh, .inl (cT, 2, .inr (.inr (.inr (.inr (fun _ => none)))))), (z, .inr (12, [.ref tm, .int 0, .int 0, .int 0, .int 0, .int 0, .int 0, .int 0, .int 0, .ref a9, .ref nw, .ref a11, .ref a12, .int 0, .int 0, .int 0, .ref a16, .ref a17, .ref a18, .ref a19, .ref a20, .ref a21, .ref a22, .ref a23, .ref a24, .ref a25, .ref a26, .int 0, .ref a28, .ref a29, .ref a30, .ref a31, .ref a32, .ref a33, .int 0, .ref a35, .ref a36])), (tm, .inl (cM, 300, .inl (fun _ => 0))), (nw, .inl (cI, 12507, .inl (fun _ => 0)))] H) (hD : va_D (fun q : Nat => s.heap.size ≤ q) [(x, .inr (11, [.ref tp, .ref hi, .ref sh, .ref g3, .ref g4, .ref g5, .ref g6, .ref g7, .ref g8, .ref g9, .int 0, .int 0])), (tp, .inr (8, [.ref i1, .ref i2, .int 0, .int 0, .int 0, .int 0, .int 0, .ref bt, .int 0, .int 0, .int 0])), (bt, .inl (cB, 300, .inl (fun _ => 0))), (hi, .inr (3, [.int 0, .ref t1, .ref t2, .int 0])), (sh, .inl (cT, 2, .inr (.inr (.inr (.inr (fun _ => none)))))), (z, .inr (12, [.ref tm, .int 0, .int 0, .int 0, .int 0, .int 0, .int 0, .int 0, .int 0, .ref a9, .ref nw, .ref a11, .ref a12, .int 0, .int 0, .int 0, .ref a16, .ref a17, .ref a18, .ref a19, .ref a20, .ref a21, .ref a22, .ref a23, .ref a24, .ref a25, .ref a26, .int 0, .ref a28, .ref a29, .ref a30, .ref a31, .ref a32, .ref a33, .int 0, .ref a35, .ref a36])), (tm, .inl (cM, 300, .inl (fun _ => 0))), (nw, .inl (cI, 12507, .inl (fun _ => 0)))]) (hS : va_S (fun q : Nat => s.heap.size ≤ q) s.heap H locs) {ls : Array Slot} (hl : lv_has ls 4 [(3, .int 0), (2, .ref z), (1, .ref x), (0, .ref b)]) : W p l e room_1 s m #[Value.ref b] below meth c H locs 80 147144 (lw_Z below #[Value.ref b] s) (F0 m 489 ls []) := by
  obtain ⟨hx, hb, hr, hml, hown, hts, hX, hbl, hlocks, hgv⟩ := id C00
  have hts : ∀ w ∈ wsU, w.before #[Value.ref b] s = true := fun w h => hts w (wsU_in w h)
  have hown : s.vm.findClass RL = some m.cls := hown
  have hA : ∀ q : Nat, s.heap.size ≤ q → (fun q : Nat => s.heap.size ≤ q) q := fun _ h => h
  have hbA : ¬ (fun q : Nat => s.heap.size ≤ q) b := Nat.not_le.mpr hbl
  refine lv_aload_n hx hb dL_law_489 rfl (lv_at hl 2 rfl) ?_
  refine lv_aload_n hx hb dL_law_490 rfl (lv_at hl 3 rfl) ?_
  refine lv_iload_n hx hb dL_law_491 rfl (lv_at hl 0 rfl) ?_
  refine lv_iconst (v := 1) hx hb dL_law_492 (by decide) ?_
  refine lv_iadd hx hb dL_law_493 ?_
  refine kz_topi (y := 1) (by decide) ?_
  refine va_sld hx hb hX hbl hbA hS (i := 1) (kz_in (by decide +kernel)) dL_law_494 ?_
  refine kz_topi (y := xs 1) (congrArg xs (by decide)) ?_
  have hPc := hP.sub (ws' := [(x, .inr (11, [.ref tp, .ref hi, .ref sh, .ref g3, .ref g4, .ref g5, .ref g6, .ref g7, .ref g8, .ref g9, .int 0, .int 0]))]) [0] rfl
  have hDc := hD.sub (ws' := [(x, .inr (11, [.ref tp, .ref hi, .ref sh, .ref g3, .ref g4, .ref g5, .ref g6, .ref g7, .ref g8, .ref g9, .int 0, .int 0]))]) [0] (by decide) rfl
  have hKc := hK.sub (tys' := []) [] rfl
  have hFc := va_free (wc := [(x, .inr (11, [.ref tp, .ref hi, .ref sh, .ref g3, .ref g4, .ref g5, .ref g6, .ref g7, .ref g8, .ref g9, .int 0, .int 0]))]) hD hS hA [0] rfl
  refine va_calli (va_runV (As := [.int (xs 1)]) (rest := []) ⟨hx, hb, hml, hown, hts⟩ (c_X11_keep l dC dI (x) (tp) (hi) (sh) (g3) (g4) (g5) (g6) (g7) (g8) (g9) ((xs 1)) H.size) (cwV 1 hts (kz_gV qw_1024 qw_1025 qw_1026 qw_2 qw_1027) rfl rfl rfl (by decide +kernel) ⟨Nat.le_of_ble_eq_true rfl, Nat.le_of_ble_eq_true rfl⟩) (⟨(kz_preS hPc hKc hDc).1, (va_recv hKc hPc (ci := 11) (q0 := 0) rfl rfl), (kz_preS hPc hKc hDc).2⟩) rfl rfl hl.1 rfl (lv_room (Nat.le_of_ble_eq_true rfl)) dL_law_495 ⟨Nat.le_of_ble_eq_true rfl, Nat.le_of_ble_eq_true rfl⟩) hS (fun q _ h => hFc q h) hFc (fun r_1 u_2 t H1 locs ht hvm hw hB hz1 hk1 hS => ?_)
  try dsimp only at hw
  have hP1 : va_P (dC, dI) vwCl [] H1 := kz_P0
  have hD1 : va_D (va_A [(x, .inr (11, [.ref tp, .ref hi, .ref sh, .ref g3, .ref g4, .ref g5, .ref g6, .ref g7, .ref g8, .ref g9, .int 0, .int 0]))] H.size) [] := kz_D0
  have hK1 : va_K (dC, dI) vwCl [] s := hK.sub [] rfl
  obtain ⟨hP, hD⟩ := va_join (wr := [(tp, .inr (8, [.ref i1, .ref i2, .int 0, .int 0, .int 0, .int 0, .int 0, .ref bt, .int 0, .int 0, .int 0])), (bt, .inl (cB, 300, .inl (fun _ => 0))), (hi, .inr (3, [.int 0, .ref t1, .ref t2, .int 0])), (sh, .inl (cT, 2, .inr (.inr (.inr (.inr (fun _ => none)))))), (z, .inr (12, [.ref tm, .int 0, .int 0, .int 0, .int 0, .int 0, .int 0, .int 0, .int 0, .ref a9, .ref nw, .ref a11, .ref a12, .int 0, .int 0, .int 0, .ref a16, .ref a17, .ref a18, .ref a19, .ref a20, .ref a21, .ref a22, .ref a23, .ref a24, .ref a25, .ref a26, .int 0, .ref a28, .ref a29, .ref a30, .ref a31, .ref a32, .ref a33, .int 0, .ref a35, .ref a36])), (tm, .inl (cM, 300, .inl (fun _ => 0))), (nw, .inl (cI, 12507, .inl (fun _ => 0)))]) (w1 := []) hP hD [0] [1, 2, 3, 4, 5, 6, 7] rfl rfl (by decide) (by decide) hk1 hFc hP1 hD1
  have hK := (hK.sub (tys' := [(cB, .byte), (cT, .object RX10), (cM, .byte), (cI, .int)]) [0, 1, 2, 3] rfl).app hK1
  generalize H1 = H at hP hS ⊢
  have hP : va_P (dC, dI) vwCl [(tp, .inr (8, [.ref i1, .ref i2, .int 0, .int 0, .int 0, .int 0, .int 0, .ref bt, .int 0, .int 0, .int 0])), (bt, .inl (cB, 300, .inl (fun _ => 0))), (hi, .inr (3, [.int 0, .ref t1, .ref t2, .int 0])), (sh, .inl (cT, 2, .inr (.inr (.inr (.inr (fun _ => none)))))), (z, .inr (12, [.ref tm, .int 0, .int 0, .int 0, .int 0, .int 0, .int 0, .int 0, .int 0, .ref a9, .ref nw, .ref a11, .ref a12, .int 0, .int 0, .int 0, .ref a16, .ref a17, .ref a18, .ref a19, .ref a20, .ref a21, .ref a22, .ref a23, .ref a24, .ref a25, .ref a26, .int 0, .ref a28, .ref a29, .ref a30, .ref a31, .ref a32, .ref a33, .int 0, .ref a35, .ref a36])), (tm, .inl (cM, 300, .inl (fun _ => 0))), (nw, .inl (cI, 12507, .inl (fun _ => 0)))] H := hP
  have hD : va_D (fun q : Nat => s.heap.size ≤ q) [(tp, .inr (8, [.ref i1, .ref i2, .int 0, .int 0, .int 0, .int 0, .int 0, .ref bt, .int 0, .int 0, .int 0])), (bt, .inl (cB, 300, .inl (fun _ => 0))), (hi, .inr (3, [.int 0, .ref t1, .ref t2, .int 0])), (sh, .inl (cT, 2, .inr (.inr (.inr (.inr (fun _ => none)))))), (z, .inr (12, [.ref tm, .int 0, .int 0, .int 0, .int 0, .int 0, .int 0, .int 0, .int 0, .ref a9, .ref nw, .ref a11, .ref a12, .int 0, .int 0, .int 0, .ref a16, .ref a17, .ref a18, .ref a19, .ref a20, .ref a21, .ref a22, .ref a23, .ref a24, .ref a25, .ref a26, .int 0, .ref a28, .ref a29, .ref a30, .ref a31, .ref a32, .ref a33, .int 0, .ref a35, .ref a36])), (tm, .inl (cM, 300, .inl (fun _ => 0))), (nw, .inl (cI, 12507, .inl (fun _ => 0)))] := hD
  have hK : va_K (dC, dI) vwCl [(cB, .byte), (cT, .object RX10), (cM, .byte), (cI, .int)] s := hK
  obtain rfl : r_1 = (-1) := hw
  refine lv_aload_n hx hb dL_law_498 rfl (lv_at hl 1 rfl) ?_
  refine lv_aload_n hx hb dL_law_499 rfl (lv_at hl 3 rfl) ?_
  refine lv_iload_n hx hb dL_law_500 rfl (lv_at hl 0 rfl) ?_
  refine lv_iconst (v := 1) hx hb dL_law_501 (by decide) ?_
  refine lv_iadd hx hb dL_law_502 ?_
  refine kz_topi (y := 1) (by decide) ?_
  refine va_sld hx hb hX hbl hbA hS (i := 1) (kz_in (by decide +kernel)) dL_law_503 ?_
  refine kz_topi (y := xs 1) (congrArg xs (by decide)) ?_
  have hPc := hP.sub (ws' := [(z, .inr (12, [.ref tm, .int 0, .int 0, .int 0, .int 0, .int 0, .int 0, .int 0, .int 0, .ref a9, .ref nw, .ref a11, .ref a12, .int 0, .int 0, .int 0, .ref a16, .ref a17, .ref a18, .ref a19, .ref a20, .ref a21, .ref a22, .ref a23, .ref a24, .ref a25, .ref a26, .int 0, .ref a28, .ref a29, .ref a30, .ref a31, .ref a32, .ref a33, .int 0, .ref a35, .ref a36]))]) [4] rfl
  have hDc := hD.sub (ws' := [(z, .inr (12, [.ref tm, .int 0, .int 0, .int 0, .int 0, .int 0, .int 0, .int 0, .int 0, .ref a9, .ref nw, .ref a11, .ref a12, .int 0, .int 0, .int 0, .ref a16, .ref a17, .ref a18, .ref a19, .ref a20, .ref a21, .ref a22, .ref a23, .ref a24, .ref a25, .ref a26, .int 0, .ref a28, .ref a29, .ref a30, .ref a31, .ref a32, .ref a33, .int 0, .ref a35, .ref a36]))]) [4] (by decide) rfl
  have hKc := hK.sub (tys' := []) [] rfl
  have hFc := va_free (wc := [(z, .inr (12, [.ref tm, .int 0, .int 0, .int 0, .int 0, .int 0, .int 0, .int 0, .int 0, .ref a9, .ref nw, .ref a11, .ref a12, .int 0, .int 0, .int 0, .ref a16, .ref a17, .ref a18, .ref a19, .ref a20, .ref a21, .ref a22, .ref a23, .ref a24, .ref a25, .ref a26, .int 0, .ref a28, .ref a29, .ref a30, .ref a31, .ref a32, .ref a33, .int 0, .ref a35, .ref a36]))]) hD hS hA [4] rfl
  refine va_calli (va_runV (As := [.int (xs 1)]) (rest := [.int (-1)]) ⟨hx, hb, hml, hown, hts⟩ (c_X12_keep l dC dI (z) (tm) (a9) (nw) (a11) (a12) (a16) (a17) (a18) (a19) (a20) (a21) (a22) (a23) (a24) (a25) (a26) (a28) (a29) (a30) (a31) (a32) (a33) (a35) (a36) ((xs 1)) H.size) (cwV 1 hts (kz_gV qw_1032 qw_1033 qw_1034 qw_5 qw_1035) rfl rfl rfl (by decide +kernel) ⟨Nat.le_of_ble_eq_true rfl, Nat.le_of_ble_eq_true rfl⟩) (⟨(kz_preS hPc hKc hDc).1, (va_recv hKc hPc (ci := 12) (q0 := 0) rfl rfl), (kz_preS hPc hKc hDc).2⟩) rfl rfl hl.1 rfl (lv_room (Nat.le_of_ble_eq_true rfl)) dL_law_504 ⟨Nat.le_of_ble_eq_true rfl, Nat.le_of_ble_eq_true rfl⟩) hS (fun q _ h => hFc q h) hFc (fun r_3 u_4 t H1 locs ht hvm hw hB hz1 hk1 hS => ?_)
  try dsimp only at hw
  have hP1 : va_P (dC, dI) vwCl [] H1 := kz_P0
  have hD1 : va_D (va_A [(z, .inr (12, [.ref tm, .int 0, .int 0, .int 0, .int 0, .int 0, .int 0, .int 0, .int 0, .ref a9, .ref nw, .ref a11, .ref a12, .int 0, .int 0, .int 0, .ref a16, .ref a17, .ref a18, .ref a19, .ref a20, .ref a21, .ref a22, .ref a23, .ref a24, .ref a25, .ref a26, .int 0, .ref a28, .ref a29, .ref a30, .ref a31, .ref a32, .ref a33, .int 0, .ref a35, .ref a36]))] H.size) [] := kz_D0
  have hK1 : va_K (dC, dI) vwCl [] s := hK.sub [] rfl
  obtain ⟨hP, hD⟩ := va_join (wr := [(tp, .inr (8, [.ref i1, .ref i2, .int 0, .int 0, .int 0, .int 0, .int 0, .ref bt, .int 0, .int 0, .int 0])), (bt, .inl (cB, 300, .inl (fun _ => 0))), (hi, .inr (3, [.int 0, .ref t1, .ref t2, .int 0])), (sh, .inl (cT, 2, .inr (.inr (.inr (.inr (fun _ => none)))))), (tm, .inl (cM, 300, .inl (fun _ => 0))), (nw, .inl (cI, 12507, .inl (fun _ => 0)))]) (w1 := []) hP hD [4] [0, 1, 2, 3, 5, 6] rfl rfl (by decide) (by decide) hk1 hFc hP1 hD1
  have hK := (hK.sub (tys' := [(cB, .byte), (cT, .object RX10), (cM, .byte), (cI, .int)]) [0, 1, 2, 3] rfl).app hK1
  generalize H1 = H at hP hS ⊢
  have hP : va_P (dC, dI) vwCl [(tp, .inr (8, [.ref i1, .ref i2, .int 0, .int 0, .int 0, .int 0, .int 0, .ref bt, .int 0, .int 0, .int 0])), (bt, .inl (cB, 300, .inl (fun _ => 0))), (hi, .inr (3, [.int 0, .ref t1, .ref t2, .int 0])), (sh, .inl (cT, 2, .inr (.inr (.inr (.inr (fun _ => none)))))), (tm, .inl (cM, 300, .inl (fun _ => 0))), (nw, .inl (cI, 12507, .inl (fun _ => 0)))] H := hP
  have hD : va_D (fun q : Nat => s.heap.size ≤ q) [(tp, .inr (8, [.ref i1, .ref i2, .int 0, .int 0, .int 0, .int 0, .int 0, .ref bt, .int 0, .int 0, .int 0])), (bt, .inl (cB, 300, .inl (fun _ => 0))), (hi, .inr (3, [.int 0, .ref t1, .ref t2, .int 0])), (sh, .inl (cT, 2, .inr (.inr (.inr (.inr (fun _ => none)))))), (tm, .inl (cM, 300, .inl (fun _ => 0))), (nw, .inl (cI, 12507, .inl (fun _ => 0)))] := hD
  have hK : va_K (dC, dI) vwCl [(cB, .byte), (cT, .object RX10), (cM, .byte), (cI, .int)] s := hK
  obtain rfl : r_3 = (-1) := hw
  refine lv_icmp_eq (tgt := 971) hx hb dL_law_507 (by decide) (fun _ => ?_) (fun c9 => absurd (by decide) c9)
  exact law_tail C00 hS (lv_sub hl [0, 3] rfl)
set_option maxHeartbeats 4000000 in
set_option maxRecDepth 100000 in
theorem law_12 {p : Program} {l : Launch} {e : Env} {s : State} {m : MethodId} {below : List Frame} {meth : Method} {c : Code} {b : Nat} {xs : Nat → Int32} {dC : Nat → ClassId} {dI : Nat → Nat → Nat} {x tp hi sh g3 g4 g5 g6 g7 g8 g9 i1 i2 bt t1 t2 z tm a9 nw a11 a12 a16 a17 a18 a19 a20 a21 a22 a23 a24 a25 a26 a28 a29 a30 a31 a32 a33 a35 a36 : Nat} {cB cT cM cI : ClassId} (C00 : lw_At p s m meth c b 6 xs) (hK : va_K (dC, dI) vwCl [(cB, .byte), (cT, .object RX10), (cM, .byte), (cI, .int)] s) {H : Heap} {locs : List Loc} (hP : va_P (dC, dI) vwCl [(x, .inr (11, [.ref tp, .ref hi, .ref sh, .ref g3, .ref g4, .ref g5, .ref g6, .ref g7, .ref g8, .ref g9, .int 0, .int 0])), (tp, .inr (8, [.ref i1, .ref i2, .int 0, .int 0, .int 0, .int 0, .int 0, .ref bt, .int 0, .int 0, .int 0])), (bt, .inl (cB, 300, .inl (fun _ => 0))), (hi, .inr (3, [.int 0, .ref t1, .ref t2, .int 0])), (sh, .inl (cT, 2, .inr (.inr (.inr (.inr (fun _ => none)))))), (z, .inr (12, [.ref tm, .int 0, .int 0, .int 0, .int 0, .int 0, .int 0, .int 0, .int 0, .ref a9, .ref nw, .ref a11, .ref a12, .int 0, .int 0, .int 0, .ref a16, .ref a17, .ref a18, .ref a19, .ref a20, .ref a21, .ref a22, .ref a23, .ref a24, .ref a25, .ref a26, .int 0, .ref a28, .ref a29, .ref a30, .ref a31, .ref a32, .ref a33, .int 0, .ref a35, .ref a36])), (tm, .inl (cM, 300, .inl (fun _ => 0))), (nw, .inl (cI, 12507, .inl (fun _ => 0)))] H) (hD : va_D (fun q : Nat => s.heap.size ≤ q) [(x, .inr (11, [.ref tp, .ref hi, .ref sh, .ref g3, .ref g4, .ref g5, .ref g6, .ref g7, .ref g8, .ref g9, .int 0, .int 0])), (tp, .inr (8, [.ref i1, .ref i2, .int 0, .int 0, .int 0, .int 0, .int 0, .ref bt, .int 0, .int 0, .int 0])), (bt, .inl (cB, 300, .inl (fun _ => 0))), (hi, .inr (3, [.int 0, .ref t1, .ref t2, .int 0])), (sh, .inl (cT, 2, .inr (.inr (.inr (.inr (fun _ => none)))))), (z, .inr (12, [.ref tm, .int 0, .int 0, .int 0, .int 0, .int 0, .int 0, .int 0, .int 0, .ref a9, .ref nw, .ref a11, .ref a12, .int 0, .int 0, .int 0, .ref a16, .ref a17, .ref a18, .ref a19, .ref a20, .ref a21, .ref a22, .ref a23, .ref a24, .ref a25, .ref a26, .int 0, .ref a28, .ref a29, .ref a30, .ref a31, .ref a32, .ref a33, .int 0, .ref a35, .ref a36])), (tm, .inl (cM, 300, .inl (fun _ => 0))), (nw, .inl (cI, 12507, .inl (fun _ => 0)))]) (hS : va_S (fun q : Nat => s.heap.size ≤ q) s.heap H locs) {ls : Array Slot} (hl : lv_has ls 4 [(3, .int 0), (2, .ref z), (1, .ref x), (0, .ref b)]) : W p l e room_1 s m #[Value.ref b] below meth c H locs 80 147144 (lw_Z below #[Value.ref b] s) (F0 m 512 ls []) := by
  obtain ⟨hx, hb, hr, hml, hown, hts, hX, hbl, hlocks, hgv⟩ := id C00
  have hts : ∀ w ∈ wsU, w.before #[Value.ref b] s = true := fun w h => hts w (wsU_in w h)
  have hown : s.vm.findClass RL = some m.cls := hown
  have hA : ∀ q : Nat, s.heap.size ≤ q → (fun q : Nat => s.heap.size ≤ q) q := fun _ h => h
  have hbA : ¬ (fun q : Nat => s.heap.size ≤ q) b := Nat.not_le.mpr hbl
  refine lv_aload_n hx hb dL_law_512 rfl (lv_at hl 2 rfl) ?_
  refine lv_aload_n hx hb dL_law_513 rfl (lv_at hl 3 rfl) ?_
  refine lv_iload_n hx hb dL_law_514 rfl (lv_at hl 0 rfl) ?_
  refine lv_iconst (v := 1) hx hb dL_law_515 (by decide) ?_
  refine lv_iadd hx hb dL_law_516 ?_
  refine kz_topi (y := 1) (by decide) ?_
  refine va_sld hx hb hX hbl hbA hS (i := 1) (kz_in (by decide +kernel)) dL_law_517 ?_
  refine kz_topi (y := xs 1) (congrArg xs (by decide)) ?_
  have hPc := hP.sub (ws' := [(x, .inr (11, [.ref tp, .ref hi, .ref sh, .ref g3, .ref g4, .ref g5, .ref g6, .ref g7, .ref g8, .ref g9, .int 0, .int 0])), (sh, .inl (cT, 2, .inr (.inr (.inr (.inr (fun _ => none))))))]) [0, 4] rfl
  have hDc := hD.sub (ws' := [(x, .inr (11, [.ref tp, .ref hi, .ref sh, .ref g3, .ref g4, .ref g5, .ref g6, .ref g7, .ref g8, .ref g9, .int 0, .int 0])), (sh, .inl (cT, 2, .inr (.inr (.inr (.inr (fun _ => none))))))]) [0, 4] (by decide) rfl
  have hKc := hK.sub (tys' := [(cT, .object RX10)]) [1] rfl
  have hFc := va_free (wc := [(x, .inr (11, [.ref tp, .ref hi, .ref sh, .ref g3, .ref g4, .ref g5, .ref g6, .ref g7, .ref g8, .ref g9, .int 0, .int 0])), (sh, .inl (cT, 2, .inr (.inr (.inr (.inr (fun _ => none))))))]) hD hS hA [0, 4] rfl
  refine va_calli (va_runV (As := [.int (xs 1)]) (rest := []) ⟨hx, hb, hml, hown, hts⟩ (c_X11_back l dC dI (x) (tp) (hi) (sh) (g3) (g4) (g5) (g6) (g7) (g8) (g9) (cT) ((xs 1)) H.size) (cwV 1 hts (kz_gV qw_1041 qw_1042 qw_1043 qw_2 qw_1044) rfl rfl rfl (by decide +kernel) ⟨Nat.le_of_ble_eq_true rfl, Nat.le_of_ble_eq_true rfl⟩) (⟨(kz_preS hPc hKc hDc).1, (va_recv hKc hPc (ci := 11) (q0 := 0) rfl rfl), (kz_preS hPc hKc hDc).2⟩) rfl rfl hl.1 rfl (lv_room (Nat.le_of_ble_eq_true rfl)) dL_law_518 ⟨Nat.le_of_ble_eq_true rfl, Nat.le_of_ble_eq_true rfl⟩) hS (fun q _ h => hFc q h) hFc (fun r_1 u_2 t H1 locs ht hvm hw hB hz1 hk1 hS => ?_)
  try dsimp only at hw
  have hP1 : va_P (dC, dI) vwCl [] H1 := kz_P0
  have hD1 : va_D (va_A [(x, .inr (11, [.ref tp, .ref hi, .ref sh, .ref g3, .ref g4, .ref g5, .ref g6, .ref g7, .ref g8, .ref g9, .int 0, .int 0])), (sh, .inl (cT, 2, .inr (.inr (.inr (.inr (fun _ => none))))))] H.size) [] := kz_D0
  have hK1 : va_K (dC, dI) vwCl [] s := hK.sub [] rfl
  obtain ⟨hP, hD⟩ := va_join (wr := [(tp, .inr (8, [.ref i1, .ref i2, .int 0, .int 0, .int 0, .int 0, .int 0, .ref bt, .int 0, .int 0, .int 0])), (bt, .inl (cB, 300, .inl (fun _ => 0))), (hi, .inr (3, [.int 0, .ref t1, .ref t2, .int 0])), (z, .inr (12, [.ref tm, .int 0, .int 0, .int 0, .int 0, .int 0, .int 0, .int 0, .int 0, .ref a9, .ref nw, .ref a11, .ref a12, .int 0, .int 0, .int 0, .ref a16, .ref a17, .ref a18, .ref a19, .ref a20, .ref a21, .ref a22, .ref a23, .ref a24, .ref a25, .ref a26, .int 0, .ref a28, .ref a29, .ref a30, .ref a31, .ref a32, .ref a33, .int 0, .ref a35, .ref a36])), (tm, .inl (cM, 300, .inl (fun _ => 0))), (nw, .inl (cI, 12507, .inl (fun _ => 0)))]) (w1 := []) hP hD [0, 4] [1, 2, 3, 5, 6, 7] rfl rfl (by decide) (by decide) hk1 hFc hP1 hD1
  have hK := (hK.sub (tys' := [(cB, .byte), (cM, .byte), (cI, .int)]) [0, 2, 3] rfl).app hK1
  generalize H1 = H at hP hS ⊢
  have hP : va_P (dC, dI) vwCl [(tp, .inr (8, [.ref i1, .ref i2, .int 0, .int 0, .int 0, .int 0, .int 0, .ref bt, .int 0, .int 0, .int 0])), (bt, .inl (cB, 300, .inl (fun _ => 0))), (hi, .inr (3, [.int 0, .ref t1, .ref t2, .int 0])), (z, .inr (12, [.ref tm, .int 0, .int 0, .int 0, .int 0, .int 0, .int 0, .int 0, .int 0, .ref a9, .ref nw, .ref a11, .ref a12, .int 0, .int 0, .int 0, .ref a16, .ref a17, .ref a18, .ref a19, .ref a20, .ref a21, .ref a22, .ref a23, .ref a24, .ref a25, .ref a26, .int 0, .ref a28, .ref a29, .ref a30, .ref a31, .ref a32, .ref a33, .int 0, .ref a35, .ref a36])), (tm, .inl (cM, 300, .inl (fun _ => 0))), (nw, .inl (cI, 12507, .inl (fun _ => 0)))] H := hP
  have hD : va_D (fun q : Nat => s.heap.size ≤ q) [(tp, .inr (8, [.ref i1, .ref i2, .int 0, .int 0, .int 0, .int 0, .int 0, .ref bt, .int 0, .int 0, .int 0])), (bt, .inl (cB, 300, .inl (fun _ => 0))), (hi, .inr (3, [.int 0, .ref t1, .ref t2, .int 0])), (z, .inr (12, [.ref tm, .int 0, .int 0, .int 0, .int 0, .int 0, .int 0, .int 0, .int 0, .ref a9, .ref nw, .ref a11, .ref a12, .int 0, .int 0, .int 0, .ref a16, .ref a17, .ref a18, .ref a19, .ref a20, .ref a21, .ref a22, .ref a23, .ref a24, .ref a25, .ref a26, .int 0, .ref a28, .ref a29, .ref a30, .ref a31, .ref a32, .ref a33, .int 0, .ref a35, .ref a36])), (tm, .inl (cM, 300, .inl (fun _ => 0))), (nw, .inl (cI, 12507, .inl (fun _ => 0)))] := hD
  have hK : va_K (dC, dI) vwCl [(cB, .byte), (cM, .byte), (cI, .int)] s := hK
  have hw3 := hw
  refine lv_aload_n hx hb dL_law_521 rfl (lv_at hl 1 rfl) ?_
  refine lv_aload_n hx hb dL_law_522 rfl (lv_at hl 3 rfl) ?_
  refine lv_iload_n hx hb dL_law_523 rfl (lv_at hl 0 rfl) ?_
  refine lv_iconst (v := 1) hx hb dL_law_524 (by decide) ?_
  refine lv_iadd hx hb dL_law_525 ?_
  refine kz_topi (y := 1) (by decide) ?_
  refine va_sld hx hb hX hbl hbA hS (i := 1) (kz_in (by decide +kernel)) dL_law_526 ?_
  refine kz_topi (y := xs 1) (congrArg xs (by decide)) ?_
  have hPc := hP.sub (ws' := [(z, .inr (12, [.ref tm, .int 0, .int 0, .int 0, .int 0, .int 0, .int 0, .int 0, .int 0, .ref a9, .ref nw, .ref a11, .ref a12, .int 0, .int 0, .int 0, .ref a16, .ref a17, .ref a18, .ref a19, .ref a20, .ref a21, .ref a22, .ref a23, .ref a24, .ref a25, .ref a26, .int 0, .ref a28, .ref a29, .ref a30, .ref a31, .ref a32, .ref a33, .int 0, .ref a35, .ref a36]))]) [3] rfl
  have hDc := hD.sub (ws' := [(z, .inr (12, [.ref tm, .int 0, .int 0, .int 0, .int 0, .int 0, .int 0, .int 0, .int 0, .ref a9, .ref nw, .ref a11, .ref a12, .int 0, .int 0, .int 0, .ref a16, .ref a17, .ref a18, .ref a19, .ref a20, .ref a21, .ref a22, .ref a23, .ref a24, .ref a25, .ref a26, .int 0, .ref a28, .ref a29, .ref a30, .ref a31, .ref a32, .ref a33, .int 0, .ref a35, .ref a36]))]) [3] (by decide) rfl
  have hKc := hK.sub (tys' := []) [] rfl
  have hFc := va_free (wc := [(z, .inr (12, [.ref tm, .int 0, .int 0, .int 0, .int 0, .int 0, .int 0, .int 0, .int 0, .ref a9, .ref nw, .ref a11, .ref a12, .int 0, .int 0, .int 0, .ref a16, .ref a17, .ref a18, .ref a19, .ref a20, .ref a21, .ref a22, .ref a23, .ref a24, .ref a25, .ref a26, .int 0, .ref a28, .ref a29, .ref a30, .ref a31, .ref a32, .ref a33, .int 0, .ref a35, .ref a36]))]) hD hS hA [3] rfl
  refine va_calli (va_runV (As := [.int (xs 1)]) (rest := [.int r_1]) ⟨hx, hb, hml, hown, hts⟩ (c_X12_back l dC dI (z) (tm) (a9) (nw) (a11) (a12) (a16) (a17) (a18) (a19) (a20) (a21) (a22) (a23) (a24) (a25) (a26) (a28) (a29) (a30) (a31) (a32) (a33) (a35) (a36) ((xs 1)) H.size) (cwV 1 hts (kz_gV qw_1045 qw_1046 qw_1047 qw_5 qw_1048) rfl rfl rfl (by decide +kernel) ⟨Nat.le_of_ble_eq_true rfl, Nat.le_of_ble_eq_true rfl⟩) (⟨(kz_preS hPc hKc hDc).1, (va_recv hKc hPc (ci := 12) (q0 := 0) rfl rfl), (kz_preS hPc hKc hDc).2⟩) rfl rfl hl.1 rfl (lv_room (Nat.le_of_ble_eq_true rfl)) dL_law_527 ⟨Nat.le_of_ble_eq_true rfl, Nat.le_of_ble_eq_true rfl⟩) hS (fun q _ h => hFc q h) hFc (fun r_4 u_5 t H1 locs ht hvm hw hB hz1 hk1 hS => ?_)
  try dsimp only at hw
  have hP1 : va_P (dC, dI) vwCl [] H1 := kz_P0
  have hD1 : va_D (va_A [(z, .inr (12, [.ref tm, .int 0, .int 0, .int 0, .int 0, .int 0, .int 0, .int 0, .int 0, .ref a9, .ref nw, .ref a11, .ref a12, .int 0, .int 0, .int 0, .ref a16, .ref a17, .ref a18, .ref a19, .ref a20, .ref a21, .ref a22, .ref a23, .ref a24, .ref a25, .ref a26, .int 0, .ref a28, .ref a29, .ref a30, .ref a31, .ref a32, .ref a33, .int 0, .ref a35, .ref a36]))] H.size) [] := kz_D0
  have hK1 : va_K (dC, dI) vwCl [] s := hK.sub [] rfl
  obtain ⟨hP, hD⟩ := va_join (wr := [(tp, .inr (8, [.ref i1, .ref i2, .int 0, .int 0, .int 0, .int 0, .int 0, .ref bt, .int 0, .int 0, .int 0])), (bt, .inl (cB, 300, .inl (fun _ => 0))), (hi, .inr (3, [.int 0, .ref t1, .ref t2, .int 0])), (tm, .inl (cM, 300, .inl (fun _ => 0))), (nw, .inl (cI, 12507, .inl (fun _ => 0)))]) (w1 := []) hP hD [3] [0, 1, 2, 4, 5] rfl rfl (by decide) (by decide) hk1 hFc hP1 hD1
  have hK := (hK.sub (tys' := [(cB, .byte), (cM, .byte), (cI, .int)]) [0, 1, 2] rfl).app hK1
  generalize H1 = H at hP hS ⊢
  have hP : va_P (dC, dI) vwCl [(tp, .inr (8, [.ref i1, .ref i2, .int 0, .int 0, .int 0, .int 0, .int 0, .ref bt, .int 0, .int 0, .int 0])), (bt, .inl (cB, 300, .inl (fun _ => 0))), (hi, .inr (3, [.int 0, .ref t1, .ref t2, .int 0])), (tm, .inl (cM, 300, .inl (fun _ => 0))), (nw, .inl (cI, 12507, .inl (fun _ => 0)))] H := hP
  have hD : va_D (fun q : Nat => s.heap.size ≤ q) [(tp, .inr (8, [.ref i1, .ref i2, .int 0, .int 0, .int 0, .int 0, .int 0, .ref bt, .int 0, .int 0, .int 0])), (bt, .inl (cB, 300, .inl (fun _ => 0))), (hi, .inr (3, [.int 0, .ref t1, .ref t2, .int 0])), (tm, .inl (cM, 300, .inl (fun _ => 0))), (nw, .inl (cI, 12507, .inl (fun _ => 0)))] := hD
  have hK : va_K (dC, dI) vwCl [(cB, .byte), (cM, .byte), (cI, .int)] s := hK
  have hw6 := hw
  refine lv_icmp_eq (tgt := 971) hx hb dL_law_530 (by decide) (fun _ => ?_) (fun c9 => absurd (hw3.trans ((kz_back _).trans hw6.symm)) c9)
  exact law_tail C00 hS (lv_sub hl [0, 3] rfl)
set_option maxHeartbeats 4000000 in
set_option maxRecDepth 100000 in
theorem law_13 {p : Program} {l : Launch} {e : Env} {s : State} {m : MethodId} {below : List Frame} {meth : Method} {c : Code} {b : Nat} {xs : Nat → Int32} {dC : Nat → ClassId} {dI : Nat → Nat → Nat} {x tp hi sh g3 g4 g5 g6 g7 g8 g9 i1 i2 bt t1 t2 z tm a9 nw a11 a12 a16 a17 a18 a19 a20 a21 a22 a23 a24 a25 a26 a28 a29 a30 a31 a32 a33 a35 a36 : Nat} {cB cT cM cI : ClassId} (C00 : lw_At p s m meth c b 6 xs) (hK : va_K (dC, dI) vwCl [(cB, .byte), (cT, .object RX10), (cM, .byte), (cI, .int)] s) {H : Heap} {locs : List Loc} (hP : va_P (dC, dI) vwCl [(x, .inr (11, [.ref tp, .ref hi, .ref sh, .ref g3, .ref g4, .ref g5, .ref g6, .ref g7, .ref g8, .ref g9, .int 0, .int 0])), (tp, .inr (8, [.ref i1, .ref i2, .int 0, .int 0, .int 0, .int 0, .int 0, .ref bt, .int 0, .int 0, .int 0])), (bt, .inl (cB, 300, .inl (fun _ => 0))), (hi, .inr (3, [.int 0, .ref t1, .ref t2, .int 0])), (sh, .inl (cT, 2, .inr (.inr (.inr (.inr (fun _ => none)))))), (z, .inr (12, [.ref tm, .int 0, .int 0, .int 0, .int 0, .int 0, .int 0, .int 0, .int 0, .ref a9, .ref nw, .ref a11, .ref a12, .int 0, .int 0, .int 0, .ref a16, .ref a17, .ref a18, .ref a19, .ref a20, .ref a21, .ref a22, .ref a23, .ref a24, .ref a25, .ref a26, .int 0, .ref a28, .ref a29, .ref a30, .ref a31, .ref a32, .ref a33, .int 0, .ref a35, .ref a36])), (tm, .inl (cM, 300, .inl (fun _ => 0))), (nw, .inl (cI, 12507, .inl (fun _ => 0)))] H) (hD : va_D (fun q : Nat => s.heap.size ≤ q) [(x, .inr (11, [.ref tp, .ref hi, .ref sh, .ref g3, .ref g4, .ref g5, .ref g6, .ref g7, .ref g8, .ref g9, .int 0, .int 0])), (tp, .inr (8, [.ref i1, .ref i2, .int 0, .int 0, .int 0, .int 0, .int 0, .ref bt, .int 0, .int 0, .int 0])), (bt, .inl (cB, 300, .inl (fun _ => 0))), (hi, .inr (3, [.int 0, .ref t1, .ref t2, .int 0])), (sh, .inl (cT, 2, .inr (.inr (.inr (.inr (fun _ => none)))))), (z, .inr (12, [.ref tm, .int 0, .int 0, .int 0, .int 0, .int 0, .int 0, .int 0, .int 0, .ref a9, .ref nw, .ref a11, .ref a12, .int 0, .int 0, .int 0, .ref a16, .ref a17, .ref a18, .ref a19, .ref a20, .ref a21, .ref a22, .ref a23, .ref a24, .ref a25, .ref a26, .int 0, .ref a28, .ref a29, .ref a30, .ref a31, .ref a32, .ref a33, .int 0, .ref a35, .ref a36])), (tm, .inl (cM, 300, .inl (fun _ => 0))), (nw, .inl (cI, 12507, .inl (fun _ => 0)))]) (hS : va_S (fun q : Nat => s.heap.size ≤ q) s.heap H locs) {ls : Array Slot} (hl : lv_has ls 4 [(3, .int 0), (2, .ref z), (1, .ref x), (0, .ref b)]) : W p l e room_1 s m #[Value.ref b] below meth c H locs 80 147144 (lw_Z below #[Value.ref b] s) (F0 m 535 ls []) := by
  obtain ⟨hx, hb, hr, hml, hown, hts, hX, hbl, hlocks, hgv⟩ := id C00
  have hts : ∀ w ∈ wsU, w.before #[Value.ref b] s = true := fun w h => hts w (wsU_in w h)
  have hown : s.vm.findClass RL = some m.cls := hown
  have hA : ∀ q : Nat, s.heap.size ≤ q → (fun q : Nat => s.heap.size ≤ q) q := fun _ h => h
  have hbA : ¬ (fun q : Nat => s.heap.size ≤ q) b := Nat.not_le.mpr hbl
  refine lv_aload_n hx hb dL_law_535 rfl (lv_at hl 2 rfl) ?_
  refine lv_aload_n hx hb dL_law_536 rfl (lv_at hl 3 rfl) ?_
  refine lv_iload_n hx hb dL_law_537 rfl (lv_at hl 0 rfl) ?_
  refine lv_iconst (v := 1) hx hb dL_law_538 (by decide) ?_
  refine lv_iadd hx hb dL_law_539 ?_
  refine kz_topi (y := 1) (by decide) ?_
  refine va_sld hx hb hX hbl hbA hS (i := 1) (kz_in (by decide +kernel)) dL_law_540 ?_
  refine kz_topi (y := xs 1) (congrArg xs (by decide)) ?_
  refine lv_aload_n hx hb dL_law_541 rfl (lv_at hl 3 rfl) ?_
  refine lv_iload_n hx hb dL_law_542 rfl (lv_at hl 0 rfl) ?_
  refine lv_iconst (v := 2) hx hb dL_law_543 (by decide) ?_
  refine lv_iadd hx hb dL_law_544 ?_
  refine kz_topi (y := 2) (by decide) ?_
  refine va_sld hx hb hX hbl hbA hS (i := 2) (kz_in (by decide +kernel)) dL_law_545 ?_
  refine kz_topi (y := xs 2) (congrArg xs (by decide)) ?_
  have hPc := hP.sub (ws' := [(x, .inr (11, [.ref tp, .ref hi, .ref sh, .ref g3, .ref g4, .ref g5, .ref g6, .ref g7, .ref g8, .ref g9, .int 0, .int 0]))]) [0] rfl
  have hDc := hD.sub (ws' := [(x, .inr (11, [.ref tp, .ref hi, .ref sh, .ref g3, .ref g4, .ref g5, .ref g6, .ref g7, .ref g8, .ref g9, .int 0, .int 0]))]) [0] (by decide) rfl
  have hKc := hK.sub (tys' := []) [] rfl
  have hFc := va_free (wc := [(x, .inr (11, [.ref tp, .ref hi, .ref sh, .ref g3, .ref g4, .ref g5, .ref g6, .ref g7, .ref g8, .ref g9, .int 0, .int 0]))]) hD hS hA [0] rfl
  refine va_calli (va_runV (As := [.int (xs 1), .int (xs 2)]) (rest := []) ⟨hx, hb, hml, hown, hts⟩ (c_X11_rect l dC dI (x) (tp) (hi) (sh) (g3) (g4) (g5) (g6) (g7) (g8) (g9) ((xs 1)) ((xs 2)) H.size) (cwV 2 hts (kz_gV qw_1053 qw_1054 qw_1055 qw_2 qw_1056) rfl rfl rfl (by decide +kernel) ⟨Nat.le_of_ble_eq_true rfl, Nat.le_of_ble_eq_true rfl⟩) (⟨(kz_preS hPc hKc hDc).1, (va_recv hKc hPc (ci := 11) (q0 := 0) rfl rfl), (kz_preS hPc hKc hDc).2⟩) rfl rfl hl.1 rfl (lv_room (Nat.le_of_ble_eq_true rfl)) dL_law_546 ⟨Nat.le_of_ble_eq_true rfl, Nat.le_of_ble_eq_true rfl⟩) hS (fun q _ h => hFc q h) hFc (fun r_1 u_2 t H1 locs ht hvm hw hB hz1 hk1 hS => ?_)
  try dsimp only at hw
  have hP1 : va_P (dC, dI) vwCl [] H1 := kz_P0
  have hD1 : va_D (va_A [(x, .inr (11, [.ref tp, .ref hi, .ref sh, .ref g3, .ref g4, .ref g5, .ref g6, .ref g7, .ref g8, .ref g9, .int 0, .int 0]))] H.size) [] := kz_D0
  have hK1 : va_K (dC, dI) vwCl [] s := hK.sub [] rfl
  obtain ⟨hP, hD⟩ := va_join (wr := [(tp, .inr (8, [.ref i1, .ref i2, .int 0, .int 0, .int 0, .int 0, .int 0, .ref bt, .int 0, .int 0, .int 0])), (bt, .inl (cB, 300, .inl (fun _ => 0))), (hi, .inr (3, [.int 0, .ref t1, .ref t2, .int 0])), (sh, .inl (cT, 2, .inr (.inr (.inr (.inr (fun _ => none)))))), (z, .inr (12, [.ref tm, .int 0, .int 0, .int 0, .int 0, .int 0, .int 0, .int 0, .int 0, .ref a9, .ref nw, .ref a11, .ref a12, .int 0, .int 0, .int 0, .ref a16, .ref a17, .ref a18, .ref a19, .ref a20, .ref a21, .ref a22, .ref a23, .ref a24, .ref a25, .ref a26, .int 0, .ref a28, .ref a29, .ref a30, .ref a31, .ref a32, .ref a33, .int 0, .ref a35, .ref a36])), (tm, .inl (cM, 300, .inl (fun _ => 0))), (nw, .inl (cI, 12507, .inl (fun _ => 0)))]) (w1 := []) hP hD [0] [1, 2, 3, 4, 5, 6, 7] rfl rfl (by decide) (by decide) hk1 hFc hP1 hD1
  have hK := (hK.sub (tys' := [(cB, .byte), (cT, .object RX10), (cM, .byte), (cI, .int)]) [0, 1, 2, 3] rfl).app hK1
  generalize H1 = H at hP hS ⊢
  have hP : va_P (dC, dI) vwCl [(tp, .inr (8, [.ref i1, .ref i2, .int 0, .int 0, .int 0, .int 0, .int 0, .ref bt, .int 0, .int 0, .int 0])), (bt, .inl (cB, 300, .inl (fun _ => 0))), (hi, .inr (3, [.int 0, .ref t1, .ref t2, .int 0])), (sh, .inl (cT, 2, .inr (.inr (.inr (.inr (fun _ => none)))))), (z, .inr (12, [.ref tm, .int 0, .int 0, .int 0, .int 0, .int 0, .int 0, .int 0, .int 0, .ref a9, .ref nw, .ref a11, .ref a12, .int 0, .int 0, .int 0, .ref a16, .ref a17, .ref a18, .ref a19, .ref a20, .ref a21, .ref a22, .ref a23, .ref a24, .ref a25, .ref a26, .int 0, .ref a28, .ref a29, .ref a30, .ref a31, .ref a32, .ref a33, .int 0, .ref a35, .ref a36])), (tm, .inl (cM, 300, .inl (fun _ => 0))), (nw, .inl (cI, 12507, .inl (fun _ => 0)))] H := hP
  have hD : va_D (fun q : Nat => s.heap.size ≤ q) [(tp, .inr (8, [.ref i1, .ref i2, .int 0, .int 0, .int 0, .int 0, .int 0, .ref bt, .int 0, .int 0, .int 0])), (bt, .inl (cB, 300, .inl (fun _ => 0))), (hi, .inr (3, [.int 0, .ref t1, .ref t2, .int 0])), (sh, .inl (cT, 2, .inr (.inr (.inr (.inr (fun _ => none)))))), (z, .inr (12, [.ref tm, .int 0, .int 0, .int 0, .int 0, .int 0, .int 0, .int 0, .int 0, .ref a9, .ref nw, .ref a11, .ref a12, .int 0, .int 0, .int 0, .ref a16, .ref a17, .ref a18, .ref a19, .ref a20, .ref a21, .ref a22, .ref a23, .ref a24, .ref a25, .ref a26, .int 0, .ref a28, .ref a29, .ref a30, .ref a31, .ref a32, .ref a33, .int 0, .ref a35, .ref a36])), (tm, .inl (cM, 300, .inl (fun _ => 0))), (nw, .inl (cI, 12507, .inl (fun _ => 0)))] := hD
  have hK : va_K (dC, dI) vwCl [(cB, .byte), (cT, .object RX10), (cM, .byte), (cI, .int)] s := hK
  obtain rfl : r_1 = (-2147483648) := hw
  refine lv_aload_n hx hb dL_law_549 rfl (lv_at hl 1 rfl) ?_
  refine lv_aload_n hx hb dL_law_550 rfl (lv_at hl 3 rfl) ?_
  refine lv_iload_n hx hb dL_law_551 rfl (lv_at hl 0 rfl) ?_
  refine lv_iconst (v := 1) hx hb dL_law_552 (by decide) ?_
  refine lv_iadd hx hb dL_law_553 ?_
  refine kz_topi (y := 1) (by decide) ?_
  refine va_sld hx hb hX hbl hbA hS (i := 1) (kz_in (by decide +kernel)) dL_law_554 ?_
  refine kz_topi (y := xs 1) (congrArg xs (by decide)) ?_
  refine lv_aload_n hx hb dL_law_555 rfl (lv_at hl 3 rfl) ?_
  refine lv_iload_n hx hb dL_law_556 rfl (lv_at hl 0 rfl) ?_
  refine lv_iconst (v := 2) hx hb dL_law_557 (by decide) ?_
  refine lv_iadd hx hb dL_law_558 ?_
  refine kz_topi (y := 2) (by decide) ?_
  refine va_sld hx hb hX hbl hbA hS (i := 2) (kz_in (by decide +kernel)) dL_law_559 ?_
  refine kz_topi (y := xs 2) (congrArg xs (by decide)) ?_
  have hPc := hP.sub (ws' := [(z, .inr (12, [.ref tm, .int 0, .int 0, .int 0, .int 0, .int 0, .int 0, .int 0, .int 0, .ref a9, .ref nw, .ref a11, .ref a12, .int 0, .int 0, .int 0, .ref a16, .ref a17, .ref a18, .ref a19, .ref a20, .ref a21, .ref a22, .ref a23, .ref a24, .ref a25, .ref a26, .int 0, .ref a28, .ref a29, .ref a30, .ref a31, .ref a32, .ref a33, .int 0, .ref a35, .ref a36])), (nw, .inl (cI, 12507, .inl (fun _ => 0)))]) [4, 6] rfl
  have hDc := hD.sub (ws' := [(z, .inr (12, [.ref tm, .int 0, .int 0, .int 0, .int 0, .int 0, .int 0, .int 0, .int 0, .ref a9, .ref nw, .ref a11, .ref a12, .int 0, .int 0, .int 0, .ref a16, .ref a17, .ref a18, .ref a19, .ref a20, .ref a21, .ref a22, .ref a23, .ref a24, .ref a25, .ref a26, .int 0, .ref a28, .ref a29, .ref a30, .ref a31, .ref a32, .ref a33, .int 0, .ref a35, .ref a36])), (nw, .inl (cI, 12507, .inl (fun _ => 0)))]) [4, 6] (by decide) rfl
  have hKc := hK.sub (tys' := [(cI, .int)]) [3] rfl
  have hFc := va_free (wc := [(z, .inr (12, [.ref tm, .int 0, .int 0, .int 0, .int 0, .int 0, .int 0, .int 0, .int 0, .ref a9, .ref nw, .ref a11, .ref a12, .int 0, .int 0, .int 0, .ref a16, .ref a17, .ref a18, .ref a19, .ref a20, .ref a21, .ref a22, .ref a23, .ref a24, .ref a25, .ref a26, .int 0, .ref a28, .ref a29, .ref a30, .ref a31, .ref a32, .ref a33, .int 0, .ref a35, .ref a36])), (nw, .inl (cI, 12507, .inl (fun _ => 0)))]) hD hS hA [4, 6] rfl
  refine va_calli (va_runV (As := [.int (xs 1), .int (xs 2)]) (rest := [.int (-2147483648)]) ⟨hx, hb, hml, hown, hts⟩ (c_X12_rect l dC dI (z) (tm) (a9) (nw) (a11) (a12) (a16) (a17) (a18) (a19) (a20) (a21) (a22) (a23) (a24) (a25) (a26) (a28) (a29) (a30) (a31) (a32) (a33) (a35) (a36) (cI) ((xs 1)) ((xs 2)) H.size) (cwV 2 hts (kz_gV qw_1058 qw_1059 qw_1060 qw_5 qw_1061) rfl rfl rfl (by decide +kernel) ⟨Nat.le_of_ble_eq_true rfl, Nat.le_of_ble_eq_true rfl⟩) (⟨(kz_preS hPc hKc hDc).1, (va_recv hKc hPc (ci := 12) (q0 := 0) rfl rfl), (kz_preS hPc hKc hDc).2⟩) rfl rfl hl.1 rfl (lv_room (Nat.le_of_ble_eq_true rfl)) dL_law_560 ⟨Nat.le_of_ble_eq_true rfl, Nat.le_of_ble_eq_true rfl⟩) hS (fun q _ h => hFc q h) hFc (fun r_3 u_4 t H1 locs ht hvm hw hB hz1 hk1 hS => ?_)
  try dsimp only at hw
  have hP1 : va_P (dC, dI) vwCl [] H1 := kz_P0
  have hD1 : va_D (va_A [(z, .inr (12, [.ref tm, .int 0, .int 0, .int 0, .int 0, .int 0, .int 0, .int 0, .int 0, .ref a9, .ref nw, .ref a11, .ref a12, .int 0, .int 0, .int 0, .ref a16, .ref a17, .ref a18, .ref a19, .ref a20, .ref a21, .ref a22, .ref a23, .ref a24, .ref a25, .ref a26, .int 0, .ref a28, .ref a29, .ref a30, .ref a31, .ref a32, .ref a33, .int 0, .ref a35, .ref a36])), (nw, .inl (cI, 12507, .inl (fun _ => 0)))] H.size) [] := kz_D0
  have hK1 : va_K (dC, dI) vwCl [] s := hK.sub [] rfl
  obtain ⟨hP, hD⟩ := va_join (wr := [(tp, .inr (8, [.ref i1, .ref i2, .int 0, .int 0, .int 0, .int 0, .int 0, .ref bt, .int 0, .int 0, .int 0])), (bt, .inl (cB, 300, .inl (fun _ => 0))), (hi, .inr (3, [.int 0, .ref t1, .ref t2, .int 0])), (sh, .inl (cT, 2, .inr (.inr (.inr (.inr (fun _ => none)))))), (tm, .inl (cM, 300, .inl (fun _ => 0)))]) (w1 := []) hP hD [4, 6] [0, 1, 2, 3, 5] rfl rfl (by decide) (by decide) hk1 hFc hP1 hD1
  have hK := (hK.sub (tys' := [(cB, .byte), (cT, .object RX10), (cM, .byte)]) [0, 1, 2] rfl).app hK1
  generalize H1 = H at hP hS ⊢
  have hP : va_P (dC, dI) vwCl [(tp, .inr (8, [.ref i1, .ref i2, .int 0, .int 0, .int 0, .int 0, .int 0, .ref bt, .int 0, .int 0, .int 0])), (bt, .inl (cB, 300, .inl (fun _ => 0))), (hi, .inr (3, [.int 0, .ref t1, .ref t2, .int 0])), (sh, .inl (cT, 2, .inr (.inr (.inr (.inr (fun _ => none)))))), (tm, .inl (cM, 300, .inl (fun _ => 0)))] H := hP
  have hD : va_D (fun q : Nat => s.heap.size ≤ q) [(tp, .inr (8, [.ref i1, .ref i2, .int 0, .int 0, .int 0, .int 0, .int 0, .ref bt, .int 0, .int 0, .int 0])), (bt, .inl (cB, 300, .inl (fun _ => 0))), (hi, .inr (3, [.int 0, .ref t1, .ref t2, .int 0])), (sh, .inl (cT, 2, .inr (.inr (.inr (.inr (fun _ => none)))))), (tm, .inl (cM, 300, .inl (fun _ => 0)))] := hD
  have hK : va_K (dC, dI) vwCl [(cB, .byte), (cT, .object RX10), (cM, .byte)] s := hK
  obtain rfl : r_3 = (-2147483648) := hw
  refine lv_icmp_eq (tgt := 971) hx hb dL_law_563 (by decide) (fun _ => ?_) (fun c9 => absurd (by decide) c9)
  exact law_tail C00 hS (lv_sub hl [0, 3] rfl)
set_option maxHeartbeats 4000000 in
set_option maxRecDepth 100000 in
theorem law_14 {p : Program} {l : Launch} {e : Env} {s : State} {m : MethodId} {below : List Frame} {meth : Method} {c : Code} {b : Nat} {xs : Nat → Int32} {dC : Nat → ClassId} {dI : Nat → Nat → Nat} {x tp hi sh g3 g4 g5 g6 g7 g8 g9 i1 i2 bt t1 t2 z tm a9 nw a11 a12 a16 a17 a18 a19 a20 a21 a22 a23 a24 a25 a26 a28 a29 a30 a31 a32 a33 a35 a36 : Nat} {cB cT cM cI : ClassId} (C00 : lw_At p s m meth c b 6 xs) (hK : va_K (dC, dI) vwCl [(cB, .byte), (cT, .object RX10), (cM, .byte), (cI, .int)] s) {H : Heap} {locs : List Loc} (hP : va_P (dC, dI) vwCl [(x, .inr (11, [.ref tp, .ref hi, .ref sh, .ref g3, .ref g4, .ref g5, .ref g6, .ref g7, .ref g8, .ref g9, .int 0, .int 0])), (tp, .inr (8, [.ref i1, .ref i2, .int 0, .int 0, .int 0, .int 0, .int 0, .ref bt, .int 0, .int 0, .int 0])), (bt, .inl (cB, 300, .inl (fun _ => 0))), (hi, .inr (3, [.int 0, .ref t1, .ref t2, .int 0])), (sh, .inl (cT, 2, .inr (.inr (.inr (.inr (fun _ => none)))))), (z, .inr (12, [.ref tm, .int 0, .int 0, .int 0, .int 0, .int 0, .int 0, .int 0, .int 0, .ref a9, .ref nw, .ref a11, .ref a12, .int 0, .int 0, .int 0, .ref a16, .ref a17, .ref a18, .ref a19, .ref a20, .ref a21, .ref a22, .ref a23, .ref a24, .ref a25, .ref a26, .int 0, .ref a28, .ref a29, .ref a30, .ref a31, .ref a32, .ref a33, .int 0, .ref a35, .ref a36])), (tm, .inl (cM, 300, .inl (fun _ => 0))), (nw, .inl (cI, 12507, .inl (fun _ => 0)))] H) (hD : va_D (fun q : Nat => s.heap.size ≤ q) [(x, .inr (11, [.ref tp, .ref hi, .ref sh, .ref g3, .ref g4, .ref g5, .ref g6, .ref g7, .ref g8, .ref g9, .int 0, .int 0])), (tp, .inr (8, [.ref i1, .ref i2, .int 0, .int 0, .int 0, .int 0, .int 0, .ref bt, .int 0, .int 0, .int 0])), (bt, .inl (cB, 300, .inl (fun _ => 0))), (hi, .inr (3, [.int 0, .ref t1, .ref t2, .int 0])), (sh, .inl (cT, 2, .inr (.inr (.inr (.inr (fun _ => none)))))), (z, .inr (12, [.ref tm, .int 0, .int 0, .int 0, .int 0, .int 0, .int 0, .int 0, .int 0, .ref a9, .ref nw, .ref a11, .ref a12, .int 0, .int 0, .int 0, .ref a16, .ref a17, .ref a18, .ref a19, .ref a20, .ref a21, .ref a22, .ref a23, .ref a24, .ref a25, .ref a26, .int 0, .ref a28, .ref a29, .ref a30, .ref a31, .ref a32, .ref a33, .int 0, .ref a35, .ref a36])), (tm, .inl (cM, 300, .inl (fun _ => 0))), (nw, .inl (cI, 12507, .inl (fun _ => 0)))]) (hS : va_S (fun q : Nat => s.heap.size ≤ q) s.heap H locs) {ls : Array Slot} (hl : lv_has ls 4 [(3, .int 0), (2, .ref z), (1, .ref x), (0, .ref b)]) : W p l e room_1 s m #[Value.ref b] below meth c H locs 80 147144 (lw_Z below #[Value.ref b] s) (F0 m 568 ls []) := by
  obtain ⟨hx, hb, hr, hml, hown, hts, hX, hbl, hlocks, hgv⟩ := id C00
  have hts : ∀ w ∈ wsU, w.before #[Value.ref b] s = true := fun w h => hts w (wsU_in w h)
  have hown : s.vm.findClass RL = some m.cls := hown
  have hA : ∀ q : Nat, s.heap.size ≤ q → (fun q : Nat => s.heap.size ≤ q) q := fun _ h => h
  have hbA : ¬ (fun q : Nat => s.heap.size ≤ q) b := Nat.not_le.mpr hbl
  refine lv_aload_n hx hb dL_law_568 rfl (lv_at hl 2 rfl) ?_
  refine lv_aload_n hx hb dL_law_569 rfl (lv_at hl 3 rfl) ?_
  refine lv_iload_n hx hb dL_law_570 rfl (lv_at hl 0 rfl) ?_
  refine lv_iconst (v := 1) hx hb dL_law_571 (by decide) ?_
  refine lv_iadd hx hb dL_law_572 ?_
  refine kz_topi (y := 1) (by decide) ?_
  refine va_sld hx hb hX hbl hbA hS (i := 1) (kz_in (by decide +kernel)) dL_law_573 ?_
  refine kz_topi (y := xs 1) (congrArg xs (by decide)) ?_
  refine lv_aload_n hx hb dL_law_574 rfl (lv_at hl 3 rfl) ?_
  refine lv_iload_n hx hb dL_law_575 rfl (lv_at hl 0 rfl) ?_
  refine lv_iconst (v := 2) hx hb dL_law_576 (by decide) ?_
  refine lv_iadd hx hb dL_law_577 ?_
  refine kz_topi (y := 2) (by decide) ?_
  refine va_sld hx hb hX hbl hbA hS (i := 2) (kz_in (by decide +kernel)) dL_law_578 ?_
  refine kz_topi (y := xs 2) (congrArg xs (by decide)) ?_
  have hPc := hP.sub (ws' := [(x, .inr (11, [.ref tp, .ref hi, .ref sh, .ref g3, .ref g4, .ref g5, .ref g6, .ref g7, .ref g8, .ref g9, .int 0, .int 0]))]) [0] rfl
  have hDc := hD.sub (ws' := [(x, .inr (11, [.ref tp, .ref hi, .ref sh, .ref g3, .ref g4, .ref g5, .ref g6, .ref g7, .ref g8, .ref g9, .int 0, .int 0]))]) [0] (by decide) rfl
  have hKc := hK.sub (tys' := []) [] rfl
  have hFc := va_free (wc := [(x, .inr (11, [.ref tp, .ref hi, .ref sh, .ref g3, .ref g4, .ref g5, .ref g6, .ref g7, .ref g8, .ref g9, .int 0, .int 0]))]) hD hS hA [0] rfl
  refine va_calli (va_runV (As := [.int (xs 1), .int (xs 2)]) (rest := []) ⟨hx, hb, hml, hown, hts⟩ (c_X11_page l dC dI (x) (tp) (hi) (sh) (g3) (g4) (g5) (g6) (g7) (g8) (g9) ((xs 1)) ((xs 2)) H.size) (cwV 2 hts (kz_gV qw_1064 qw_1065 qw_1066 qw_2 qw_1067) rfl rfl rfl (by decide +kernel) ⟨Nat.le_of_ble_eq_true rfl, Nat.le_of_ble_eq_true rfl⟩) (⟨(kz_preS hPc hKc hDc).1, (va_recv hKc hPc (ci := 11) (q0 := 0) rfl rfl), (kz_preS hPc hKc hDc).2⟩) rfl rfl hl.1 rfl (lv_room (Nat.le_of_ble_eq_true rfl)) dL_law_579 ⟨Nat.le_of_ble_eq_true rfl, Nat.le_of_ble_eq_true rfl⟩) hS (fun q _ h => hFc q h) hFc (fun r_1 u_2 t H1 locs ht hvm hw hB hz1 hk1 hS => ?_)
  try dsimp only at hw
  have hP1 : va_P (dC, dI) vwCl [] H1 := kz_P0
  have hD1 : va_D (va_A [(x, .inr (11, [.ref tp, .ref hi, .ref sh, .ref g3, .ref g4, .ref g5, .ref g6, .ref g7, .ref g8, .ref g9, .int 0, .int 0]))] H.size) [] := kz_D0
  have hK1 : va_K (dC, dI) vwCl [] s := hK.sub [] rfl
  obtain ⟨hP, hD⟩ := va_join (wr := [(tp, .inr (8, [.ref i1, .ref i2, .int 0, .int 0, .int 0, .int 0, .int 0, .ref bt, .int 0, .int 0, .int 0])), (bt, .inl (cB, 300, .inl (fun _ => 0))), (hi, .inr (3, [.int 0, .ref t1, .ref t2, .int 0])), (sh, .inl (cT, 2, .inr (.inr (.inr (.inr (fun _ => none)))))), (z, .inr (12, [.ref tm, .int 0, .int 0, .int 0, .int 0, .int 0, .int 0, .int 0, .int 0, .ref a9, .ref nw, .ref a11, .ref a12, .int 0, .int 0, .int 0, .ref a16, .ref a17, .ref a18, .ref a19, .ref a20, .ref a21, .ref a22, .ref a23, .ref a24, .ref a25, .ref a26, .int 0, .ref a28, .ref a29, .ref a30, .ref a31, .ref a32, .ref a33, .int 0, .ref a35, .ref a36])), (tm, .inl (cM, 300, .inl (fun _ => 0))), (nw, .inl (cI, 12507, .inl (fun _ => 0)))]) (w1 := []) hP hD [0] [1, 2, 3, 4, 5, 6, 7] rfl rfl (by decide) (by decide) hk1 hFc hP1 hD1
  have hK := (hK.sub (tys' := [(cB, .byte), (cT, .object RX10), (cM, .byte), (cI, .int)]) [0, 1, 2, 3] rfl).app hK1
  generalize H1 = H at hP hS ⊢
  have hP : va_P (dC, dI) vwCl [(tp, .inr (8, [.ref i1, .ref i2, .int 0, .int 0, .int 0, .int 0, .int 0, .ref bt, .int 0, .int 0, .int 0])), (bt, .inl (cB, 300, .inl (fun _ => 0))), (hi, .inr (3, [.int 0, .ref t1, .ref t2, .int 0])), (sh, .inl (cT, 2, .inr (.inr (.inr (.inr (fun _ => none)))))), (z, .inr (12, [.ref tm, .int 0, .int 0, .int 0, .int 0, .int 0, .int 0, .int 0, .int 0, .ref a9, .ref nw, .ref a11, .ref a12, .int 0, .int 0, .int 0, .ref a16, .ref a17, .ref a18, .ref a19, .ref a20, .ref a21, .ref a22, .ref a23, .ref a24, .ref a25, .ref a26, .int 0, .ref a28, .ref a29, .ref a30, .ref a31, .ref a32, .ref a33, .int 0, .ref a35, .ref a36])), (tm, .inl (cM, 300, .inl (fun _ => 0))), (nw, .inl (cI, 12507, .inl (fun _ => 0)))] H := hP
  have hD : va_D (fun q : Nat => s.heap.size ≤ q) [(tp, .inr (8, [.ref i1, .ref i2, .int 0, .int 0, .int 0, .int 0, .int 0, .ref bt, .int 0, .int 0, .int 0])), (bt, .inl (cB, 300, .inl (fun _ => 0))), (hi, .inr (3, [.int 0, .ref t1, .ref t2, .int 0])), (sh, .inl (cT, 2, .inr (.inr (.inr (.inr (fun _ => none)))))), (z, .inr (12, [.ref tm, .int 0, .int 0, .int 0, .int 0, .int 0, .int 0, .int 0, .int 0, .ref a9, .ref nw, .ref a11, .ref a12, .int 0, .int 0, .int 0, .ref a16, .ref a17, .ref a18, .ref a19, .ref a20, .ref a21, .ref a22, .ref a23, .ref a24, .ref a25, .ref a26, .int 0, .ref a28, .ref a29, .ref a30, .ref a31, .ref a32, .ref a33, .int 0, .ref a35, .ref a36])), (tm, .inl (cM, 300, .inl (fun _ => 0))), (nw, .inl (cI, 12507, .inl (fun _ => 0)))] := hD
  have hK : va_K (dC, dI) vwCl [(cB, .byte), (cT, .object RX10), (cM, .byte), (cI, .int)] s := hK
  obtain rfl : r_1 = (-2147483648) := hw
  refine lv_aload_n hx hb dL_law_582 rfl (lv_at hl 1 rfl) ?_
  refine lv_aload_n hx hb dL_law_583 rfl (lv_at hl 3 rfl) ?_
  refine lv_iload_n hx hb dL_law_584 rfl (lv_at hl 0 rfl) ?_
  refine lv_iconst (v := 1) hx hb dL_law_585 (by decide) ?_
  refine lv_iadd hx hb dL_law_586 ?_
  refine kz_topi (y := 1) (by decide) ?_
  refine va_sld hx hb hX hbl hbA hS (i := 1) (kz_in (by decide +kernel)) dL_law_587 ?_
  refine kz_topi (y := xs 1) (congrArg xs (by decide)) ?_
  refine lv_aload_n hx hb dL_law_588 rfl (lv_at hl 3 rfl) ?_
  refine lv_iload_n hx hb dL_law_589 rfl (lv_at hl 0 rfl) ?_
  refine lv_iconst (v := 2) hx hb dL_law_590 (by decide) ?_
  refine lv_iadd hx hb dL_law_591 ?_
  refine kz_topi (y := 2) (by decide) ?_
  refine va_sld hx hb hX hbl hbA hS (i := 2) (kz_in (by decide +kernel)) dL_law_592 ?_
  refine kz_topi (y := xs 2) (congrArg xs (by decide)) ?_
  have hPc := hP.sub (ws' := [(z, .inr (12, [.ref tm, .int 0, .int 0, .int 0, .int 0, .int 0, .int 0, .int 0, .int 0, .ref a9, .ref nw, .ref a11, .ref a12, .int 0, .int 0, .int 0, .ref a16, .ref a17, .ref a18, .ref a19, .ref a20, .ref a21, .ref a22, .ref a23, .ref a24, .ref a25, .ref a26, .int 0, .ref a28, .ref a29, .ref a30, .ref a31, .ref a32, .ref a33, .int 0, .ref a35, .ref a36]))]) [4] rfl
  have hDc := hD.sub (ws' := [(z, .inr (12, [.ref tm, .int 0, .int 0, .int 0, .int 0, .int 0, .int 0, .int 0, .int 0, .ref a9, .ref nw, .ref a11, .ref a12, .int 0, .int 0, .int 0, .ref a16, .ref a17, .ref a18, .ref a19, .ref a20, .ref a21, .ref a22, .ref a23, .ref a24, .ref a25, .ref a26, .int 0, .ref a28, .ref a29, .ref a30, .ref a31, .ref a32, .ref a33, .int 0, .ref a35, .ref a36]))]) [4] (by decide) rfl
  have hKc := hK.sub (tys' := []) [] rfl
  have hFc := va_free (wc := [(z, .inr (12, [.ref tm, .int 0, .int 0, .int 0, .int 0, .int 0, .int 0, .int 0, .int 0, .ref a9, .ref nw, .ref a11, .ref a12, .int 0, .int 0, .int 0, .ref a16, .ref a17, .ref a18, .ref a19, .ref a20, .ref a21, .ref a22, .ref a23, .ref a24, .ref a25, .ref a26, .int 0, .ref a28, .ref a29, .ref a30, .ref a31, .ref a32, .ref a33, .int 0, .ref a35, .ref a36]))]) hD hS hA [4] rfl
  refine va_calli (va_runV (As := [.int (xs 1), .int (xs 2)]) (rest := [.int (-2147483648)]) ⟨hx, hb, hml, hown, hts⟩ (c_X12_page l dC dI (z) (tm) (a9) (nw) (a11) (a12) (a16) (a17) (a18) (a19) (a20) (a21) (a22) (a23) (a24) (a25) (a26) (a28) (a29) (a30) (a31) (a32) (a33) (a35) (a36) ((xs 1)) ((xs 2)) H.size) (cwV 2 hts (kz_gV qw_1072 qw_1073 qw_1074 qw_5 qw_1075) rfl rfl rfl (by decide +kernel) ⟨Nat.le_of_ble_eq_true rfl, Nat.le_of_ble_eq_true rfl⟩) (⟨(kz_preS hPc hKc hDc).1, (va_recv hKc hPc (ci := 12) (q0 := 0) rfl rfl), (kz_preS hPc hKc hDc).2⟩) rfl rfl hl.1 rfl (lv_room (Nat.le_of_ble_eq_true rfl)) dL_law_593 ⟨Nat.le_of_ble_eq_true rfl, Nat.le_of_ble_eq_true rfl⟩) hS (fun q _ h => hFc q h) hFc (fun r_3 u_4 t H1 locs ht hvm hw hB hz1 hk1 hS => ?_)
  try dsimp only at hw
  have hP1 : va_P (dC, dI) vwCl [] H1 := kz_P0
  have hD1 : va_D (va_A [(z, .inr (12, [.ref tm, .int 0, .int 0, .int 0, .int 0, .int 0, .int 0, .int 0, .int 0, .ref a9, .ref nw, .ref a11, .ref a12, .int 0, .int 0, .int 0, .ref a16, .ref a17, .ref a18, .ref a19, .ref a20, .ref a21, .ref a22, .ref a23, .ref a24, .ref a25, .ref a26, .int 0, .ref a28, .ref a29, .ref a30, .ref a31, .ref a32, .ref a33, .int 0, .ref a35, .ref a36]))] H.size) [] := kz_D0
  have hK1 : va_K (dC, dI) vwCl [] s := hK.sub [] rfl
  obtain ⟨hP, hD⟩ := va_join (wr := [(tp, .inr (8, [.ref i1, .ref i2, .int 0, .int 0, .int 0, .int 0, .int 0, .ref bt, .int 0, .int 0, .int 0])), (bt, .inl (cB, 300, .inl (fun _ => 0))), (hi, .inr (3, [.int 0, .ref t1, .ref t2, .int 0])), (sh, .inl (cT, 2, .inr (.inr (.inr (.inr (fun _ => none)))))), (tm, .inl (cM, 300, .inl (fun _ => 0))), (nw, .inl (cI, 12507, .inl (fun _ => 0)))]) (w1 := []) hP hD [4] [0, 1, 2, 3, 5, 6] rfl rfl (by decide) (by decide) hk1 hFc hP1 hD1
  have hK := (hK.sub (tys' := [(cB, .byte), (cT, .object RX10), (cM, .byte), (cI, .int)]) [0, 1, 2, 3] rfl).app hK1
  generalize H1 = H at hP hS ⊢
  have hP : va_P (dC, dI) vwCl [(tp, .inr (8, [.ref i1, .ref i2, .int 0, .int 0, .int 0, .int 0, .int 0, .ref bt, .int 0, .int 0, .int 0])), (bt, .inl (cB, 300, .inl (fun _ => 0))), (hi, .inr (3, [.int 0, .ref t1, .ref t2, .int 0])), (sh, .inl (cT, 2, .inr (.inr (.inr (.inr (fun _ => none)))))), (tm, .inl (cM, 300, .inl (fun _ => 0))), (nw, .inl (cI, 12507, .inl (fun _ => 0)))] H := hP
  have hD : va_D (fun q : Nat => s.heap.size ≤ q) [(tp, .inr (8, [.ref i1, .ref i2, .int 0, .int 0, .int 0, .int 0, .int 0, .ref bt, .int 0, .int 0, .int 0])), (bt, .inl (cB, 300, .inl (fun _ => 0))), (hi, .inr (3, [.int 0, .ref t1, .ref t2, .int 0])), (sh, .inl (cT, 2, .inr (.inr (.inr (.inr (fun _ => none)))))), (tm, .inl (cM, 300, .inl (fun _ => 0))), (nw, .inl (cI, 12507, .inl (fun _ => 0)))] := hD
  have hK : va_K (dC, dI) vwCl [(cB, .byte), (cT, .object RX10), (cM, .byte), (cI, .int)] s := hK
  obtain rfl : r_3 = (-2147483648) := hw
  refine lv_icmp_eq (tgt := 971) hx hb dL_law_596 (by decide) (fun _ => ?_) (fun c9 => absurd (by decide) c9)
  exact law_tail C00 hS (lv_sub hl [0, 3] rfl)
set_option maxHeartbeats 4000000 in
set_option maxRecDepth 100000 in
theorem law_15 {p : Program} {l : Launch} {e : Env} {s : State} {m : MethodId} {below : List Frame} {meth : Method} {c : Code} {b : Nat} {xs : Nat → Int32} {dC : Nat → ClassId} {dI : Nat → Nat → Nat} {x tp hi sh g3 g4 g5 g6 g7 g8 g9 i1 i2 bt t1 t2 z tm a9 nw a11 a12 a16 a17 a18 a19 a20 a21 a22 a23 a24 a25 a26 a28 a29 a30 a31 a32 a33 a35 a36 : Nat} {cB cT cM cI : ClassId} (C00 : lw_At p s m meth c b 6 xs) (hK : va_K (dC, dI) vwCl [(cB, .byte), (cT, .object RX10), (cM, .byte), (cI, .int)] s) {H : Heap} {locs : List Loc} (hP : va_P (dC, dI) vwCl [(x, .inr (11, [.ref tp, .ref hi, .ref sh, .ref g3, .ref g4, .ref g5, .ref g6, .ref g7, .ref g8, .ref g9, .int 0, .int 0])), (tp, .inr (8, [.ref i1, .ref i2, .int 0, .int 0, .int 0, .int 0, .int 0, .ref bt, .int 0, .int 0, .int 0])), (bt, .inl (cB, 300, .inl (fun _ => 0))), (hi, .inr (3, [.int 0, .ref t1, .ref t2, .int 0])), (sh, .inl (cT, 2, .inr (.inr (.inr (.inr (fun _ => none)))))), (z, .inr (12, [.ref tm, .int 0, .int 0, .int 0, .int 0, .int 0, .int 0, .int 0, .int 0, .ref a9, .ref nw, .ref a11, .ref a12, .int 0, .int 0, .int 0, .ref a16, .ref a17, .ref a18, .ref a19, .ref a20, .ref a21, .ref a22, .ref a23, .ref a24, .ref a25, .ref a26, .int 0, .ref a28, .ref a29, .ref a30, .ref a31, .ref a32, .ref a33, .int 0, .ref a35, .ref a36])), (tm, .inl (cM, 300, .inl (fun _ => 0))), (nw, .inl (cI, 12507, .inl (fun _ => 0)))] H) (hD : va_D (fun q : Nat => s.heap.size ≤ q) [(x, .inr (11, [.ref tp, .ref hi, .ref sh, .ref g3, .ref g4, .ref g5, .ref g6, .ref g7, .ref g8, .ref g9, .int 0, .int 0])), (tp, .inr (8, [.ref i1, .ref i2, .int 0, .int 0, .int 0, .int 0, .int 0, .ref bt, .int 0, .int 0, .int 0])), (bt, .inl (cB, 300, .inl (fun _ => 0))), (hi, .inr (3, [.int 0, .ref t1, .ref t2, .int 0])), (sh, .inl (cT, 2, .inr (.inr (.inr (.inr (fun _ => none)))))), (z, .inr (12, [.ref tm, .int 0, .int 0, .int 0, .int 0, .int 0, .int 0, .int 0, .int 0, .ref a9, .ref nw, .ref a11, .ref a12, .int 0, .int 0, .int 0, .ref a16, .ref a17, .ref a18, .ref a19, .ref a20, .ref a21, .ref a22, .ref a23, .ref a24, .ref a25, .ref a26, .int 0, .ref a28, .ref a29, .ref a30, .ref a31, .ref a32, .ref a33, .int 0, .ref a35, .ref a36])), (tm, .inl (cM, 300, .inl (fun _ => 0))), (nw, .inl (cI, 12507, .inl (fun _ => 0)))]) (hS : va_S (fun q : Nat => s.heap.size ≤ q) s.heap H locs) {ls : Array Slot} (hl : lv_has ls 4 [(3, .int 0), (2, .ref z), (1, .ref x), (0, .ref b)]) : W p l e room_1 s m #[Value.ref b] below meth c H locs 80 147144 (lw_Z below #[Value.ref b] s) (F0 m 601 ls []) := by
  obtain ⟨hx, hb, hr, hml, hown, hts, hX, hbl, hlocks, hgv⟩ := id C00
  have hts : ∀ w ∈ wsU, w.before #[Value.ref b] s = true := fun w h => hts w (wsU_in w h)
  have hown : s.vm.findClass RL = some m.cls := hown
  have hA : ∀ q : Nat, s.heap.size ≤ q → (fun q : Nat => s.heap.size ≤ q) q := fun _ h => h
  have hbA : ¬ (fun q : Nat => s.heap.size ≤ q) b := Nat.not_le.mpr hbl
  refine lv_aload_n hx hb dL_law_601 rfl (lv_at hl 2 rfl) ?_
  refine lv_aload_n hx hb dL_law_602 rfl (lv_at hl 3 rfl) ?_
  refine lv_iload_n hx hb dL_law_603 rfl (lv_at hl 0 rfl) ?_
  refine lv_iconst (v := 1) hx hb dL_law_604 (by decide) ?_
  refine lv_iadd hx hb dL_law_605 ?_
  refine kz_topi (y := 1) (by decide) ?_
  refine va_sld hx hb hX hbl hbA hS (i := 1) (kz_in (by decide +kernel)) dL_law_606 ?_
  refine kz_topi (y := xs 1) (congrArg xs (by decide)) ?_
  refine lv_aload_n hx hb dL_law_607 rfl (lv_at hl 3 rfl) ?_
  refine lv_iload_n hx hb dL_law_608 rfl (lv_at hl 0 rfl) ?_
  refine lv_iconst (v := 2) hx hb dL_law_609 (by decide) ?_
  refine lv_iadd hx hb dL_law_610 ?_
  refine kz_topi (y := 2) (by decide) ?_
  refine va_sld hx hb hX hbl hbA hS (i := 2) (kz_in (by decide +kernel)) dL_law_611 ?_
  refine kz_topi (y := xs 2) (congrArg xs (by decide)) ?_
  have hPc := hP.sub (ws' := [(x, .inr (11, [.ref tp, .ref hi, .ref sh, .ref g3, .ref g4, .ref g5, .ref g6, .ref g7, .ref g8, .ref g9, .int 0, .int 0]))]) [0] rfl
  have hDc := hD.sub (ws' := [(x, .inr (11, [.ref tp, .ref hi, .ref sh, .ref g3, .ref g4, .ref g5, .ref g6, .ref g7, .ref g8, .ref g9, .int 0, .int 0]))]) [0] (by decide) rfl
  have hKc := hK.sub (tys' := []) [] rfl
  have hFc := va_free (wc := [(x, .inr (11, [.ref tp, .ref hi, .ref sh, .ref g3, .ref g4, .ref g5, .ref g6, .ref g7, .ref g8, .ref g9, .int 0, .int 0]))]) hD hS hA [0] rfl
  refine va_calli (va_runV (As := [.int (xs 1), .int (xs 2)]) (rest := []) ⟨hx, hb, hml, hown, hts⟩ (c_X11_entry l dC dI (x) (tp) (hi) (sh) (g3) (g4) (g5) (g6) (g7) (g8) (g9) ((xs 1)) ((xs 2)) H.size) (cwV 2 hts (kz_gV qw_1081 qw_1082 qw_1083 qw_2 qw_1084) rfl rfl rfl (by decide +kernel) ⟨Nat.le_of_ble_eq_true rfl, Nat.le_of_ble_eq_true rfl⟩) (⟨(kz_preS hPc hKc hDc).1, (va_recv hKc hPc (ci := 11) (q0 := 0) rfl rfl), (kz_preS hPc hKc hDc).2⟩) rfl rfl hl.1 rfl (lv_room (Nat.le_of_ble_eq_true rfl)) dL_law_612 ⟨Nat.le_of_ble_eq_true rfl, Nat.le_of_ble_eq_true rfl⟩) hS (fun q _ h => hFc q h) hFc (fun r_1 u_2 t H1 locs ht hvm hw hB hz1 hk1 hS => ?_)
  try dsimp only at hw
  have hP1 : va_P (dC, dI) vwCl [] H1 := kz_P0
  have hD1 : va_D (va_A [(x, .inr (11, [.ref tp, .ref hi, .ref sh, .ref g3, .ref g4, .ref g5, .ref g6, .ref g7, .ref g8, .ref g9, .int 0, .int 0]))] H.size) [] := kz_D0
  have hK1 : va_K (dC, dI) vwCl [] s := hK.sub [] rfl
  obtain ⟨hP, hD⟩ := va_join (wr := [(tp, .inr (8, [.ref i1, .ref i2, .int 0, .int 0, .int 0, .int 0, .int 0, .ref bt, .int 0, .int 0, .int 0])), (bt, .inl (cB, 300, .inl (fun _ => 0))), (hi, .inr (3, [.int 0, .ref t1, .ref t2, .int 0])), (sh, .inl (cT, 2, .inr (.inr (.inr (.inr (fun _ => none)))))), (z, .inr (12, [.ref tm, .int 0, .int 0, .int 0, .int 0, .int 0, .int 0, .int 0, .int 0, .ref a9, .ref nw, .ref a11, .ref a12, .int 0, .int 0, .int 0, .ref a16, .ref a17, .ref a18, .ref a19, .ref a20, .ref a21, .ref a22, .ref a23, .ref a24, .ref a25, .ref a26, .int 0, .ref a28, .ref a29, .ref a30, .ref a31, .ref a32, .ref a33, .int 0, .ref a35, .ref a36])), (tm, .inl (cM, 300, .inl (fun _ => 0))), (nw, .inl (cI, 12507, .inl (fun _ => 0)))]) (w1 := []) hP hD [0] [1, 2, 3, 4, 5, 6, 7] rfl rfl (by decide) (by decide) hk1 hFc hP1 hD1
  have hK := (hK.sub (tys' := [(cB, .byte), (cT, .object RX10), (cM, .byte), (cI, .int)]) [0, 1, 2, 3] rfl).app hK1
  generalize H1 = H at hP hS ⊢
  have hP : va_P (dC, dI) vwCl [(tp, .inr (8, [.ref i1, .ref i2, .int 0, .int 0, .int 0, .int 0, .int 0, .ref bt, .int 0, .int 0, .int 0])), (bt, .inl (cB, 300, .inl (fun _ => 0))), (hi, .inr (3, [.int 0, .ref t1, .ref t2, .int 0])), (sh, .inl (cT, 2, .inr (.inr (.inr (.inr (fun _ => none)))))), (z, .inr (12, [.ref tm, .int 0, .int 0, .int 0, .int 0, .int 0, .int 0, .int 0, .int 0, .ref a9, .ref nw, .ref a11, .ref a12, .int 0, .int 0, .int 0, .ref a16, .ref a17, .ref a18, .ref a19, .ref a20, .ref a21, .ref a22, .ref a23, .ref a24, .ref a25, .ref a26, .int 0, .ref a28, .ref a29, .ref a30, .ref a31, .ref a32, .ref a33, .int 0, .ref a35, .ref a36])), (tm, .inl (cM, 300, .inl (fun _ => 0))), (nw, .inl (cI, 12507, .inl (fun _ => 0)))] H := hP
  have hD : va_D (fun q : Nat => s.heap.size ≤ q) [(tp, .inr (8, [.ref i1, .ref i2, .int 0, .int 0, .int 0, .int 0, .int 0, .ref bt, .int 0, .int 0, .int 0])), (bt, .inl (cB, 300, .inl (fun _ => 0))), (hi, .inr (3, [.int 0, .ref t1, .ref t2, .int 0])), (sh, .inl (cT, 2, .inr (.inr (.inr (.inr (fun _ => none)))))), (z, .inr (12, [.ref tm, .int 0, .int 0, .int 0, .int 0, .int 0, .int 0, .int 0, .int 0, .ref a9, .ref nw, .ref a11, .ref a12, .int 0, .int 0, .int 0, .ref a16, .ref a17, .ref a18, .ref a19, .ref a20, .ref a21, .ref a22, .ref a23, .ref a24, .ref a25, .ref a26, .int 0, .ref a28, .ref a29, .ref a30, .ref a31, .ref a32, .ref a33, .int 0, .ref a35, .ref a36])), (tm, .inl (cM, 300, .inl (fun _ => 0))), (nw, .inl (cI, 12507, .inl (fun _ => 0)))] := hD
  have hK : va_K (dC, dI) vwCl [(cB, .byte), (cT, .object RX10), (cM, .byte), (cI, .int)] s := hK
  obtain rfl : r_1 = (-1) := hw
  refine lv_aload_n hx hb dL_law_615 rfl (lv_at hl 1 rfl) ?_
  refine lv_aload_n hx hb dL_law_616 rfl (lv_at hl 3 rfl) ?_
  refine lv_iload_n hx hb dL_law_617 rfl (lv_at hl 0 rfl) ?_
  refine lv_iconst (v := 1) hx hb dL_law_618 (by decide) ?_
  refine lv_iadd hx hb dL_law_619 ?_
  refine kz_topi (y := 1) (by decide) ?_
  refine va_sld hx hb hX hbl hbA hS (i := 1) (kz_in (by decide +kernel)) dL_law_620 ?_
  refine kz_topi (y := xs 1) (congrArg xs (by decide)) ?_
  refine lv_aload_n hx hb dL_law_621 rfl (lv_at hl 3 rfl) ?_
  refine lv_iload_n hx hb dL_law_622 rfl (lv_at hl 0 rfl) ?_
  refine lv_iconst (v := 2) hx hb dL_law_623 (by decide) ?_
  refine lv_iadd hx hb dL_law_624 ?_
  refine kz_topi (y := 2) (by decide) ?_
  refine va_sld hx hb hX hbl hbA hS (i := 2) (kz_in (by decide +kernel)) dL_law_625 ?_
  refine kz_topi (y := xs 2) (congrArg xs (by decide)) ?_
  have hPc := hP.sub (ws' := [(z, .inr (12, [.ref tm, .int 0, .int 0, .int 0, .int 0, .int 0, .int 0, .int 0, .int 0, .ref a9, .ref nw, .ref a11, .ref a12, .int 0, .int 0, .int 0, .ref a16, .ref a17, .ref a18, .ref a19, .ref a20, .ref a21, .ref a22, .ref a23, .ref a24, .ref a25, .ref a26, .int 0, .ref a28, .ref a29, .ref a30, .ref a31, .ref a32, .ref a33, .int 0, .ref a35, .ref a36]))]) [4] rfl
  have hDc := hD.sub (ws' := [(z, .inr (12, [.ref tm, .int 0, .int 0, .int 0, .int 0, .int 0, .int 0, .int 0, .int 0, .ref a9, .ref nw, .ref a11, .ref a12, .int 0, .int 0, .int 0, .ref a16, .ref a17, .ref a18, .ref a19, .ref a20, .ref a21, .ref a22, .ref a23, .ref a24, .ref a25, .ref a26, .int 0, .ref a28, .ref a29, .ref a30, .ref a31, .ref a32, .ref a33, .int 0, .ref a35, .ref a36]))]) [4] (by decide) rfl
  have hKc := hK.sub (tys' := []) [] rfl
  have hFc := va_free (wc := [(z, .inr (12, [.ref tm, .int 0, .int 0, .int 0, .int 0, .int 0, .int 0, .int 0, .int 0, .ref a9, .ref nw, .ref a11, .ref a12, .int 0, .int 0, .int 0, .ref a16, .ref a17, .ref a18, .ref a19, .ref a20, .ref a21, .ref a22, .ref a23, .ref a24, .ref a25, .ref a26, .int 0, .ref a28, .ref a29, .ref a30, .ref a31, .ref a32, .ref a33, .int 0, .ref a35, .ref a36]))]) hD hS hA [4] rfl
  refine va_calli (va_runV (As := [.int (xs 1), .int (xs 2)]) (rest := [.int (-1)]) ⟨hx, hb, hml, hown, hts⟩ (c_X12_entry l dC dI (z) (tm) (a9) (nw) (a11) (a12) (a16) (a17) (a18) (a19) (a20) (a21) (a22) (a23) (a24) (a25) (a26) (a28) (a29) (a30) (a31) (a32) (a33) (a35) (a36) ((xs 1)) ((xs 2)) H.size) (cwV 2 hts (kz_gV qw_1086 qw_1087 qw_1088 qw_5 qw_1089) rfl rfl rfl (by decide +kernel) ⟨Nat.le_of_ble_eq_true rfl, Nat.le_of_ble_eq_true rfl⟩) (⟨(kz_preS hPc hKc hDc).1, (va_recv hKc hPc (ci := 12) (q0 := 0) rfl rfl), (kz_preS hPc hKc hDc).2⟩) rfl rfl hl.1 rfl (lv_room (Nat.le_of_ble_eq_true rfl)) dL_law_626 ⟨Nat.le_of_ble_eq_true rfl, Nat.le_of_ble_eq_true rfl⟩) hS (fun q _ h => hFc q h) hFc (fun r_3 u_4 t H1 locs ht hvm hw hB hz1 hk1 hS => ?_)
  try dsimp only at hw
  have hP1 : va_P (dC, dI) vwCl [] H1 := kz_P0
  have hD1 : va_D (va_A [(z, .inr (12, [.ref tm, .int 0, .int 0, .int 0, .int 0, .int 0, .int 0, .int 0, .int 0, .ref a9, .ref nw, .ref a11, .ref a12, .int 0, .int 0, .int 0, .ref a16, .ref a17, .ref a18, .ref a19, .ref a20, .ref a21, .ref a22, .ref a23, .ref a24, .ref a25, .ref a26, .int 0, .ref a28, .ref a29, .ref a30, .ref a31, .ref a32, .ref a33, .int 0, .ref a35, .ref a36]))] H.size) [] := kz_D0
  have hK1 : va_K (dC, dI) vwCl [] s := hK.sub [] rfl
  obtain ⟨hP, hD⟩ := va_join (wr := [(tp, .inr (8, [.ref i1, .ref i2, .int 0, .int 0, .int 0, .int 0, .int 0, .ref bt, .int 0, .int 0, .int 0])), (bt, .inl (cB, 300, .inl (fun _ => 0))), (hi, .inr (3, [.int 0, .ref t1, .ref t2, .int 0])), (sh, .inl (cT, 2, .inr (.inr (.inr (.inr (fun _ => none)))))), (tm, .inl (cM, 300, .inl (fun _ => 0))), (nw, .inl (cI, 12507, .inl (fun _ => 0)))]) (w1 := []) hP hD [4] [0, 1, 2, 3, 5, 6] rfl rfl (by decide) (by decide) hk1 hFc hP1 hD1
  have hK := (hK.sub (tys' := [(cB, .byte), (cT, .object RX10), (cM, .byte), (cI, .int)]) [0, 1, 2, 3] rfl).app hK1
  generalize H1 = H at hP hS ⊢
  have hP : va_P (dC, dI) vwCl [(tp, .inr (8, [.ref i1, .ref i2, .int 0, .int 0, .int 0, .int 0, .int 0, .ref bt, .int 0, .int 0, .int 0])), (bt, .inl (cB, 300, .inl (fun _ => 0))), (hi, .inr (3, [.int 0, .ref t1, .ref t2, .int 0])), (sh, .inl (cT, 2, .inr (.inr (.inr (.inr (fun _ => none)))))), (tm, .inl (cM, 300, .inl (fun _ => 0))), (nw, .inl (cI, 12507, .inl (fun _ => 0)))] H := hP
  have hD : va_D (fun q : Nat => s.heap.size ≤ q) [(tp, .inr (8, [.ref i1, .ref i2, .int 0, .int 0, .int 0, .int 0, .int 0, .ref bt, .int 0, .int 0, .int 0])), (bt, .inl (cB, 300, .inl (fun _ => 0))), (hi, .inr (3, [.int 0, .ref t1, .ref t2, .int 0])), (sh, .inl (cT, 2, .inr (.inr (.inr (.inr (fun _ => none)))))), (tm, .inl (cM, 300, .inl (fun _ => 0))), (nw, .inl (cI, 12507, .inl (fun _ => 0)))] := hD
  have hK : va_K (dC, dI) vwCl [(cB, .byte), (cT, .object RX10), (cM, .byte), (cI, .int)] s := hK
  obtain rfl : r_3 = (-1) := hw
  refine lv_icmp_eq (tgt := 971) hx hb dL_law_629 (by decide) (fun _ => ?_) (fun c9 => absurd (by decide) c9)
  exact law_tail C00 hS (lv_sub hl [0, 3] rfl)
set_option maxHeartbeats 4000000 in
set_option maxRecDepth 100000 in
theorem law_16 {p : Program} {l : Launch} {e : Env} {s : State} {m : MethodId} {below : List Frame} {meth : Method} {c : Code} {b : Nat} {xs : Nat → Int32} {dC : Nat → ClassId} {dI : Nat → Nat → Nat} {x tp hi sh g3 g4 g5 g6 g7 g8 g9 i1 i2 bt t1 t2 z tm a9 nw a11 a12 a16 a17 a18 a19 a20 a21 a22 a23 a24 a25 a26 a28 a29 a30 a31 a32 a33 a35 a36 : Nat} {cB cT cM cI : ClassId} (C00 : lw_At p s m meth c b 6 xs) (hK : va_K (dC, dI) vwCl [(cB, .byte), (cT, .object RX10), (cM, .byte), (cI, .int)] s) {H : Heap} {locs : List Loc} (hP : va_P (dC, dI) vwCl [(x, .inr (11, [.ref tp, .ref hi, .ref sh, .ref g3, .ref g4, .ref g5, .ref g6, .ref g7, .ref g8, .ref g9, .int 0, .int 0])), (tp, .inr (8, [.ref i1, .ref i2, .int 0, .int 0, .int 0, .int 0, .int 0, .ref bt, .int 0, .int 0, .int 0])), (bt, .inl (cB, 300, .inl (fun _ => 0))), (hi, .inr (3, [.int 0, .ref t1, .ref t2, .int 0])), (sh, .inl (cT, 2, .inr (.inr (.inr (.inr (fun _ => none)))))), (z, .inr (12, [.ref tm, .int 0, .int 0, .int 0, .int 0, .int 0, .int 0, .int 0, .int 0, .ref a9, .ref nw, .ref a11, .ref a12, .int 0, .int 0, .int 0, .ref a16, .ref a17, .ref a18, .ref a19, .ref a20, .ref a21, .ref a22, .ref a23, .ref a24, .ref a25, .ref a26, .int 0, .ref a28, .ref a29, .ref a30, .ref a31, .ref a32, .ref a33, .int 0, .ref a35, .ref a36])), (tm, .inl (cM, 300, .inl (fun _ => 0))), (nw, .inl (cI, 12507, .inl (fun _ => 0)))] H) (hD : va_D (fun q : Nat => s.heap.size ≤ q) [(x, .inr (11, [.ref tp, .ref hi, .ref sh, .ref g3, .ref g4, .ref g5, .ref g6, .ref g7, .ref g8, .ref g9, .int 0, .int 0])), (tp, .inr (8, [.ref i1, .ref i2, .int 0, .int 0, .int 0, .int 0, .int 0, .ref bt, .int 0, .int 0, .int 0])), (bt, .inl (cB, 300, .inl (fun _ => 0))), (hi, .inr (3, [.int 0, .ref t1, .ref t2, .int 0])), (sh, .inl (cT, 2, .inr (.inr (.inr (.inr (fun _ => none)))))), (z, .inr (12, [.ref tm, .int 0, .int 0, .int 0, .int 0, .int 0, .int 0, .int 0, .int 0, .ref a9, .ref nw, .ref a11, .ref a12, .int 0, .int 0, .int 0, .ref a16, .ref a17, .ref a18, .ref a19, .ref a20, .ref a21, .ref a22, .ref a23, .ref a24, .ref a25, .ref a26, .int 0, .ref a28, .ref a29, .ref a30, .ref a31, .ref a32, .ref a33, .int 0, .ref a35, .ref a36])), (tm, .inl (cM, 300, .inl (fun _ => 0))), (nw, .inl (cI, 12507, .inl (fun _ => 0)))]) (hS : va_S (fun q : Nat => s.heap.size ≤ q) s.heap H locs) {ls : Array Slot} (hl : lv_has ls 4 [(3, .int 0), (2, .ref z), (1, .ref x), (0, .ref b)]) : W p l e room_1 s m #[Value.ref b] below meth c H locs 80 147144 (lw_Z below #[Value.ref b] s) (F0 m 634 ls []) := by
  obtain ⟨hx, hb, hr, hml, hown, hts, hX, hbl, hlocks, hgv⟩ := id C00
  have hts : ∀ w ∈ wsU, w.before #[Value.ref b] s = true := fun w h => hts w (wsU_in w h)
  have hown : s.vm.findClass RL = some m.cls := hown
  have hA : ∀ q : Nat, s.heap.size ≤ q → (fun q : Nat => s.heap.size ≤ q) q := fun _ h => h
  have hbA : ¬ (fun q : Nat => s.heap.size ≤ q) b := Nat.not_le.mpr hbl
  refine lv_aload_n hx hb dL_law_634 rfl (lv_at hl 2 rfl) ?_
  refine lv_aload_n hx hb dL_law_635 rfl (lv_at hl 3 rfl) ?_
  refine lv_iload_n hx hb dL_law_636 rfl (lv_at hl 0 rfl) ?_
  refine lv_iconst (v := 1) hx hb dL_law_637 (by decide) ?_
  refine lv_iadd hx hb dL_law_638 ?_
  refine kz_topi (y := 1) (by decide) ?_
  refine va_sld hx hb hX hbl hbA hS (i := 1) (kz_in (by decide +kernel)) dL_law_639 ?_
  refine kz_topi (y := xs 1) (congrArg xs (by decide)) ?_
  refine lv_aload_n hx hb dL_law_640 rfl (lv_at hl 3 rfl) ?_
  refine lv_iload_n hx hb dL_law_641 rfl (lv_at hl 0 rfl) ?_
  refine lv_iconst (v := 2) hx hb dL_law_642 (by decide) ?_
  refine lv_iadd hx hb dL_law_643 ?_
  refine kz_topi (y := 2) (by decide) ?_
  refine va_sld hx hb hX hbl hbA hS (i := 2) (kz_in (by decide +kernel)) dL_law_644 ?_
  refine kz_topi (y := xs 2) (congrArg xs (by decide)) ?_
  refine lv_aload_n hx hb dL_law_645 rfl (lv_at hl 3 rfl) ?_
  refine lv_iload_n hx hb dL_law_646 rfl (lv_at hl 0 rfl) ?_
  refine lv_iconst (v := 3) hx hb dL_law_647 (by decide) ?_
  refine lv_iadd hx hb dL_law_648 ?_
  refine kz_topi (y := 3) (by decide) ?_
  refine va_sld hx hb hX hbl hbA hS (i := 3) (kz_in (by decide +kernel)) dL_law_649 ?_
  refine kz_topi (y := xs 3) (congrArg xs (by decide)) ?_
  refine lv_aload_n hx hb dL_law_650 rfl (lv_at hl 3 rfl) ?_
  refine lv_iload_n hx hb dL_law_651 rfl (lv_at hl 0 rfl) ?_
  refine lv_iconst (v := 4) hx hb dL_law_652 (by decide) ?_
  refine lv_iadd hx hb dL_law_653 ?_
  refine kz_topi (y := 4) (by decide) ?_
  refine va_sld hx hb hX hbl hbA hS (i := 4) (kz_in (by decide +kernel)) dL_law_654 ?_
  refine kz_topi (y := xs 4) (congrArg xs (by decide)) ?_
  have hPc := hP.sub (ws' := [(x, .inr (11, [.ref tp, .ref hi, .ref sh, .ref g3, .ref g4, .ref g5, .ref g6, .ref g7, .ref g8, .ref g9, .int 0, .int 0]))]) [0] rfl
  have hDc := hD.sub (ws' := [(x, .inr (11, [.ref tp, .ref hi, .ref sh, .ref g3, .ref g4, .ref g5, .ref g6, .ref g7, .ref g8, .ref g9, .int 0, .int 0]))]) [0] (by decide) rfl
  have hKc := hK.sub (tys' := []) [] rfl
  have hFc := va_free (wc := [(x, .inr (11, [.ref tp, .ref hi, .ref sh, .ref g3, .ref g4, .ref g5, .ref g6, .ref g7, .ref g8, .ref g9, .int 0, .int 0]))]) hD hS hA [0] rfl
  refine va_calli (va_runV (As := [.int (xs 1), .int (xs 2), .int (xs 3), .int (xs 4)]) (rest := []) ⟨hx, hb, hml, hown, hts⟩ (c_X11_choose l dC dI (x) (tp) (hi) (sh) (g3) (g4) (g5) (g6) (g7) (g8) (g9) ((xs 1)) ((xs 2)) ((xs 3)) ((xs 4)) H.size) (cwV 4 hts (kz_gV qw_1090 qw_1091 qw_1092 qw_2 qw_1093) rfl rfl rfl (by decide +kernel) ⟨Nat.le_of_ble_eq_true rfl, Nat.le_of_ble_eq_true rfl⟩) (⟨(kz_preS hPc hKc hDc).1, (va_recv hKc hPc (ci := 11) (q0 := 0) rfl rfl), (kz_preS hPc hKc hDc).2⟩) rfl rfl hl.1 rfl (lv_room (Nat.le_of_ble_eq_true rfl)) dL_law_655 ⟨Nat.le_of_ble_eq_true rfl, Nat.le_of_ble_eq_true rfl⟩) hS (fun q _ h => hFc q h) hFc (fun r_1 u_2 t H1 locs ht hvm hw hB hz1 hk1 hS => ?_)
  try dsimp only at hw
  have hP1 : va_P (dC, dI) vwCl [] H1 := kz_P0
  have hD1 : va_D (va_A [(x, .inr (11, [.ref tp, .ref hi, .ref sh, .ref g3, .ref g4, .ref g5, .ref g6, .ref g7, .ref g8, .ref g9, .int 0, .int 0]))] H.size) [] := kz_D0
  have hK1 : va_K (dC, dI) vwCl [] s := hK.sub [] rfl
  obtain ⟨hP, hD⟩ := va_join (wr := [(tp, .inr (8, [.ref i1, .ref i2, .int 0, .int 0, .int 0, .int 0, .int 0, .ref bt, .int 0, .int 0, .int 0])), (bt, .inl (cB, 300, .inl (fun _ => 0))), (hi, .inr (3, [.int 0, .ref t1, .ref t2, .int 0])), (sh, .inl (cT, 2, .inr (.inr (.inr (.inr (fun _ => none)))))), (z, .inr (12, [.ref tm, .int 0, .int 0, .int 0, .int 0, .int 0, .int 0, .int 0, .int 0, .ref a9, .ref nw, .ref a11, .ref a12, .int 0, .int 0, .int 0, .ref a16, .ref a17, .ref a18, .ref a19, .ref a20, .ref a21, .ref a22, .ref a23, .ref a24, .ref a25, .ref a26, .int 0, .ref a28, .ref a29, .ref a30, .ref a31, .ref a32, .ref a33, .int 0, .ref a35, .ref a36])), (tm, .inl (cM, 300, .inl (fun _ => 0))), (nw, .inl (cI, 12507, .inl (fun _ => 0)))]) (w1 := []) hP hD [0] [1, 2, 3, 4, 5, 6, 7] rfl rfl (by decide) (by decide) hk1 hFc hP1 hD1
  have hK := (hK.sub (tys' := [(cB, .byte), (cT, .object RX10), (cM, .byte), (cI, .int)]) [0, 1, 2, 3] rfl).app hK1
  generalize H1 = H at hP hS ⊢
  have hP : va_P (dC, dI) vwCl [(tp, .inr (8, [.ref i1, .ref i2, .int 0, .int 0, .int 0, .int 0, .int 0, .ref bt, .int 0, .int 0, .int 0])), (bt, .inl (cB, 300, .inl (fun _ => 0))), (hi, .inr (3, [.int 0, .ref t1, .ref t2, .int 0])), (sh, .inl (cT, 2, .inr (.inr (.inr (.inr (fun _ => none)))))), (z, .inr (12, [.ref tm, .int 0, .int 0, .int 0, .int 0, .int 0, .int 0, .int 0, .int 0, .ref a9, .ref nw, .ref a11, .ref a12, .int 0, .int 0, .int 0, .ref a16, .ref a17, .ref a18, .ref a19, .ref a20, .ref a21, .ref a22, .ref a23, .ref a24, .ref a25, .ref a26, .int 0, .ref a28, .ref a29, .ref a30, .ref a31, .ref a32, .ref a33, .int 0, .ref a35, .ref a36])), (tm, .inl (cM, 300, .inl (fun _ => 0))), (nw, .inl (cI, 12507, .inl (fun _ => 0)))] H := hP
  have hD : va_D (fun q : Nat => s.heap.size ≤ q) [(tp, .inr (8, [.ref i1, .ref i2, .int 0, .int 0, .int 0, .int 0, .int 0, .ref bt, .int 0, .int 0, .int 0])), (bt, .inl (cB, 300, .inl (fun _ => 0))), (hi, .inr (3, [.int 0, .ref t1, .ref t2, .int 0])), (sh, .inl (cT, 2, .inr (.inr (.inr (.inr (fun _ => none)))))), (z, .inr (12, [.ref tm, .int 0, .int 0, .int 0, .int 0, .int 0, .int 0, .int 0, .int 0, .ref a9, .ref nw, .ref a11, .ref a12, .int 0, .int 0, .int 0, .ref a16, .ref a17, .ref a18, .ref a19, .ref a20, .ref a21, .ref a22, .ref a23, .ref a24, .ref a25, .ref a26, .int 0, .ref a28, .ref a29, .ref a30, .ref a31, .ref a32, .ref a33, .int 0, .ref a35, .ref a36])), (tm, .inl (cM, 300, .inl (fun _ => 0))), (nw, .inl (cI, 12507, .inl (fun _ => 0)))] := hD
  have hK : va_K (dC, dI) vwCl [(cB, .byte), (cT, .object RX10), (cM, .byte), (cI, .int)] s := hK
  obtain rfl : r_1 = (-1) := hw
  refine lv_aload_n hx hb dL_law_658 rfl (lv_at hl 1 rfl) ?_
  refine lv_aload_n hx hb dL_law_659 rfl (lv_at hl 3 rfl) ?_
  refine lv_iload_n hx hb dL_law_660 rfl (lv_at hl 0 rfl) ?_
  refine lv_iconst (v := 1) hx hb dL_law_661 (by decide) ?_
  refine lv_iadd hx hb dL_law_662 ?_
  refine kz_topi (y := 1) (by decide) ?_
  refine va_sld hx hb hX hbl hbA hS (i := 1) (kz_in (by decide +kernel)) dL_law_663 ?_
  refine kz_topi (y := xs 1) (congrArg xs (by decide)) ?_
  refine lv_aload_n hx hb dL_law_664 rfl (lv_at hl 3 rfl) ?_
  refine lv_iload_n hx hb dL_law_665 rfl (lv_at hl 0 rfl) ?_
  refine lv_iconst (v := 2) hx hb dL_law_666 (by decide) ?_
  refine lv_iadd hx hb dL_law_667 ?_
  refine kz_topi (y := 2) (by decide) ?_
  refine va_sld hx hb hX hbl hbA hS (i := 2) (kz_in (by decide +kernel)) dL_law_668 ?_
  refine kz_topi (y := xs 2) (congrArg xs (by decide)) ?_
  refine lv_aload_n hx hb dL_law_669 rfl (lv_at hl 3 rfl) ?_
  refine lv_iload_n hx hb dL_law_670 rfl (lv_at hl 0 rfl) ?_
  refine lv_iconst (v := 3) hx hb dL_law_671 (by decide) ?_
  refine lv_iadd hx hb dL_law_672 ?_
  refine kz_topi (y := 3) (by decide) ?_
  refine va_sld hx hb hX hbl hbA hS (i := 3) (kz_in (by decide +kernel)) dL_law_673 ?_
  refine kz_topi (y := xs 3) (congrArg xs (by decide)) ?_
  refine lv_aload_n hx hb dL_law_674 rfl (lv_at hl 3 rfl) ?_
  refine lv_iload_n hx hb dL_law_675 rfl (lv_at hl 0 rfl) ?_
  refine lv_iconst (v := 4) hx hb dL_law_676 (by decide) ?_
  refine lv_iadd hx hb dL_law_677 ?_
  refine kz_topi (y := 4) (by decide) ?_
  refine va_sld hx hb hX hbl hbA hS (i := 4) (kz_in (by decide +kernel)) dL_law_678 ?_
  refine kz_topi (y := xs 4) (congrArg xs (by decide)) ?_
  have hPc := hP.sub (ws' := [(z, .inr (12, [.ref tm, .int 0, .int 0, .int 0, .int 0, .int 0, .int 0, .int 0, .int 0, .ref a9, .ref nw, .ref a11, .ref a12, .int 0, .int 0, .int 0, .ref a16, .ref a17, .ref a18, .ref a19, .ref a20, .ref a21, .ref a22, .ref a23, .ref a24, .ref a25, .ref a26, .int 0, .ref a28, .ref a29, .ref a30, .ref a31, .ref a32, .ref a33, .int 0, .ref a35, .ref a36]))]) [4] rfl
  have hDc := hD.sub (ws' := [(z, .inr (12, [.ref tm, .int 0, .int 0, .int 0, .int 0, .int 0, .int 0, .int 0, .int 0, .ref a9, .ref nw, .ref a11, .ref a12, .int 0, .int 0, .int 0, .ref a16, .ref a17, .ref a18, .ref a19, .ref a20, .ref a21, .ref a22, .ref a23, .ref a24, .ref a25, .ref a26, .int 0, .ref a28, .ref a29, .ref a30, .ref a31, .ref a32, .ref a33, .int 0, .ref a35, .ref a36]))]) [4] (by decide) rfl
  have hKc := hK.sub (tys' := []) [] rfl
  have hFc := va_free (wc := [(z, .inr (12, [.ref tm, .int 0, .int 0, .int 0, .int 0, .int 0, .int 0, .int 0, .int 0, .ref a9, .ref nw, .ref a11, .ref a12, .int 0, .int 0, .int 0, .ref a16, .ref a17, .ref a18, .ref a19, .ref a20, .ref a21, .ref a22, .ref a23, .ref a24, .ref a25, .ref a26, .int 0, .ref a28, .ref a29, .ref a30, .ref a31, .ref a32, .ref a33, .int 0, .ref a35, .ref a36]))]) hD hS hA [4] rfl
  refine va_calli (va_runV (As := [.int (xs 1), .int (xs 2), .int (xs 3), .int (xs 4)]) (rest := [.int (-1)]) ⟨hx, hb, hml, hown, hts⟩ (c_X12_choose l dC dI (z) (tm) (a9) (nw) (a11) (a12) (a16) (a17) (a18) (a19) (a20) (a21) (a22) (a23) (a24) (a25) (a26) (a28) (a29) (a30) (a31) (a32) (a33) (a35) (a36) ((xs 1)) ((xs 2)) ((xs 3)) ((xs 4)) H.size) (cwV 4 hts (kz_gV qw_1102 qw_1103 qw_1104 qw_5 qw_1105) rfl rfl rfl (by decide +kernel) ⟨Nat.le_of_ble_eq_true rfl, Nat.le_of_ble_eq_true rfl⟩) (⟨(kz_preS hPc hKc hDc).1, (va_recv hKc hPc (ci := 12) (q0 := 0) rfl rfl), (kz_preS hPc hKc hDc).2⟩) rfl rfl hl.1 rfl (lv_room (Nat.le_of_ble_eq_true rfl)) dL_law_679 ⟨Nat.le_of_ble_eq_true rfl, Nat.le_of_ble_eq_true rfl⟩) hS (fun q _ h => hFc q h) hFc (fun r_3 u_4 t H1 locs ht hvm hw hB hz1 hk1 hS => ?_)
  try dsimp only at hw
  have hP1 : va_P (dC, dI) vwCl [] H1 := kz_P0
  have hD1 : va_D (va_A [(z, .inr (12, [.ref tm, .int 0, .int 0, .int 0, .int 0, .int 0, .int 0, .int 0, .int 0, .ref a9, .ref nw, .ref a11, .ref a12, .int 0, .int 0, .int 0, .ref a16, .ref a17, .ref a18, .ref a19, .ref a20, .ref a21, .ref a22, .ref a23, .ref a24, .ref a25, .ref a26, .int 0, .ref a28, .ref a29, .ref a30, .ref a31, .ref a32, .ref a33, .int 0, .ref a35, .ref a36]))] H.size) [] := kz_D0
  have hK1 : va_K (dC, dI) vwCl [] s := hK.sub [] rfl
  obtain ⟨hP, hD⟩ := va_join (wr := [(tp, .inr (8, [.ref i1, .ref i2, .int 0, .int 0, .int 0, .int 0, .int 0, .ref bt, .int 0, .int 0, .int 0])), (bt, .inl (cB, 300, .inl (fun _ => 0))), (hi, .inr (3, [.int 0, .ref t1, .ref t2, .int 0])), (sh, .inl (cT, 2, .inr (.inr (.inr (.inr (fun _ => none)))))), (tm, .inl (cM, 300, .inl (fun _ => 0))), (nw, .inl (cI, 12507, .inl (fun _ => 0)))]) (w1 := []) hP hD [4] [0, 1, 2, 3, 5, 6] rfl rfl (by decide) (by decide) hk1 hFc hP1 hD1
  have hK := (hK.sub (tys' := [(cB, .byte), (cT, .object RX10), (cM, .byte), (cI, .int)]) [0, 1, 2, 3] rfl).app hK1
  generalize H1 = H at hP hS ⊢
  have hP : va_P (dC, dI) vwCl [(tp, .inr (8, [.ref i1, .ref i2, .int 0, .int 0, .int 0, .int 0, .int 0, .ref bt, .int 0, .int 0, .int 0])), (bt, .inl (cB, 300, .inl (fun _ => 0))), (hi, .inr (3, [.int 0, .ref t1, .ref t2, .int 0])), (sh, .inl (cT, 2, .inr (.inr (.inr (.inr (fun _ => none)))))), (tm, .inl (cM, 300, .inl (fun _ => 0))), (nw, .inl (cI, 12507, .inl (fun _ => 0)))] H := hP
  have hD : va_D (fun q : Nat => s.heap.size ≤ q) [(tp, .inr (8, [.ref i1, .ref i2, .int 0, .int 0, .int 0, .int 0, .int 0, .ref bt, .int 0, .int 0, .int 0])), (bt, .inl (cB, 300, .inl (fun _ => 0))), (hi, .inr (3, [.int 0, .ref t1, .ref t2, .int 0])), (sh, .inl (cT, 2, .inr (.inr (.inr (.inr (fun _ => none)))))), (tm, .inl (cM, 300, .inl (fun _ => 0))), (nw, .inl (cI, 12507, .inl (fun _ => 0)))] := hD
  have hK : va_K (dC, dI) vwCl [(cB, .byte), (cT, .object RX10), (cM, .byte), (cI, .int)] s := hK
  obtain rfl : r_3 = (-1) := hw
  refine lv_icmp_eq (tgt := 971) hx hb dL_law_682 (by decide) (fun _ => ?_) (fun c9 => absurd (by decide) c9)
  exact law_tail C00 hS (lv_sub hl [0, 3] rfl)
set_option maxHeartbeats 4000000 in
set_option maxRecDepth 100000 in
theorem law_17 {p : Program} {l : Launch} {e : Env} {s : State} {m : MethodId} {below : List Frame} {meth : Method} {c : Code} {b : Nat} {xs : Nat → Int32} {dC : Nat → ClassId} {dI : Nat → Nat → Nat} {x tp hi sh g3 g4 g5 g6 g7 g8 g9 i1 i2 bt t1 t2 z tm a9 nw a11 a12 a16 a17 a18 a19 a20 a21 a22 a23 a24 a25 a26 a28 a29 a30 a31 a32 a33 a35 a36 : Nat} {cB cT cM cI : ClassId} (C00 : lw_At p s m meth c b 6 xs) (hK : va_K (dC, dI) vwCl [(cB, .byte), (cT, .object RX10), (cM, .byte), (cI, .int)] s) {H : Heap} {locs : List Loc} (hP : va_P (dC, dI) vwCl [(x, .inr (11, [.ref tp, .ref hi, .ref sh, .ref g3, .ref g4, .ref g5, .ref g6, .ref g7, .ref g8, .ref g9, .int 0, .int 0])), (tp, .inr (8, [.ref i1, .ref i2, .int 0, .int 0, .int 0, .int 0, .int 0, .ref bt, .int 0, .int 0, .int 0])), (bt, .inl (cB, 300, .inl (fun _ => 0))), (hi, .inr (3, [.int 0, .ref t1, .ref t2, .int 0])), (sh, .inl (cT, 2, .inr (.inr (.inr (.inr (fun _ => none)))))), (z, .inr (12, [.ref tm, .int 0, .int 0, .int 0, .int 0, .int 0, .int 0, .int 0, .int 0, .ref a9, .ref nw, .ref a11, .ref a12, .int 0, .int 0, .int 0, .ref a16, .ref a17, .ref a18, .ref a19, .ref a20, .ref a21, .ref a22, .ref a23, .ref a24, .ref a25, .ref a26, .int 0, .ref a28, .ref a29, .ref a30, .ref a31, .ref a32, .ref a33, .int 0, .ref a35, .ref a36])), (tm, .inl (cM, 300, .inl (fun _ => 0))), (nw, .inl (cI, 12507, .inl (fun _ => 0)))] H) (hD : va_D (fun q : Nat => s.heap.size ≤ q) [(x, .inr (11, [.ref tp, .ref hi, .ref sh, .ref g3, .ref g4, .ref g5, .ref g6, .ref g7, .ref g8, .ref g9, .int 0, .int 0])), (tp, .inr (8, [.ref i1, .ref i2, .int 0, .int 0, .int 0, .int 0, .int 0, .ref bt, .int 0, .int 0, .int 0])), (bt, .inl (cB, 300, .inl (fun _ => 0))), (hi, .inr (3, [.int 0, .ref t1, .ref t2, .int 0])), (sh, .inl (cT, 2, .inr (.inr (.inr (.inr (fun _ => none)))))), (z, .inr (12, [.ref tm, .int 0, .int 0, .int 0, .int 0, .int 0, .int 0, .int 0, .int 0, .ref a9, .ref nw, .ref a11, .ref a12, .int 0, .int 0, .int 0, .ref a16, .ref a17, .ref a18, .ref a19, .ref a20, .ref a21, .ref a22, .ref a23, .ref a24, .ref a25, .ref a26, .int 0, .ref a28, .ref a29, .ref a30, .ref a31, .ref a32, .ref a33, .int 0, .ref a35, .ref a36])), (tm, .inl (cM, 300, .inl (fun _ => 0))), (nw, .inl (cI, 12507, .inl (fun _ => 0)))]) (hS : va_S (fun q : Nat => s.heap.size ≤ q) s.heap H locs) {ls : Array Slot} (hl : lv_has ls 4 [(3, .int 0), (2, .ref z), (1, .ref x), (0, .ref b)]) : W p l e room_1 s m #[Value.ref b] below meth c H locs 80 147144 (lw_Z below #[Value.ref b] s) (F0 m 687 ls []) := by
  obtain ⟨hx, hb, hr, hml, hown, hts, hX, hbl, hlocks, hgv⟩ := id C00
  have hts : ∀ w ∈ wsU, w.before #[Value.ref b] s = true := fun w h => hts w (wsU_in w h)
  have hown : s.vm.findClass RL = some m.cls := hown
  have hA : ∀ q : Nat, s.heap.size ≤ q → (fun q : Nat => s.heap.size ≤ q) q := fun _ h => h
  have hbA : ¬ (fun q : Nat => s.heap.size ≤ q) b := Nat.not_le.mpr hbl
  refine lv_aload_n hx hb dL_law_687 rfl (lv_at hl 2 rfl) ?_
  refine lv_aload_n hx hb dL_law_688 rfl (lv_at hl 3 rfl) ?_
  refine lv_iload_n hx hb dL_law_689 rfl (lv_at hl 0 rfl) ?_
  refine lv_iconst (v := 1) hx hb dL_law_690 (by decide) ?_
  refine lv_iadd hx hb dL_law_691 ?_
  refine kz_topi (y := 1) (by decide) ?_
  refine va_sld hx hb hX hbl hbA hS (i := 1) (kz_in (by decide +kernel)) dL_law_692 ?_
  refine kz_topi (y := xs 1) (congrArg xs (by decide)) ?_
  refine lv_aload_n hx hb dL_law_693 rfl (lv_at hl 3 rfl) ?_
  refine lv_iload_n hx hb dL_law_694 rfl (lv_at hl 0 rfl) ?_
  refine lv_iconst (v := 2) hx hb dL_law_695 (by decide) ?_
  refine lv_iadd hx hb dL_law_696 ?_
  refine kz_topi (y := 2) (by decide) ?_
  refine va_sld hx hb hX hbl hbA hS (i := 2) (kz_in (by decide +kernel)) dL_law_697 ?_
  refine kz_topi (y := xs 2) (congrArg xs (by decide)) ?_
  refine lv_aload_n hx hb dL_law_698 rfl (lv_at hl 3 rfl) ?_
  refine lv_iload_n hx hb dL_law_699 rfl (lv_at hl 0 rfl) ?_
  refine lv_iconst (v := 3) hx hb dL_law_700 (by decide) ?_
  refine lv_iadd hx hb dL_law_701 ?_
  refine kz_topi (y := 3) (by decide) ?_
  refine va_sld hx hb hX hbl hbA hS (i := 3) (kz_in (by decide +kernel)) dL_law_702 ?_
  refine kz_topi (y := xs 3) (congrArg xs (by decide)) ?_
  refine lv_aload_n hx hb dL_law_703 rfl (lv_at hl 3 rfl) ?_
  refine lv_iload_n hx hb dL_law_704 rfl (lv_at hl 0 rfl) ?_
  refine lv_iconst (v := 4) hx hb dL_law_705 (by decide) ?_
  refine lv_iadd hx hb dL_law_706 ?_
  refine kz_topi (y := 4) (by decide) ?_
  refine va_sld hx hb hX hbl hbA hS (i := 4) (kz_in (by decide +kernel)) dL_law_707 ?_
  refine kz_topi (y := xs 4) (congrArg xs (by decide)) ?_
  refine lv_aload_n hx hb dL_law_708 rfl (lv_at hl 3 rfl) ?_
  refine lv_iload_n hx hb dL_law_709 rfl (lv_at hl 0 rfl) ?_
  refine lv_iconst (v := 5) hx hb dL_law_710 (by decide) ?_
  refine lv_iadd hx hb dL_law_711 ?_
  refine kz_topi (y := 5) (by decide) ?_
  refine va_sld hx hb hX hbl hbA hS (i := 5) (kz_in (by decide +kernel)) dL_law_712 ?_
  refine kz_topi (y := xs 5) (congrArg xs (by decide)) ?_
  have hPc := hP.sub (ws' := [(x, .inr (11, [.ref tp, .ref hi, .ref sh, .ref g3, .ref g4, .ref g5, .ref g6, .ref g7, .ref g8, .ref g9, .int 0, .int 0]))]) [0] rfl
  have hDc := hD.sub (ws' := [(x, .inr (11, [.ref tp, .ref hi, .ref sh, .ref g3, .ref g4, .ref g5, .ref g6, .ref g7, .ref g8, .ref g9, .int 0, .int 0]))]) [0] (by decide) rfl
  have hKc := hK.sub (tys' := []) [] rfl
  have hFc := va_free (wc := [(x, .inr (11, [.ref tp, .ref hi, .ref sh, .ref g3, .ref g4, .ref g5, .ref g6, .ref g7, .ref g8, .ref g9, .int 0, .int 0]))]) hD hS hA [0] rfl
  refine va_calli (va_runV (As := [.int (xs 1), .int (xs 2), .int (xs 3), .int (xs 4), .int (xs 5)]) (rest := []) ⟨hx, hb, hml, hown, hts⟩ (c_X11_window l dC dI (x) (tp) (hi) (sh) (g3) (g4) (g5) (g6) (g7) (g8) (g9) ((xs 1)) ((xs 2)) ((xs 3)) ((xs 4)) ((xs 5)) H.size) (cwV 5 hts (kz_gV qw_1106 qw_1107 qw_1108 qw_2 qw_1109) rfl rfl rfl (by decide +kernel) ⟨Nat.le_of_ble_eq_true rfl, Nat.le_of_ble_eq_true rfl⟩) (⟨(kz_preS hPc hKc hDc).1, (va_recv hKc hPc (ci := 11) (q0 := 0) rfl rfl), (kz_preS hPc hKc hDc).2⟩) rfl rfl hl.1 rfl (lv_room (Nat.le_of_ble_eq_true rfl)) dL_law_713 ⟨Nat.le_of_ble_eq_true rfl, Nat.le_of_ble_eq_true rfl⟩) hS (fun q _ h => hFc q h) hFc (fun r_1 u_2 t H1 locs ht hvm hw hB hz1 hk1 hS => ?_)
  try dsimp only at hw
  have hP1 : va_P (dC, dI) vwCl [] H1 := kz_P0
  have hD1 : va_D (va_A [(x, .inr (11, [.ref tp, .ref hi, .ref sh, .ref g3, .ref g4, .ref g5, .ref g6, .ref g7, .ref g8, .ref g9, .int 0, .int 0]))] H.size) [] := kz_D0
  have hK1 : va_K (dC, dI) vwCl [] s := hK.sub [] rfl
  obtain ⟨hP, hD⟩ := va_join (wr := [(tp, .inr (8, [.ref i1, .ref i2, .int 0, .int 0, .int 0, .int 0, .int 0, .ref bt, .int 0, .int 0, .int 0])), (bt, .inl (cB, 300, .inl (fun _ => 0))), (hi, .inr (3, [.int 0, .ref t1, .ref t2, .int 0])), (sh, .inl (cT, 2, .inr (.inr (.inr (.inr (fun _ => none)))))), (z, .inr (12, [.ref tm, .int 0, .int 0, .int 0, .int 0, .int 0, .int 0, .int 0, .int 0, .ref a9, .ref nw, .ref a11, .ref a12, .int 0, .int 0, .int 0, .ref a16, .ref a17, .ref a18, .ref a19, .ref a20, .ref a21, .ref a22, .ref a23, .ref a24, .ref a25, .ref a26, .int 0, .ref a28, .ref a29, .ref a30, .ref a31, .ref a32, .ref a33, .int 0, .ref a35, .ref a36])), (tm, .inl (cM, 300, .inl (fun _ => 0))), (nw, .inl (cI, 12507, .inl (fun _ => 0)))]) (w1 := []) hP hD [0] [1, 2, 3, 4, 5, 6, 7] rfl rfl (by decide) (by decide) hk1 hFc hP1 hD1
  have hK := (hK.sub (tys' := [(cB, .byte), (cT, .object RX10), (cM, .byte), (cI, .int)]) [0, 1, 2, 3] rfl).app hK1
  generalize H1 = H at hP hS ⊢
  have hP : va_P (dC, dI) vwCl [(tp, .inr (8, [.ref i1, .ref i2, .int 0, .int 0, .int 0, .int 0, .int 0, .ref bt, .int 0, .int 0, .int 0])), (bt, .inl (cB, 300, .inl (fun _ => 0))), (hi, .inr (3, [.int 0, .ref t1, .ref t2, .int 0])), (sh, .inl (cT, 2, .inr (.inr (.inr (.inr (fun _ => none)))))), (z, .inr (12, [.ref tm, .int 0, .int 0, .int 0, .int 0, .int 0, .int 0, .int 0, .int 0, .ref a9, .ref nw, .ref a11, .ref a12, .int 0, .int 0, .int 0, .ref a16, .ref a17, .ref a18, .ref a19, .ref a20, .ref a21, .ref a22, .ref a23, .ref a24, .ref a25, .ref a26, .int 0, .ref a28, .ref a29, .ref a30, .ref a31, .ref a32, .ref a33, .int 0, .ref a35, .ref a36])), (tm, .inl (cM, 300, .inl (fun _ => 0))), (nw, .inl (cI, 12507, .inl (fun _ => 0)))] H := hP
  have hD : va_D (fun q : Nat => s.heap.size ≤ q) [(tp, .inr (8, [.ref i1, .ref i2, .int 0, .int 0, .int 0, .int 0, .int 0, .ref bt, .int 0, .int 0, .int 0])), (bt, .inl (cB, 300, .inl (fun _ => 0))), (hi, .inr (3, [.int 0, .ref t1, .ref t2, .int 0])), (sh, .inl (cT, 2, .inr (.inr (.inr (.inr (fun _ => none)))))), (z, .inr (12, [.ref tm, .int 0, .int 0, .int 0, .int 0, .int 0, .int 0, .int 0, .int 0, .ref a9, .ref nw, .ref a11, .ref a12, .int 0, .int 0, .int 0, .ref a16, .ref a17, .ref a18, .ref a19, .ref a20, .ref a21, .ref a22, .ref a23, .ref a24, .ref a25, .ref a26, .int 0, .ref a28, .ref a29, .ref a30, .ref a31, .ref a32, .ref a33, .int 0, .ref a35, .ref a36])), (tm, .inl (cM, 300, .inl (fun _ => 0))), (nw, .inl (cI, 12507, .inl (fun _ => 0)))] := hD
  have hK : va_K (dC, dI) vwCl [(cB, .byte), (cT, .object RX10), (cM, .byte), (cI, .int)] s := hK
  obtain rfl : r_1 = (-1) := hw
  refine lv_aload_n hx hb dL_law_716 rfl (lv_at hl 1 rfl) ?_
  refine lv_aload_n hx hb dL_law_717 rfl (lv_at hl 3 rfl) ?_
  refine lv_iload_n hx hb dL_law_718 rfl (lv_at hl 0 rfl) ?_
  refine lv_iconst (v := 1) hx hb dL_law_719 (by decide) ?_
  refine lv_iadd hx hb dL_law_720 ?_
  refine kz_topi (y := 1) (by decide) ?_
  refine va_sld hx hb hX hbl hbA hS (i := 1) (kz_in (by decide +kernel)) dL_law_721 ?_
  refine kz_topi (y := xs 1) (congrArg xs (by decide)) ?_
  refine lv_aload_n hx hb dL_law_722 rfl (lv_at hl 3 rfl) ?_
  refine lv_iload_n hx hb dL_law_723 rfl (lv_at hl 0 rfl) ?_
  refine lv_iconst (v := 2) hx hb dL_law_724 (by decide) ?_
  refine lv_iadd hx hb dL_law_725 ?_
  refine kz_topi (y := 2) (by decide) ?_
  refine va_sld hx hb hX hbl hbA hS (i := 2) (kz_in (by decide +kernel)) dL_law_726 ?_
  refine kz_topi (y := xs 2) (congrArg xs (by decide)) ?_
  refine lv_aload_n hx hb dL_law_727 rfl (lv_at hl 3 rfl) ?_
  refine lv_iload_n hx hb dL_law_728 rfl (lv_at hl 0 rfl) ?_
  refine lv_iconst (v := 3) hx hb dL_law_729 (by decide) ?_
  refine lv_iadd hx hb dL_law_730 ?_
  refine kz_topi (y := 3) (by decide) ?_
  refine va_sld hx hb hX hbl hbA hS (i := 3) (kz_in (by decide +kernel)) dL_law_731 ?_
  refine kz_topi (y := xs 3) (congrArg xs (by decide)) ?_
  refine lv_aload_n hx hb dL_law_732 rfl (lv_at hl 3 rfl) ?_
  refine lv_iload_n hx hb dL_law_733 rfl (lv_at hl 0 rfl) ?_
  refine lv_iconst (v := 4) hx hb dL_law_734 (by decide) ?_
  refine lv_iadd hx hb dL_law_735 ?_
  refine kz_topi (y := 4) (by decide) ?_
  refine va_sld hx hb hX hbl hbA hS (i := 4) (kz_in (by decide +kernel)) dL_law_736 ?_
  refine kz_topi (y := xs 4) (congrArg xs (by decide)) ?_
  refine lv_aload_n hx hb dL_law_737 rfl (lv_at hl 3 rfl) ?_
  refine lv_iload_n hx hb dL_law_738 rfl (lv_at hl 0 rfl) ?_
  refine lv_iconst (v := 5) hx hb dL_law_739 (by decide) ?_
  refine lv_iadd hx hb dL_law_740 ?_
  refine kz_topi (y := 5) (by decide) ?_
  refine va_sld hx hb hX hbl hbA hS (i := 5) (kz_in (by decide +kernel)) dL_law_741 ?_
  refine kz_topi (y := xs 5) (congrArg xs (by decide)) ?_
  have hPc := hP.sub (ws' := [(z, .inr (12, [.ref tm, .int 0, .int 0, .int 0, .int 0, .int 0, .int 0, .int 0, .int 0, .ref a9, .ref nw, .ref a11, .ref a12, .int 0, .int 0, .int 0, .ref a16, .ref a17, .ref a18, .ref a19, .ref a20, .ref a21, .ref a22, .ref a23, .ref a24, .ref a25, .ref a26, .int 0, .ref a28, .ref a29, .ref a30, .ref a31, .ref a32, .ref a33, .int 0, .ref a35, .ref a36]))]) [4] rfl
  have hDc := hD.sub (ws' := [(z, .inr (12, [.ref tm, .int 0, .int 0, .int 0, .int 0, .int 0, .int 0, .int 0, .int 0, .ref a9, .ref nw, .ref a11, .ref a12, .int 0, .int 0, .int 0, .ref a16, .ref a17, .ref a18, .ref a19, .ref a20, .ref a21, .ref a22, .ref a23, .ref a24, .ref a25, .ref a26, .int 0, .ref a28, .ref a29, .ref a30, .ref a31, .ref a32, .ref a33, .int 0, .ref a35, .ref a36]))]) [4] (by decide) rfl
  have hKc := hK.sub (tys' := []) [] rfl
  have hFc := va_free (wc := [(z, .inr (12, [.ref tm, .int 0, .int 0, .int 0, .int 0, .int 0, .int 0, .int 0, .int 0, .ref a9, .ref nw, .ref a11, .ref a12, .int 0, .int 0, .int 0, .ref a16, .ref a17, .ref a18, .ref a19, .ref a20, .ref a21, .ref a22, .ref a23, .ref a24, .ref a25, .ref a26, .int 0, .ref a28, .ref a29, .ref a30, .ref a31, .ref a32, .ref a33, .int 0, .ref a35, .ref a36]))]) hD hS hA [4] rfl
  refine va_calli (va_runV (As := [.int (xs 1), .int (xs 2), .int (xs 3), .int (xs 4), .int (xs 5)]) (rest := [.int (-1)]) ⟨hx, hb, hml, hown, hts⟩ (c_X12_window l dC dI (z) (tm) (a9) (nw) (a11) (a12) (a16) (a17) (a18) (a19) (a20) (a21) (a22) (a23) (a24) (a25) (a26) (a28) (a29) (a30) (a31) (a32) (a33) (a35) (a36) ((xs 1)) ((xs 2)) ((xs 3)) ((xs 4)) ((xs 5)) H.size) (cwV 5 hts (kz_gV qw_1139 qw_1140 qw_1141 qw_5 qw_1142) rfl rfl rfl (by decide +kernel) ⟨Nat.le_of_ble_eq_true rfl, Nat.le_of_ble_eq_true rfl⟩) (⟨(kz_preS hPc hKc hDc).1, (va_recv hKc hPc (ci := 12) (q0 := 0) rfl rfl), (kz_preS hPc hKc hDc).2⟩) rfl rfl hl.1 rfl (lv_room (Nat.le_of_ble_eq_true rfl)) dL_law_742 ⟨Nat.le_of_ble_eq_true rfl, Nat.le_of_ble_eq_true rfl⟩) hS (fun q _ h => hFc q h) hFc (fun r_3 u_4 t H1 locs ht hvm hw hB hz1 hk1 hS => ?_)
  try dsimp only at hw
  have hP1 : va_P (dC, dI) vwCl [] H1 := kz_P0
  have hD1 : va_D (va_A [(z, .inr (12, [.ref tm, .int 0, .int 0, .int 0, .int 0, .int 0, .int 0, .int 0, .int 0, .ref a9, .ref nw, .ref a11, .ref a12, .int 0, .int 0, .int 0, .ref a16, .ref a17, .ref a18, .ref a19, .ref a20, .ref a21, .ref a22, .ref a23, .ref a24, .ref a25, .ref a26, .int 0, .ref a28, .ref a29, .ref a30, .ref a31, .ref a32, .ref a33, .int 0, .ref a35, .ref a36]))] H.size) [] := kz_D0
  have hK1 : va_K (dC, dI) vwCl [] s := hK.sub [] rfl
  obtain ⟨hP, hD⟩ := va_join (wr := [(tp, .inr (8, [.ref i1, .ref i2, .int 0, .int 0, .int 0, .int 0, .int 0, .ref bt, .int 0, .int 0, .int 0])), (bt, .inl (cB, 300, .inl (fun _ => 0))), (hi, .inr (3, [.int 0, .ref t1, .ref t2, .int 0])), (sh, .inl (cT, 2, .inr (.inr (.inr (.inr (fun _ => none)))))), (tm, .inl (cM, 300, .inl (fun _ => 0))), (nw, .inl (cI, 12507, .inl (fun _ => 0)))]) (w1 := []) hP hD [4] [0, 1, 2, 3, 5, 6] rfl rfl (by decide) (by decide) hk1 hFc hP1 hD1
  have hK := (hK.sub (tys' := [(cB, .byte), (cT, .object RX10), (cM, .byte), (cI, .int)]) [0, 1, 2, 3] rfl).app hK1
  generalize H1 = H at hP hS ⊢
  have hP : va_P (dC, dI) vwCl [(tp, .inr (8, [.ref i1, .ref i2, .int 0, .int 0, .int 0, .int 0, .int 0, .ref bt, .int 0, .int 0, .int 0])), (bt, .inl (cB, 300, .inl (fun _ => 0))), (hi, .inr (3, [.int 0, .ref t1, .ref t2, .int 0])), (sh, .inl (cT, 2, .inr (.inr (.inr (.inr (fun _ => none)))))), (tm, .inl (cM, 300, .inl (fun _ => 0))), (nw, .inl (cI, 12507, .inl (fun _ => 0)))] H := hP
  have hD : va_D (fun q : Nat => s.heap.size ≤ q) [(tp, .inr (8, [.ref i1, .ref i2, .int 0, .int 0, .int 0, .int 0, .int 0, .ref bt, .int 0, .int 0, .int 0])), (bt, .inl (cB, 300, .inl (fun _ => 0))), (hi, .inr (3, [.int 0, .ref t1, .ref t2, .int 0])), (sh, .inl (cT, 2, .inr (.inr (.inr (.inr (fun _ => none)))))), (tm, .inl (cM, 300, .inl (fun _ => 0))), (nw, .inl (cI, 12507, .inl (fun _ => 0)))] := hD
  have hK : va_K (dC, dI) vwCl [(cB, .byte), (cT, .object RX10), (cM, .byte), (cI, .int)] s := hK
  obtain rfl : r_3 = (-1) := hw
  refine lv_icmp_eq (tgt := 971) hx hb dL_law_745 (by decide) (fun _ => ?_) (fun c9 => absurd (by decide) c9)
  exact law_tail C00 hS (lv_sub hl [0, 3] rfl)
