set_option maxHeartbeats 4000000 in
set_option maxRecDepth 100000 in
theorem law_0 {p : Program} {l : Launch} {e : Env} {s : State} {m : MethodId} {below : List Frame} {meth : Method} {c : Code} {b : Nat} {xs : Nat → Int32} {dC : Nat → ClassId} {dI : Nat → Nat → Nat} {x tp hi sh g3 g4 g5 g6 g7 g8 g9 i1 i2 bt t1 t2 z tm a9 nw a11 a12 a16 a17 a18 a19 a20 a21 a22 a23 a24 a25 a26 a28 a29 a30 a31 a32 a33 a35 a36 : Nat} {cB cT cM cI : ClassId} (C00 : lw_At p s m meth c b 6 xs) (hK : va_K (dC, dI) vwCl [(cB, .byte), (cT, .object RX10), (cM, .byte), (cI, .int)] s) {H : Heap} {locs : List Loc} (hP : va_P (dC, dI) vwCl [(x, .inr (11, [.ref tp, .ref hi, .ref sh, .ref g3, .ref g4, .ref g5, .ref g6, .ref g7, .ref g8, .ref g9, .int 0, .int 0])), (tp, .inr (8, [.ref i1, .ref i2, .int 0, .int 0, .int 0, .int 0, .int 0, .ref bt, .int 0, .int 0, .int 0])), (bt, .inl (cB, 300, .inl (fun _ => 0))), (hi, .inr (3, [.int 0, .ref t1, .ref t2, .int 0])), (sh, .inl (cT, 2, .inr (.inr (.inr (.inr (fun _ => none)))))), (z, .inr (12, [.ref tm, .int 0, .int 0, .int 0, .int 0, .int 0, .int 0, .int 0, .int 0, .ref a9, .ref nw, .ref a11, .ref a12, .int 0, .int 0, .int 0, .ref a16, .ref a17, .ref a18, .ref a19, .ref a20, .ref a21, .ref a22, .ref a23, .ref a24, .ref a25, .ref a26, .int 0, .ref a28, .ref a29, .ref a30, .ref a31, .ref a32, .ref a33, .int 0, .ref a35, .ref a36])), (tm, .inl (cM, 300, .inl (fun _ => 0))), (nw, .inl (cI, 12507, .inl (fun _ => 0)))] H) (hD : va_D (fun q : Nat => s.heap.size ≤ q) [(x, .inr (11, [.ref tp, .ref hi, .ref sh, .ref g3, .ref g4, .ref g5, .ref g6, .ref g7, .ref g8, .ref g9, .int 0, .int 0])), (tp, .inr (8, [.ref i1, .ref i2, .int 0, .int 0, .int 0, .int 0, .int 0, .ref bt, .int 0, .int 0, .int 0])), (bt, .inl (cB, 300, .inl (fun _ => 0))), (hi, .inr (3, [.int 0, .ref t1, .ref t2, .int 0])), (sh, .inl (cT, 2, .inr (.inr (.inr (.inr (fun _ => none)))))), (z, .inr (12, [.ref tm, .int 0, .int 0, .int 0, .int 0, .int 0, .int 0, .int 0, .int 0, .ref a9, .ref nw, .ref a11, .ref a12, .int 0, .int 0, .int 0, .ref a16, .ref a17, .ref a18, .ref a19, .ref a20, .ref a21, .ref a22, .ref a23, .ref a24, .ref a25, .ref a26, .int 0, .ref a28, .ref a29, .ref a30, .ref a31, .ref a32, .ref a33, .int 0, .ref a35, .ref a36])), (tm, .inl (cM, 300, .inl (fun _ => 0))), (nw, .inl (cI, 12507, .inl (fun _ => 0)))]) (hS : va_S (fun q : Nat => s.heap.size ≤ q) s.heap H locs) {ls : Array Slot} (hl : lv_has ls 4 [(3, .int 0), (2, .ref z), (1, .ref x), (0, .ref b)]) : W p l e room_1 s m #[Value.ref b] below meth c H locs 80 147144 (lw_Z below #[Value.ref b] s) (F0 m 156 ls []) := by
  obtain ⟨hx, hb, hr, hml, hown, hts, hX, hbl, hlocks, hgv⟩ := id C00
  have hts : ∀ w ∈ wsU, w.before #[Value.ref b] s = true := fun w h => hts w (wsU_in w h)
  have hown : s.vm.findClass RL = some m.cls := hown
  have hA : ∀ q : Nat, s.heap.size ≤ q → (fun q : Nat => s.heap.size ≤ q) q := fun _ h => h
  have hbA : ¬ (fun q : Nat => s.heap.size ≤ q) b := Nat.not_le.mpr hbl
  refine lv_aload_n hx hb dL_law_156 rfl (lv_at hl 2 rfl) ?_
  refine lv_aload_n hx hb dL_law_157 rfl (lv_at hl 3 rfl) ?_
  refine lv_iload_n hx hb dL_law_158 rfl (lv_at hl 0 rfl) ?_
  refine lv_iconst (v := 1) hx hb dL_law_159 (by decide) ?_
  refine lv_iadd hx hb dL_law_160 ?_
  refine kz_topi (y := 1) (by decide) ?_
  refine va_sld hx hb hX hbl hbA hS (i := 1) (kz_in (by decide +kernel)) dL_law_161 ?_
  refine kz_topi (y := xs 1) (congrArg xs (by decide)) ?_
  refine lv_aload_n hx hb dL_law_162 rfl (lv_at hl 3 rfl) ?_
  refine lv_iload_n hx hb dL_law_163 rfl (lv_at hl 0 rfl) ?_
  refine lv_iconst (v := 2) hx hb dL_law_164 (by decide) ?_
  refine lv_iadd hx hb dL_law_165 ?_
  refine kz_topi (y := 2) (by decide) ?_
  refine va_sld hx hb hX hbl hbA hS (i := 2) (kz_in (by decide +kernel)) dL_law_166 ?_
  refine kz_topi (y := xs 2) (congrArg xs (by decide)) ?_
  refine lv_aload_n hx hb dL_law_167 rfl (lv_at hl 3 rfl) ?_
  refine lv_iload_n hx hb dL_law_168 rfl (lv_at hl 0 rfl) ?_
  refine lv_iconst (v := 3) hx hb dL_law_169 (by decide) ?_
  refine lv_iadd hx hb dL_law_170 ?_
  refine kz_topi (y := 3) (by decide) ?_
  refine va_sld hx hb hX hbl hbA hS (i := 3) (kz_in (by decide +kernel)) dL_law_171 ?_
  refine kz_topi (y := xs 3) (congrArg xs (by decide)) ?_
  refine lv_aload_n hx hb dL_law_172 rfl (lv_at hl 3 rfl) ?_
  refine lv_iload_n hx hb dL_law_173 rfl (lv_at hl 0 rfl) ?_
  refine lv_iconst (v := 4) hx hb dL_law_174 (by decide) ?_
  refine lv_iadd hx hb dL_law_175 ?_
  refine kz_topi (y := 4) (by decide) ?_
  refine va_sld hx hb hX hbl hbA hS (i := 4) (kz_in (by decide +kernel)) dL_law_176 ?_
  refine kz_topi (y := xs 4) (congrArg xs (by decide)) ?_
  refine lv_aload_n hx hb dL_law_177 rfl (lv_at hl 3 rfl) ?_
  refine lv_iload_n hx hb dL_law_178 rfl (lv_at hl 0 rfl) ?_
  refine lv_iconst (v := 5) hx hb dL_law_179 (by decide) ?_
  refine lv_iadd hx hb dL_law_180 ?_
  refine kz_topi (y := 5) (by decide) ?_
  refine va_sld hx hb hX hbl hbA hS (i := 5) (kz_in (by decide +kernel)) dL_law_181 ?_
  refine kz_topi (y := xs 5) (congrArg xs (by decide)) ?_
  have hPc := hP.sub (ws' := [(x, .inr (11, [.ref tp, .ref hi, .ref sh, .ref g3, .ref g4, .ref g5, .ref g6, .ref g7, .ref g8, .ref g9, .int 0, .int 0])), (tp, .inr (8, [.ref i1, .ref i2, .int 0, .int 0, .int 0, .int 0, .int 0, .ref bt, .int 0, .int 0, .int 0])), (bt, .inl (cB, 300, .inl (fun _ => 0)))]) [0, 1, 2] rfl
  have hDc := hD.sub (ws' := [(x, .inr (11, [.ref tp, .ref hi, .ref sh, .ref g3, .ref g4, .ref g5, .ref g6, .ref g7, .ref g8, .ref g9, .int 0, .int 0])), (tp, .inr (8, [.ref i1, .ref i2, .int 0, .int 0, .int 0, .int 0, .int 0, .ref bt, .int 0, .int 0, .int 0])), (bt, .inl (cB, 300, .inl (fun _ => 0)))]) [0, 1, 2] (by decide) rfl
  have hKc := hK.sub (tys' := [(cB, .byte)]) [0] rfl
  have hFc := va_free (wc := [(x, .inr (11, [.ref tp, .ref hi, .ref sh, .ref g3, .ref g4, .ref g5, .ref g6, .ref g7, .ref g8, .ref g9, .int 0, .int 0])), (tp, .inr (8, [.ref i1, .ref i2, .int 0, .int 0, .int 0, .int 0, .int 0, .ref bt, .int 0, .int 0, .int 0])), (bt, .inl (cB, 300, .inl (fun _ => 0)))]) hD hS hA [0, 1, 2] rfl
  refine va_calli (va_runV (As := [.int (xs 1), .int (xs 2), .int (xs 3), .int (xs 4), .int (xs 5)]) (rest := []) ⟨hx, hb, hml, hown, hts⟩ (c_X11_feed l dC dI (x) (tp) (hi) (sh) (g3) (g4) (g5) (g6) (g7) (g8) (g9) (i1) (i2) (bt) (cB) ((xs 1)) ((xs 2)) ((xs 3)) ((xs 4)) ((xs 5)) H.size) (cwV 5 hts (kz_gV qw_182 qw_183 qw_184 qw_2 qw_185) rfl rfl rfl (by decide +kernel) ⟨Nat.le_of_ble_eq_true rfl, Nat.le_of_ble_eq_true rfl⟩) (⟨(kz_preS hPc hKc hDc).1, (va_recv hKc hPc (ci := 11) (q0 := 0) rfl rfl), (kz_preS hPc hKc hDc).2⟩) rfl rfl hl.1 rfl (lv_room (Nat.le_of_ble_eq_true rfl)) dL_law_182 ⟨Nat.le_of_ble_eq_true rfl, Nat.le_of_ble_eq_true rfl⟩) hS (fun q _ h => hFc q h) hFc (fun r_1 u_2 t H1 locs ht hvm hw hB hz1 hk1 hS => ?_)
  try dsimp only at hw
  have hP1 : va_P (dC, dI) vwCl [] H1 := kz_P0
  have hD1 : va_D (va_A [(x, .inr (11, [.ref tp, .ref hi, .ref sh, .ref g3, .ref g4, .ref g5, .ref g6, .ref g7, .ref g8, .ref g9, .int 0, .int 0])), (tp, .inr (8, [.ref i1, .ref i2, .int 0, .int 0, .int 0, .int 0, .int 0, .ref bt, .int 0, .int 0, .int 0])), (bt, .inl (cB, 300, .inl (fun _ => 0)))] H.size) [] := kz_D0
  have hK1 : va_K (dC, dI) vwCl [] s := hK.sub [] rfl
  obtain ⟨hP, hD⟩ := va_join (wr := [(hi, .inr (3, [.int 0, .ref t1, .ref t2, .int 0])), (sh, .inl (cT, 2, .inr (.inr (.inr (.inr (fun _ => none)))))), (z, .inr (12, [.ref tm, .int 0, .int 0, .int 0, .int 0, .int 0, .int 0, .int 0, .int 0, .ref a9, .ref nw, .ref a11, .ref a12, .int 0, .int 0, .int 0, .ref a16, .ref a17, .ref a18, .ref a19, .ref a20, .ref a21, .ref a22, .ref a23, .ref a24, .ref a25, .ref a26, .int 0, .ref a28, .ref a29, .ref a30, .ref a31, .ref a32, .ref a33, .int 0, .ref a35, .ref a36])), (tm, .inl (cM, 300, .inl (fun _ => 0))), (nw, .inl (cI, 12507, .inl (fun _ => 0)))]) (w1 := []) hP hD [0, 1, 2] [3, 4, 5, 6, 7] rfl rfl (by decide) (by decide) hk1 hFc hP1 hD1
  have hK := (hK.sub (tys' := [(cT, .object RX10), (cM, .byte), (cI, .int)]) [1, 2, 3] rfl).app hK1
  generalize H1 = H at hP hS ⊢
  have hP : va_P (dC, dI) vwCl [(hi, .inr (3, [.int 0, .ref t1, .ref t2, .int 0])), (sh, .inl (cT, 2, .inr (.inr (.inr (.inr (fun _ => none)))))), (z, .inr (12, [.ref tm, .int 0, .int 0, .int 0, .int 0, .int 0, .int 0, .int 0, .int 0, .ref a9, .ref nw, .ref a11, .ref a12, .int 0, .int 0, .int 0, .ref a16, .ref a17, .ref a18, .ref a19, .ref a20, .ref a21, .ref a22, .ref a23, .ref a24, .ref a25, .ref a26, .int 0, .ref a28, .ref a29, .ref a30, .ref a31, .ref a32, .ref a33, .int 0, .ref a35, .ref a36])), (tm, .inl (cM, 300, .inl (fun _ => 0))), (nw, .inl (cI, 12507, .inl (fun _ => 0)))] H := hP
  have hD : va_D (fun q : Nat => s.heap.size ≤ q) [(hi, .inr (3, [.int 0, .ref t1, .ref t2, .int 0])), (sh, .inl (cT, 2, .inr (.inr (.inr (.inr (fun _ => none)))))), (z, .inr (12, [.ref tm, .int 0, .int 0, .int 0, .int 0, .int 0, .int 0, .int 0, .int 0, .ref a9, .ref nw, .ref a11, .ref a12, .int 0, .int 0, .int 0, .ref a16, .ref a17, .ref a18, .ref a19, .ref a20, .ref a21, .ref a22, .ref a23, .ref a24, .ref a25, .ref a26, .int 0, .ref a28, .ref a29, .ref a30, .ref a31, .ref a32, .ref a33, .int 0, .ref a35, .ref a36])), (tm, .inl (cM, 300, .inl (fun _ => 0))), (nw, .inl (cI, 12507, .inl (fun _ => 0)))] := hD
  have hK : va_K (dC, dI) vwCl [(cT, .object RX10), (cM, .byte), (cI, .int)] s := hK
  obtain rfl : r_1 = 20 := hw
  refine lv_aload_n hx hb dL_law_185 rfl (lv_at hl 1 rfl) ?_
  refine lv_aload_n hx hb dL_law_186 rfl (lv_at hl 3 rfl) ?_
  refine lv_iload_n hx hb dL_law_187 rfl (lv_at hl 0 rfl) ?_
  refine lv_iconst (v := 1) hx hb dL_law_188 (by decide) ?_
  refine lv_iadd hx hb dL_law_189 ?_
  refine kz_topi (y := 1) (by decide) ?_
  refine va_sld hx hb hX hbl hbA hS (i := 1) (kz_in (by decide +kernel)) dL_law_190 ?_
  refine kz_topi (y := xs 1) (congrArg xs (by decide)) ?_
  refine lv_aload_n hx hb dL_law_191 rfl (lv_at hl 3 rfl) ?_
  refine lv_iload_n hx hb dL_law_192 rfl (lv_at hl 0 rfl) ?_
  refine lv_iconst (v := 2) hx hb dL_law_193 (by decide) ?_
  refine lv_iadd hx hb dL_law_194 ?_
  refine kz_topi (y := 2) (by decide) ?_
  refine va_sld hx hb hX hbl hbA hS (i := 2) (kz_in (by decide +kernel)) dL_law_195 ?_
  refine kz_topi (y := xs 2) (congrArg xs (by decide)) ?_
  refine lv_aload_n hx hb dL_law_196 rfl (lv_at hl 3 rfl) ?_
  refine lv_iload_n hx hb dL_law_197 rfl (lv_at hl 0 rfl) ?_
  refine lv_iconst (v := 3) hx hb dL_law_198 (by decide) ?_
  refine lv_iadd hx hb dL_law_199 ?_
  refine kz_topi (y := 3) (by decide) ?_
  refine va_sld hx hb hX hbl hbA hS (i := 3) (kz_in (by decide +kernel)) dL_law_200 ?_
  refine kz_topi (y := xs 3) (congrArg xs (by decide)) ?_
  refine lv_aload_n hx hb dL_law_201 rfl (lv_at hl 3 rfl) ?_
  refine lv_iload_n hx hb dL_law_202 rfl (lv_at hl 0 rfl) ?_
  refine lv_iconst (v := 4) hx hb dL_law_203 (by decide) ?_
  refine lv_iadd hx hb dL_law_204 ?_
  refine kz_topi (y := 4) (by decide) ?_
  refine va_sld hx hb hX hbl hbA hS (i := 4) (kz_in (by decide +kernel)) dL_law_205 ?_
  refine kz_topi (y := xs 4) (congrArg xs (by decide)) ?_
  refine lv_aload_n hx hb dL_law_206 rfl (lv_at hl 3 rfl) ?_
  refine lv_iload_n hx hb dL_law_207 rfl (lv_at hl 0 rfl) ?_
  refine lv_iconst (v := 5) hx hb dL_law_208 (by decide) ?_
  refine lv_iadd hx hb dL_law_209 ?_
  refine kz_topi (y := 5) (by decide) ?_
  refine va_sld hx hb hX hbl hbA hS (i := 5) (kz_in (by decide +kernel)) dL_law_210 ?_
  refine kz_topi (y := xs 5) (congrArg xs (by decide)) ?_
  have hPc := hP.sub (ws' := [(z, .inr (12, [.ref tm, .int 0, .int 0, .int 0, .int 0, .int 0, .int 0, .int 0, .int 0, .ref a9, .ref nw, .ref a11, .ref a12, .int 0, .int 0, .int 0, .ref a16, .ref a17, .ref a18, .ref a19, .ref a20, .ref a21, .ref a22, .ref a23, .ref a24, .ref a25, .ref a26, .int 0, .ref a28, .ref a29, .ref a30, .ref a31, .ref a32, .ref a33, .int 0, .ref a35, .ref a36])), (tm, .inl (cM, 300, .inl (fun _ => 0)))]) [2, 3] rfl
  have hDc := hD.sub (ws' := [(z, .inr (12, [.ref tm, .int 0, .int 0, .int 0, .int 0, .int 0, .int 0, .int 0, .int 0, .ref a9, .ref nw, .ref a11, .ref a12, .int 0, .int 0, .int 0, .ref a16, .ref a17, .ref a18, .ref a19, .ref a20, .ref a21, .ref a22, .ref a23, .ref a24, .ref a25, .ref a26, .int 0, .ref a28, .ref a29, .ref a30, .ref a31, .ref a32, .ref a33, .int 0, .ref a35, .ref a36])), (tm, .inl (cM, 300, .inl (fun _ => 0)))]) [2, 3] (by decide) rfl
  have hKc := hK.sub (tys' := [(cM, .byte)]) [1] rfl
  have hFc := va_free (wc := [(z, .inr (12, [.ref tm, .int 0, .int 0, .int 0, .int 0, .int 0, .int 0, .int 0, .int 0, .ref a9, .ref nw, .ref a11, .ref a12, .int 0, .int 0, .int 0, .ref a16, .ref a17, .ref a18, .ref a19, .ref a20, .ref a21, .ref a22, .ref a23, .ref a24, .ref a25, .ref a26, .int 0, .ref a28, .ref a29, .ref a30, .ref a31, .ref a32, .ref a33, .int 0, .ref a35, .ref a36])), (tm, .inl (cM, 300, .inl (fun _ => 0)))]) hD hS hA [2, 3] rfl
  refine va_calli (va_runV (As := [.int (xs 1), .int (xs 2), .int (xs 3), .int (xs 4), .int (xs 5)]) (rest := [.int 20]) ⟨hx, hb, hml, hown, hts⟩ (c_X12_feed l dC dI (z) (tm) (a9) (nw) (a11) (a12) (a16) (a17) (a18) (a19) (a20) (a21) (a22) (a23) (a24) (a25) (a26) (a28) (a29) (a30) (a31) (a32) (a33) (a35) (a36) (cM) ((xs 1)) ((xs 2)) ((xs 3)) ((xs 4)) ((xs 5)) H.size) (cwV 5 hts (kz_gV qw_195 qw_196 qw_197 qw_5 qw_198) rfl rfl rfl (by decide +kernel) ⟨Nat.le_of_ble_eq_true rfl, Nat.le_of_ble_eq_true rfl⟩) (⟨(kz_preS hPc hKc hDc).1, (va_recv hKc hPc (ci := 12) (q0 := 0) rfl rfl), (kz_preS hPc hKc hDc).2⟩) rfl rfl hl.1 rfl (lv_room (Nat.le_of_ble_eq_true rfl)) dL_law_211 ⟨Nat.le_of_ble_eq_true rfl, Nat.le_of_ble_eq_true rfl⟩) hS (fun q _ h => hFc q h) hFc (fun r_3 u_4 t H1 locs ht hvm hw hB hz1 hk1 hS => ?_)
  try dsimp only at hw
  have hP1 : va_P (dC, dI) vwCl [] H1 := kz_P0
  have hD1 : va_D (va_A [(z, .inr (12, [.ref tm, .int 0, .int 0, .int 0, .int 0, .int 0, .int 0, .int 0, .int 0, .ref a9, .ref nw, .ref a11, .ref a12, .int 0, .int 0, .int 0, .ref a16, .ref a17, .ref a18, .ref a19, .ref a20, .ref a21, .ref a22, .ref a23, .ref a24, .ref a25, .ref a26, .int 0, .ref a28, .ref a29, .ref a30, .ref a31, .ref a32, .ref a33, .int 0, .ref a35, .ref a36])), (tm, .inl (cM, 300, .inl (fun _ => 0)))] H.size) [] := kz_D0
  have hK1 : va_K (dC, dI) vwCl [] s := hK.sub [] rfl
  obtain ⟨hP, hD⟩ := va_join (wr := [(hi, .inr (3, [.int 0, .ref t1, .ref t2, .int 0])), (sh, .inl (cT, 2, .inr (.inr (.inr (.inr (fun _ => none)))))), (nw, .inl (cI, 12507, .inl (fun _ => 0)))]) (w1 := []) hP hD [2, 3] [0, 1, 4] rfl rfl (by decide) (by decide) hk1 hFc hP1 hD1
  have hK := (hK.sub (tys' := [(cT, .object RX10), (cI, .int)]) [0, 2] rfl).app hK1
  generalize H1 = H at hP hS ⊢
  have hP : va_P (dC, dI) vwCl [(hi, .inr (3, [.int 0, .ref t1, .ref t2, .int 0])), (sh, .inl (cT, 2, .inr (.inr (.inr (.inr (fun _ => none)))))), (nw, .inl (cI, 12507, .inl (fun _ => 0)))] H := hP
  have hD : va_D (fun q : Nat => s.heap.size ≤ q) [(hi, .inr (3, [.int 0, .ref t1, .ref t2, .int 0])), (sh, .inl (cT, 2, .inr (.inr (.inr (.inr (fun _ => none)))))), (nw, .inl (cI, 12507, .inl (fun _ => 0)))] := hD
  have hK : va_K (dC, dI) vwCl [(cT, .object RX10), (cI, .int)] s := hK
  obtain rfl : r_3 = 20 := hw
  refine lv_icmp_eq (tgt := 971) hx hb dL_law_214 (by decide) (fun _ => ?_) (fun c9 => absurd (by decide) c9)
  exact law_tail C00 hS (lv_sub hl [0, 3] rfl)
set_option maxHeartbeats 4000000 in
set_option maxRecDepth 100000 in
theorem law_1 {p : Program} {l : Launch} {e : Env} {s : State} {m : MethodId} {below : List Frame} {meth : Method} {c : Code} {b : Nat} {xs : Nat → Int32} {dC : Nat → ClassId} {dI : Nat → Nat → Nat} {x tp hi sh g3 g4 g5 g6 g7 g8 g9 i1 i2 bt t1 t2 z tm a9 nw a11 a12 a16 a17 a18 a19 a20 a21 a22 a23 a24 a25 a26 a28 a29 a30 a31 a32 a33 a35 a36 : Nat} {cB cT cM cI : ClassId} (C00 : lw_At p s m meth c b 6 xs) (hK : va_K (dC, dI) vwCl [(cB, .byte), (cT, .object RX10), (cM, .byte), (cI, .int)] s) {H : Heap} {locs : List Loc} (hP : va_P (dC, dI) vwCl [(x, .inr (11, [.ref tp, .ref hi, .ref sh, .ref g3, .ref g4, .ref g5, .ref g6, .ref g7, .ref g8, .ref g9, .int 0, .int 0])), (tp, .inr (8, [.ref i1, .ref i2, .int 0, .int 0, .int 0, .int 0, .int 0, .ref bt, .int 0, .int 0, .int 0])), (bt, .inl (cB, 300, .inl (fun _ => 0))), (hi, .inr (3, [.int 0, .ref t1, .ref t2, .int 0])), (sh, .inl (cT, 2, .inr (.inr (.inr (.inr (fun _ => none)))))), (z, .inr (12, [.ref tm, .int 0, .int 0, .int 0, .int 0, .int 0, .int 0, .int 0, .int 0, .ref a9, .ref nw, .ref a11, .ref a12, .int 0, .int 0, .int 0, .ref a16, .ref a17, .ref a18, .ref a19, .ref a20, .ref a21, .ref a22, .ref a23, .ref a24, .ref a25, .ref a26, .int 0, .ref a28, .ref a29, .ref a30, .ref a31, .ref a32, .ref a33, .int 0, .ref a35, .ref a36])), (tm, .inl (cM, 300, .inl (fun _ => 0))), (nw, .inl (cI, 12507, .inl (fun _ => 0)))] H) (hD : va_D (fun q : Nat => s.heap.size ≤ q) [(x, .inr (11, [.ref tp, .ref hi, .ref sh, .ref g3, .ref g4, .ref g5, .ref g6, .ref g7, .ref g8, .ref g9, .int 0, .int 0])), (tp, .inr (8, [.ref i1, .ref i2, .int 0, .int 0, .int 0, .int 0, .int 0, .ref bt, .int 0, .int 0, .int 0])), (bt, .inl (cB, 300, .inl (fun _ => 0))), (hi, .inr (3, [.int 0, .ref t1, .ref t2, .int 0])), (sh, .inl (cT, 2, .inr (.inr (.inr (.inr (fun _ => none)))))), (z, .inr (12, [.ref tm, .int 0, .int 0, .int 0, .int 0, .int 0, .int 0, .int 0, .int 0, .ref a9, .ref nw, .ref a11, .ref a12, .int 0, .int 0, .int 0, .ref a16, .ref a17, .ref a18, .ref a19, .ref a20, .ref a21, .ref a22, .ref a23, .ref a24, .ref a25, .ref a26, .int 0, .ref a28, .ref a29, .ref a30, .ref a31, .ref a32, .ref a33, .int 0, .ref a35, .ref a36])), (tm, .inl (cM, 300, .inl (fun _ => 0))), (nw, .inl (cI, 12507, .inl (fun _ => 0)))]) (hS : va_S (fun q : Nat => s.heap.size ≤ q) s.heap H locs) {ls : Array Slot} (hl : lv_has ls 4 [(3, .int 0), (2, .ref z), (1, .ref x), (0, .ref b)]) : W p l e room_1 s m #[Value.ref b] below meth c H locs 80 147144 (lw_Z below #[Value.ref b] s) (F0 m 219 ls []) := by
  obtain ⟨hx, hb, hr, hml, hown, hts, hX, hbl, hlocks, hgv⟩ := id C00
  have hts : ∀ w ∈ wsU, w.before #[Value.ref b] s = true := fun w h => hts w (wsU_in w h)
  have hown : s.vm.findClass RL = some m.cls := hown
  have hA : ∀ q : Nat, s.heap.size ≤ q → (fun q : Nat => s.heap.size ≤ q) q := fun _ h => h
  have hbA : ¬ (fun q : Nat => s.heap.size ≤ q) b := Nat.not_le.mpr hbl
  refine lv_aload_n hx hb dL_law_219 rfl (lv_at hl 2 rfl) ?_
  refine lv_aload_n hx hb dL_law_220 rfl (lv_at hl 3 rfl) ?_
  refine lv_iload_n hx hb dL_law_221 rfl (lv_at hl 0 rfl) ?_
  refine lv_iconst (v := 1) hx hb dL_law_222 (by decide) ?_
  refine lv_iadd hx hb dL_law_223 ?_
  refine kz_topi (y := 1) (by decide) ?_
  refine va_sld hx hb hX hbl hbA hS (i := 1) (kz_in (by decide +kernel)) dL_law_224 ?_
  refine kz_topi (y := xs 1) (congrArg xs (by decide)) ?_
  have hPc := hP.sub (ws' := [(x, .inr (11, [.ref tp, .ref hi, .ref sh, .ref g3, .ref g4, .ref g5, .ref g6, .ref g7, .ref g8, .ref g9, .int 0, .int 0])), (tp, .inr (8, [.ref i1, .ref i2, .int 0, .int 0, .int 0, .int 0, .int 0, .ref bt, .int 0, .int 0, .int 0]))]) [0, 1] rfl
  have hDc := hD.sub (ws' := [(x, .inr (11, [.ref tp, .ref hi, .ref sh, .ref g3, .ref g4, .ref g5, .ref g6, .ref g7, .ref g8, .ref g9, .int 0, .int 0])), (tp, .inr (8, [.ref i1, .ref i2, .int 0, .int 0, .int 0, .int 0, .int 0, .ref bt, .int 0, .int 0, .int 0]))]) [0, 1] (by decide) rfl
  have hKc := hK.sub (tys' := []) [] rfl
  have hFc := va_free (wc := [(x, .inr (11, [.ref tp, .ref hi, .ref sh, .ref g3, .ref g4, .ref g5, .ref g6, .ref g7, .ref g8, .ref g9, .int 0, .int 0])), (tp, .inr (8, [.ref i1, .ref i2, .int 0, .int 0, .int 0, .int 0, .int 0, .ref bt, .int 0, .int 0, .int 0]))]) hD hS hA [0, 1] rfl
  refine va_calli (va_runV (As := [.int (xs 1)]) (rest := []) ⟨hx, hb, hml, hown, hts⟩ (c_X11_end l dC dI (x) (tp) (hi) (sh) (g3) (g4) (g5) (g6) (g7) (g8) (g9) (i1) (i2) (bt) ((xs 1)) H.size) (cwV 1 hts (kz_gV qw_204 qw_205 qw_206 qw_2 qw_207) rfl rfl rfl (by decide +kernel) ⟨Nat.le_of_ble_eq_true rfl, Nat.le_of_ble_eq_true rfl⟩) (⟨(kz_preS hPc hKc hDc).1, (va_recv hKc hPc (ci := 11) (q0 := 0) rfl rfl), (kz_preS hPc hKc hDc).2⟩) rfl rfl hl.1 rfl (lv_room (Nat.le_of_ble_eq_true rfl)) dL_law_225 ⟨Nat.le_of_ble_eq_true rfl, Nat.le_of_ble_eq_true rfl⟩) hS (fun q _ h => hFc q h) hFc (fun r_1 u_2 t H1 locs ht hvm hw hB hz1 hk1 hS => ?_)
  try dsimp only at hw
  have hP1 : va_P (dC, dI) vwCl [] H1 := kz_P0
  have hD1 : va_D (va_A [(x, .inr (11, [.ref tp, .ref hi, .ref sh, .ref g3, .ref g4, .ref g5, .ref g6, .ref g7, .ref g8, .ref g9, .int 0, .int 0])), (tp, .inr (8, [.ref i1, .ref i2, .int 0, .int 0, .int 0, .int 0, .int 0, .ref bt, .int 0, .int 0, .int 0]))] H.size) [] := kz_D0
  have hK1 : va_K (dC, dI) vwCl [] s := hK.sub [] rfl
  obtain ⟨hP, hD⟩ := va_join (wr := [(bt, .inl (cB, 300, .inl (fun _ => 0))), (hi, .inr (3, [.int 0, .ref t1, .ref t2, .int 0])), (sh, .inl (cT, 2, .inr (.inr (.inr (.inr (fun _ => none)))))), (z, .inr (12, [.ref tm, .int 0, .int 0, .int 0, .int 0, .int 0, .int 0, .int 0, .int 0, .ref a9, .ref nw, .ref a11, .ref a12, .int 0, .int 0, .int 0, .ref a16, .ref a17, .ref a18, .ref a19, .ref a20, .ref a21, .ref a22, .ref a23, .ref a24, .ref a25, .ref a26, .int 0, .ref a28, .ref a29, .ref a30, .ref a31, .ref a32, .ref a33, .int 0, .ref a35, .ref a36])), (tm, .inl (cM, 300, .inl (fun _ => 0))), (nw, .inl (cI, 12507, .inl (fun _ => 0)))]) (w1 := []) hP hD [0, 1] [2, 3, 4, 5, 6, 7] rfl rfl (by decide) (by decide) hk1 hFc hP1 hD1
  have hK := (hK.sub (tys' := [(cB, .byte), (cT, .object RX10), (cM, .byte), (cI, .int)]) [0, 1, 2, 3] rfl).app hK1
  generalize H1 = H at hP hS ⊢
  have hP : va_P (dC, dI) vwCl [(bt, .inl (cB, 300, .inl (fun _ => 0))), (hi, .inr (3, [.int 0, .ref t1, .ref t2, .int 0])), (sh, .inl (cT, 2, .inr (.inr (.inr (.inr (fun _ => none)))))), (z, .inr (12, [.ref tm, .int 0, .int 0, .int 0, .int 0, .int 0, .int 0, .int 0, .int 0, .ref a9, .ref nw, .ref a11, .ref a12, .int 0, .int 0, .int 0, .ref a16, .ref a17, .ref a18, .ref a19, .ref a20, .ref a21, .ref a22, .ref a23, .ref a24, .ref a25, .ref a26, .int 0, .ref a28, .ref a29, .ref a30, .ref a31, .ref a32, .ref a33, .int 0, .ref a35, .ref a36])), (tm, .inl (cM, 300, .inl (fun _ => 0))), (nw, .inl (cI, 12507, .inl (fun _ => 0)))] H := hP
  have hD : va_D (fun q : Nat => s.heap.size ≤ q) [(bt, .inl (cB, 300, .inl (fun _ => 0))), (hi, .inr (3, [.int 0, .ref t1, .ref t2, .int 0])), (sh, .inl (cT, 2, .inr (.inr (.inr (.inr (fun _ => none)))))), (z, .inr (12, [.ref tm, .int 0, .int 0, .int 0, .int 0, .int 0, .int 0, .int 0, .int 0, .ref a9, .ref nw, .ref a11, .ref a12, .int 0, .int 0, .int 0, .ref a16, .ref a17, .ref a18, .ref a19, .ref a20, .ref a21, .ref a22, .ref a23, .ref a24, .ref a25, .ref a26, .int 0, .ref a28, .ref a29, .ref a30, .ref a31, .ref a32, .ref a33, .int 0, .ref a35, .ref a36])), (tm, .inl (cM, 300, .inl (fun _ => 0))), (nw, .inl (cI, 12507, .inl (fun _ => 0)))] := hD
  have hK : va_K (dC, dI) vwCl [(cB, .byte), (cT, .object RX10), (cM, .byte), (cI, .int)] s := hK
  have hw3 := hw
  refine lv_aload_n hx hb dL_law_228 rfl (lv_at hl 1 rfl) ?_
  refine lv_aload_n hx hb dL_law_229 rfl (lv_at hl 3 rfl) ?_
  refine lv_iload_n hx hb dL_law_230 rfl (lv_at hl 0 rfl) ?_
  refine lv_iconst (v := 1) hx hb dL_law_231 (by decide) ?_
  refine lv_iadd hx hb dL_law_232 ?_
  refine kz_topi (y := 1) (by decide) ?_
  refine va_sld hx hb hX hbl hbA hS (i := 1) (kz_in (by decide +kernel)) dL_law_233 ?_
  refine kz_topi (y := xs 1) (congrArg xs (by decide)) ?_
  have hPc := hP.sub (ws' := [(z, .inr (12, [.ref tm, .int 0, .int 0, .int 0, .int 0, .int 0, .int 0, .int 0, .int 0, .ref a9, .ref nw, .ref a11, .ref a12, .int 0, .int 0, .int 0, .ref a16, .ref a17, .ref a18, .ref a19, .ref a20, .ref a21, .ref a22, .ref a23, .ref a24, .ref a25, .ref a26, .int 0, .ref a28, .ref a29, .ref a30, .ref a31, .ref a32, .ref a33, .int 0, .ref a35, .ref a36]))]) [3] rfl
  have hDc := hD.sub (ws' := [(z, .inr (12, [.ref tm, .int 0, .int 0, .int 0, .int 0, .int 0, .int 0, .int 0, .int 0, .ref a9, .ref nw, .ref a11, .ref a12, .int 0, .int 0, .int 0, .ref a16, .ref a17, .ref a18, .ref a19, .ref a20, .ref a21, .ref a22, .ref a23, .ref a24, .ref a25, .ref a26, .int 0, .ref a28, .ref a29, .ref a30, .ref a31, .ref a32, .ref a33, .int 0, .ref a35, .ref a36]))]) [3] (by decide) rfl
  have hKc := hK.sub (tys' := []) [] rfl
  have hFc := va_free (wc := [(z, .inr (12, [.ref tm, .int 0, .int 0, .int 0, .int 0, .int 0, .int 0, .int 0, .int 0, .ref a9, .ref nw, .ref a11, .ref a12, .int 0, .int 0, .int 0, .ref a16, .ref a17, .ref a18, .ref a19, .ref a20, .ref a21, .ref a22, .ref a23, .ref a24, .ref a25, .ref a26, .int 0, .ref a28, .ref a29, .ref a30, .ref a31, .ref a32, .ref a33, .int 0, .ref a35, .ref a36]))]) hD hS hA [3] rfl
  refine va_calli (va_runV (As := [.int (xs 1)]) (rest := [.int r_1]) ⟨hx, hb, hml, hown, hts⟩ (c_X12_end l dC dI (z) (tm) (a9) (nw) (a11) (a12) (a16) (a17) (a18) (a19) (a20) (a21) (a22) (a23) (a24) (a25) (a26) (a28) (a29) (a30) (a31) (a32) (a33) (a35) (a36) ((xs 1)) H.size) (cwV 1 hts (kz_gV qw_208 qw_209 qw_210 qw_5 qw_211) rfl rfl rfl (by decide +kernel) ⟨Nat.le_of_ble_eq_true rfl, Nat.le_of_ble_eq_true rfl⟩) (⟨(kz_preS hPc hKc hDc).1, (va_recv hKc hPc (ci := 12) (q0 := 0) rfl rfl), (kz_preS hPc hKc hDc).2⟩) rfl rfl hl.1 rfl (lv_room (Nat.le_of_ble_eq_true rfl)) dL_law_234 ⟨Nat.le_of_ble_eq_true rfl, Nat.le_of_ble_eq_true rfl⟩) hS (fun q _ h => hFc q h) hFc (fun r_4 u_5 t H1 locs ht hvm hw hB hz1 hk1 hS => ?_)
  try dsimp only at hw
  have hP1 : va_P (dC, dI) vwCl [] H1 := kz_P0
  have hD1 : va_D (va_A [(z, .inr (12, [.ref tm, .int 0, .int 0, .int 0, .int 0, .int 0, .int 0, .int 0, .int 0, .ref a9, .ref nw, .ref a11, .ref a12, .int 0, .int 0, .int 0, .ref a16, .ref a17, .ref a18, .ref a19, .ref a20, .ref a21, .ref a22, .ref a23, .ref a24, .ref a25, .ref a26, .int 0, .ref a28, .ref a29, .ref a30, .ref a31, .ref a32, .ref a33, .int 0, .ref a35, .ref a36]))] H.size) [] := kz_D0
  have hK1 : va_K (dC, dI) vwCl [] s := hK.sub [] rfl
  obtain ⟨hP, hD⟩ := va_join (wr := [(bt, .inl (cB, 300, .inl (fun _ => 0))), (hi, .inr (3, [.int 0, .ref t1, .ref t2, .int 0])), (sh, .inl (cT, 2, .inr (.inr (.inr (.inr (fun _ => none)))))), (tm, .inl (cM, 300, .inl (fun _ => 0))), (nw, .inl (cI, 12507, .inl (fun _ => 0)))]) (w1 := []) hP hD [3] [0, 1, 2, 4, 5] rfl rfl (by decide) (by decide) hk1 hFc hP1 hD1
  have hK := (hK.sub (tys' := [(cB, .byte), (cT, .object RX10), (cM, .byte), (cI, .int)]) [0, 1, 2, 3] rfl).app hK1
  generalize H1 = H at hP hS ⊢
  have hP : va_P (dC, dI) vwCl [(bt, .inl (cB, 300, .inl (fun _ => 0))), (hi, .inr (3, [.int 0, .ref t1, .ref t2, .int 0])), (sh, .inl (cT, 2, .inr (.inr (.inr (.inr (fun _ => none)))))), (tm, .inl (cM, 300, .inl (fun _ => 0))), (nw, .inl (cI, 12507, .inl (fun _ => 0)))] H := hP
  have hD : va_D (fun q : Nat => s.heap.size ≤ q) [(bt, .inl (cB, 300, .inl (fun _ => 0))), (hi, .inr (3, [.int 0, .ref t1, .ref t2, .int 0])), (sh, .inl (cT, 2, .inr (.inr (.inr (.inr (fun _ => none)))))), (tm, .inl (cM, 300, .inl (fun _ => 0))), (nw, .inl (cI, 12507, .inl (fun _ => 0)))] := hD
  have hK : va_K (dC, dI) vwCl [(cB, .byte), (cT, .object RX10), (cM, .byte), (cI, .int)] s := hK
  have hw6 := hw
  refine lv_icmp_eq (tgt := 971) hx hb dL_law_237 (by decide) (fun _ => ?_) (fun c9 => absurd (hw3.trans hw6.symm) c9)
  exact law_tail C00 hS (lv_sub hl [0, 3] rfl)
set_option maxHeartbeats 4000000 in
set_option maxRecDepth 100000 in
theorem law_2 {p : Program} {l : Launch} {e : Env} {s : State} {m : MethodId} {below : List Frame} {meth : Method} {c : Code} {b : Nat} {xs : Nat → Int32} {dC : Nat → ClassId} {dI : Nat → Nat → Nat} {x tp hi sh g3 g4 g5 g6 g7 g8 g9 i1 i2 bt t1 t2 z tm a9 nw a11 a12 a16 a17 a18 a19 a20 a21 a22 a23 a24 a25 a26 a28 a29 a30 a31 a32 a33 a35 a36 : Nat} {cB cT cM cI : ClassId} (C00 : lw_At p s m meth c b 6 xs) {sq sv sq2 sv2 : Nat} (hT1 : kz_St RX8 38 sq sv (fun q : Nat => s.heap.size ≤ q) s) (hT2 : kz_St RX12 164 sq2 sv2 (fun q : Nat => s.heap.size ≤ q) s) (hK : va_K (dC, dI) vwCl [(cB, .byte), (cT, .object RX10), (cM, .byte), (cI, .int)] s) {H : Heap} {locs : List Loc} (hP : va_P (dC, dI) vwCl [(x, .inr (11, [.ref tp, .ref hi, .ref sh, .ref g3, .ref g4, .ref g5, .ref g6, .ref g7, .ref g8, .ref g9, .int 0, .int 0])), (tp, .inr (8, [.ref i1, .ref i2, .int 0, .int 0, .int 0, .int 0, .int 0, .ref bt, .int 0, .int 0, .int 0])), (bt, .inl (cB, 300, .inl (fun _ => 0))), (hi, .inr (3, [.int 0, .ref t1, .ref t2, .int 0])), (sh, .inl (cT, 2, .inr (.inr (.inr (.inr (fun _ => none)))))), (z, .inr (12, [.ref tm, .int 0, .int 0, .int 0, .int 0, .int 0, .int 0, .int 0, .int 0, .ref a9, .ref nw, .ref a11, .ref a12, .int 0, .int 0, .int 0, .ref a16, .ref a17, .ref a18, .ref a19, .ref a20, .ref a21, .ref a22, .ref a23, .ref a24, .ref a25, .ref a26, .int 0, .ref a28, .ref a29, .ref a30, .ref a31, .ref a32, .ref a33, .int 0, .ref a35, .ref a36])), (tm, .inl (cM, 300, .inl (fun _ => 0))), (nw, .inl (cI, 12507, .inl (fun _ => 0)))] H) (hD : va_D (fun q : Nat => s.heap.size ≤ q) [(x, .inr (11, [.ref tp, .ref hi, .ref sh, .ref g3, .ref g4, .ref g5, .ref g6, .ref g7, .ref g8, .ref g9, .int 0, .int 0])), (tp, .inr (8, [.ref i1, .ref i2, .int 0, .int 0, .int 0, .int 0, .int 0, .ref bt, .int 0, .int 0, .int 0])), (bt, .inl (cB, 300, .inl (fun _ => 0))), (hi, .inr (3, [.int 0, .ref t1, .ref t2, .int 0])), (sh, .inl (cT, 2, .inr (.inr (.inr (.inr (fun _ => none)))))), (z, .inr (12, [.ref tm, .int 0, .int 0, .int 0, .int 0, .int 0, .int 0, .int 0, .int 0, .ref a9, .ref nw, .ref a11, .ref a12, .int 0, .int 0, .int 0, .ref a16, .ref a17, .ref a18, .ref a19, .ref a20, .ref a21, .ref a22, .ref a23, .ref a24, .ref a25, .ref a26, .int 0, .ref a28, .ref a29, .ref a30, .ref a31, .ref a32, .ref a33, .int 0, .ref a35, .ref a36])), (tm, .inl (cM, 300, .inl (fun _ => 0))), (nw, .inl (cI, 12507, .inl (fun _ => 0)))]) (hS : va_S (fun q : Nat => s.heap.size ≤ q) s.heap H locs) {ls : Array Slot} (hl : lv_has ls 4 [(3, .int 0), (2, .ref z), (1, .ref x), (0, .ref b)]) : W p l e room_1 s m #[Value.ref b] below meth c H locs 80 147144 (lw_Z below #[Value.ref b] s) (F0 m 242 ls []) := by
  obtain ⟨hx, hb, hr, hml, hown, hts, hX, hbl, hlocks, hgv⟩ := id C00
  have hts : ∀ w ∈ wsU, w.before #[Value.ref b] s = true := fun w h => hts w (wsU_in w h)
  have hown : s.vm.findClass RL = some m.cls := hown
  have hA : ∀ q : Nat, s.heap.size ≤ q → (fun q : Nat => s.heap.size ≤ q) q := fun _ h => h
  have hbA : ¬ (fun q : Nat => s.heap.size ≤ q) b := Nat.not_le.mpr hbl
  refine lv_aload_n hx hb dL_law_242 rfl (lv_at hl 2 rfl) ?_
  have hPc := hP.sub (ws' := [(x, .inr (11, [.ref tp, .ref hi, .ref sh, .ref g3, .ref g4, .ref g5, .ref g6, .ref g7, .ref g8, .ref g9, .int 0, .int 0])), (tp, .inr (8, [.ref i1, .ref i2, .int 0, .int 0, .int 0, .int 0, .int 0, .ref bt, .int 0, .int 0, .int 0]))]) [0, 1] rfl
  have hDc := hD.sub (ws' := [(x, .inr (11, [.ref tp, .ref hi, .ref sh, .ref g3, .ref g4, .ref g5, .ref g6, .ref g7, .ref g8, .ref g9, .int 0, .int 0])), (tp, .inr (8, [.ref i1, .ref i2, .int 0, .int 0, .int 0, .int 0, .int 0, .ref bt, .int 0, .int 0, .int 0]))]) [0, 1] (by decide) rfl
  have hKc := hK.sub (tys' := []) [] rfl
  have hFc := va_free (wc := [(x, .inr (11, [.ref tp, .ref hi, .ref sh, .ref g3, .ref g4, .ref g5, .ref g6, .ref g7, .ref g8, .ref g9, .int 0, .int 0])), (tp, .inr (8, [.ref i1, .ref i2, .int 0, .int 0, .int 0, .int 0, .int 0, .ref bt, .int 0, .int 0, .int 0]))]) hD hS hA [0, 1] rfl
  refine va_calli (va_runV (As := []) (rest := []) ⟨hx, hb, hml, hown, hts⟩ (c_X11_file l dC dI (x) (tp) (hi) (sh) (g3) (g4) (g5) (g6) (g7) (g8) (g9) (i1) (i2) (bt) (sq) (sv) H.size) (cwV 0 hts (kz_gV qw_212 qw_213 qw_214 qw_2 qw_215) rfl rfl rfl (by decide +kernel) ⟨Nat.le_of_ble_eq_true rfl, Nat.le_of_ble_eq_true rfl⟩) (⟨(kz_preU hPc hKc hDc hT1 hS hFc).1, (va_recv hKc hPc (ci := 11) (q0 := 0) rfl rfl), (kz_preU hPc hKc hDc hT1 hS hFc).2⟩) rfl rfl hl.1 rfl (lv_room (Nat.le_of_ble_eq_true rfl)) dL_law_243 ⟨Nat.le_of_ble_eq_true rfl, Nat.le_of_ble_eq_true rfl⟩) hS (fun q _ h => hFc q h) hFc (fun r_1 u_2 t H1 locs ht hvm hw hB hz1 hk1 hS => ?_)
  try dsimp only at hw
  have hP1 : va_P (dC, dI) vwCl [] H1 := kz_P0
  have hD1 : va_D (va_A [(x, .inr (11, [.ref tp, .ref hi, .ref sh, .ref g3, .ref g4, .ref g5, .ref g6, .ref g7, .ref g8, .ref g9, .int 0, .int 0])), (tp, .inr (8, [.ref i1, .ref i2, .int 0, .int 0, .int 0, .int 0, .int 0, .ref bt, .int 0, .int 0, .int 0]))] H.size) [] := kz_D0
  have hK1 : va_K (dC, dI) vwCl [] s := hK.sub [] rfl
  obtain ⟨hP, hD⟩ := va_join (wr := [(bt, .inl (cB, 300, .inl (fun _ => 0))), (hi, .inr (3, [.int 0, .ref t1, .ref t2, .int 0])), (sh, .inl (cT, 2, .inr (.inr (.inr (.inr (fun _ => none)))))), (z, .inr (12, [.ref tm, .int 0, .int 0, .int 0, .int 0, .int 0, .int 0, .int 0, .int 0, .ref a9, .ref nw, .ref a11, .ref a12, .int 0, .int 0, .int 0, .ref a16, .ref a17, .ref a18, .ref a19, .ref a20, .ref a21, .ref a22, .ref a23, .ref a24, .ref a25, .ref a26, .int 0, .ref a28, .ref a29, .ref a30, .ref a31, .ref a32, .ref a33, .int 0, .ref a35, .ref a36])), (tm, .inl (cM, 300, .inl (fun _ => 0))), (nw, .inl (cI, 12507, .inl (fun _ => 0)))]) (w1 := []) hP hD [0, 1] [2, 3, 4, 5, 6, 7] rfl rfl (by decide) (by decide) hk1 hFc hP1 hD1
  have hK := (hK.sub (tys' := [(cB, .byte), (cT, .object RX10), (cM, .byte), (cI, .int)]) [0, 1, 2, 3] rfl).app hK1
  generalize H1 = H at hP hS ⊢
  have hP : va_P (dC, dI) vwCl [(bt, .inl (cB, 300, .inl (fun _ => 0))), (hi, .inr (3, [.int 0, .ref t1, .ref t2, .int 0])), (sh, .inl (cT, 2, .inr (.inr (.inr (.inr (fun _ => none)))))), (z, .inr (12, [.ref tm, .int 0, .int 0, .int 0, .int 0, .int 0, .int 0, .int 0, .int 0, .ref a9, .ref nw, .ref a11, .ref a12, .int 0, .int 0, .int 0, .ref a16, .ref a17, .ref a18, .ref a19, .ref a20, .ref a21, .ref a22, .ref a23, .ref a24, .ref a25, .ref a26, .int 0, .ref a28, .ref a29, .ref a30, .ref a31, .ref a32, .ref a33, .int 0, .ref a35, .ref a36])), (tm, .inl (cM, 300, .inl (fun _ => 0))), (nw, .inl (cI, 12507, .inl (fun _ => 0)))] H := hP
  have hD : va_D (fun q : Nat => s.heap.size ≤ q) [(bt, .inl (cB, 300, .inl (fun _ => 0))), (hi, .inr (3, [.int 0, .ref t1, .ref t2, .int 0])), (sh, .inl (cT, 2, .inr (.inr (.inr (.inr (fun _ => none)))))), (z, .inr (12, [.ref tm, .int 0, .int 0, .int 0, .int 0, .int 0, .int 0, .int 0, .int 0, .ref a9, .ref nw, .ref a11, .ref a12, .int 0, .int 0, .int 0, .ref a16, .ref a17, .ref a18, .ref a19, .ref a20, .ref a21, .ref a22, .ref a23, .ref a24, .ref a25, .ref a26, .int 0, .ref a28, .ref a29, .ref a30, .ref a31, .ref a32, .ref a33, .int 0, .ref a35, .ref a36])), (tm, .inl (cM, 300, .inl (fun _ => 0))), (nw, .inl (cI, 12507, .inl (fun _ => 0)))] := hD
  have hK : va_K (dC, dI) vwCl [(cB, .byte), (cT, .object RX10), (cM, .byte), (cI, .int)] s := hK
  obtain rfl : r_1 = (-3) := hw
  refine lv_aload_n hx hb dL_law_246 rfl (lv_at hl 1 rfl) ?_
  have hPc := hP.sub (ws' := [(z, .inr (12, [.ref tm, .int 0, .int 0, .int 0, .int 0, .int 0, .int 0, .int 0, .int 0, .ref a9, .ref nw, .ref a11, .ref a12, .int 0, .int 0, .int 0, .ref a16, .ref a17, .ref a18, .ref a19, .ref a20, .ref a21, .ref a22, .ref a23, .ref a24, .ref a25, .ref a26, .int 0, .ref a28, .ref a29, .ref a30, .ref a31, .ref a32, .ref a33, .int 0, .ref a35, .ref a36]))]) [3] rfl
  have hDc := hD.sub (ws' := [(z, .inr (12, [.ref tm, .int 0, .int 0, .int 0, .int 0, .int 0, .int 0, .int 0, .int 0, .ref a9, .ref nw, .ref a11, .ref a12, .int 0, .int 0, .int 0, .ref a16, .ref a17, .ref a18, .ref a19, .ref a20, .ref a21, .ref a22, .ref a23, .ref a24, .ref a25, .ref a26, .int 0, .ref a28, .ref a29, .ref a30, .ref a31, .ref a32, .ref a33, .int 0, .ref a35, .ref a36]))]) [3] (by decide) rfl
  have hKc := hK.sub (tys' := []) [] rfl
  have hFc := va_free (wc := [(z, .inr (12, [.ref tm, .int 0, .int 0, .int 0, .int 0, .int 0, .int 0, .int 0, .int 0, .ref a9, .ref nw, .ref a11, .ref a12, .int 0, .int 0, .int 0, .ref a16, .ref a17, .ref a18, .ref a19, .ref a20, .ref a21, .ref a22, .ref a23, .ref a24, .ref a25, .ref a26, .int 0, .ref a28, .ref a29, .ref a30, .ref a31, .ref a32, .ref a33, .int 0, .ref a35, .ref a36]))]) hD hS hA [3] rfl
  refine va_calli (va_runV (As := []) (rest := [.int (-3)]) ⟨hx, hb, hml, hown, hts⟩ (c_X12_file l dC dI (z) (tm) (a9) (nw) (a11) (a12) (a16) (a17) (a18) (a19) (a20) (a21) (a22) (a23) (a24) (a25) (a26) (a28) (a29) (a30) (a31) (a32) (a33) (a35) (a36) (sq2) (sv2) H.size) (cwV 0 hts (kz_gV qw_593 qw_594 qw_595 qw_5 qw_596) rfl rfl rfl (by decide +kernel) ⟨Nat.le_of_ble_eq_true rfl, Nat.le_of_ble_eq_true rfl⟩) (⟨(kz_preU hPc hKc hDc hT2 hS hFc).1, (va_recv hKc hPc (ci := 12) (q0 := 0) rfl rfl), (kz_preU hPc hKc hDc hT2 hS hFc).2⟩) rfl rfl hl.1 rfl (lv_room (Nat.le_of_ble_eq_true rfl)) dL_law_247 ⟨Nat.le_of_ble_eq_true rfl, Nat.le_of_ble_eq_true rfl⟩) hS (fun q _ h => hFc q h) hFc (fun r_3 u_4 t H1 locs ht hvm hw hB hz1 hk1 hS => ?_)
  try dsimp only at hw
  have hP1 : va_P (dC, dI) vwCl [] H1 := kz_P0
  have hD1 : va_D (va_A [(z, .inr (12, [.ref tm, .int 0, .int 0, .int 0, .int 0, .int 0, .int 0, .int 0, .int 0, .ref a9, .ref nw, .ref a11, .ref a12, .int 0, .int 0, .int 0, .ref a16, .ref a17, .ref a18, .ref a19, .ref a20, .ref a21, .ref a22, .ref a23, .ref a24, .ref a25, .ref a26, .int 0, .ref a28, .ref a29, .ref a30, .ref a31, .ref a32, .ref a33, .int 0, .ref a35, .ref a36]))] H.size) [] := kz_D0
  have hK1 : va_K (dC, dI) vwCl [] s := hK.sub [] rfl
  obtain ⟨hP, hD⟩ := va_join (wr := [(bt, .inl (cB, 300, .inl (fun _ => 0))), (hi, .inr (3, [.int 0, .ref t1, .ref t2, .int 0])), (sh, .inl (cT, 2, .inr (.inr (.inr (.inr (fun _ => none)))))), (tm, .inl (cM, 300, .inl (fun _ => 0))), (nw, .inl (cI, 12507, .inl (fun _ => 0)))]) (w1 := []) hP hD [3] [0, 1, 2, 4, 5] rfl rfl (by decide) (by decide) hk1 hFc hP1 hD1
  have hK := (hK.sub (tys' := [(cB, .byte), (cT, .object RX10), (cM, .byte), (cI, .int)]) [0, 1, 2, 3] rfl).app hK1
  generalize H1 = H at hP hS ⊢
  have hP : va_P (dC, dI) vwCl [(bt, .inl (cB, 300, .inl (fun _ => 0))), (hi, .inr (3, [.int 0, .ref t1, .ref t2, .int 0])), (sh, .inl (cT, 2, .inr (.inr (.inr (.inr (fun _ => none)))))), (tm, .inl (cM, 300, .inl (fun _ => 0))), (nw, .inl (cI, 12507, .inl (fun _ => 0)))] H := hP
  have hD : va_D (fun q : Nat => s.heap.size ≤ q) [(bt, .inl (cB, 300, .inl (fun _ => 0))), (hi, .inr (3, [.int 0, .ref t1, .ref t2, .int 0])), (sh, .inl (cT, 2, .inr (.inr (.inr (.inr (fun _ => none)))))), (tm, .inl (cM, 300, .inl (fun _ => 0))), (nw, .inl (cI, 12507, .inl (fun _ => 0)))] := hD
  have hK : va_K (dC, dI) vwCl [(cB, .byte), (cT, .object RX10), (cM, .byte), (cI, .int)] s := hK
  obtain rfl : r_3 = (-3) := hw
  refine lv_icmp_eq (tgt := 971) hx hb dL_law_250 (by decide) (fun _ => ?_) (fun c9 => absurd (by decide) c9)
  exact law_tail C00 hS (lv_sub hl [0, 3] rfl)
set_option maxHeartbeats 4000000 in
set_option maxRecDepth 100000 in
theorem law_3 {p : Program} {l : Launch} {e : Env} {s : State} {m : MethodId} {below : List Frame} {meth : Method} {c : Code} {b : Nat} {xs : Nat → Int32} {dC : Nat → ClassId} {dI : Nat → Nat → Nat} {x tp hi sh g3 g4 g5 g6 g7 g8 g9 i1 i2 bt t1 t2 z tm a9 nw a11 a12 a16 a17 a18 a19 a20 a21 a22 a23 a24 a25 a26 a28 a29 a30 a31 a32 a33 a35 a36 : Nat} {cB cT cM cI : ClassId} (C00 : lw_At p s m meth c b 6 xs) (hK : va_K (dC, dI) vwCl [(cB, .byte), (cT, .object RX10), (cM, .byte), (cI, .int)] s) {H : Heap} {locs : List Loc} (hP : va_P (dC, dI) vwCl [(x, .inr (11, [.ref tp, .ref hi, .ref sh, .ref g3, .ref g4, .ref g5, .ref g6, .ref g7, .ref g8, .ref g9, .int 0, .int 0])), (tp, .inr (8, [.ref i1, .ref i2, .int 0, .int 0, .int 0, .int 0, .int 0, .ref bt, .int 0, .int 0, .int 0])), (bt, .inl (cB, 300, .inl (fun _ => 0))), (hi, .inr (3, [.int 0, .ref t1, .ref t2, .int 0])), (sh, .inl (cT, 2, .inr (.inr (.inr (.inr (fun _ => none)))))), (z, .inr (12, [.ref tm, .int 0, .int 0, .int 0, .int 0, .int 0, .int 0, .int 0, .int 0, .ref a9, .ref nw, .ref a11, .ref a12, .int 0, .int 0, .int 0, .ref a16, .ref a17, .ref a18, .ref a19, .ref a20, .ref a21, .ref a22, .ref a23, .ref a24, .ref a25, .ref a26, .int 0, .ref a28, .ref a29, .ref a30, .ref a31, .ref a32, .ref a33, .int 0, .ref a35, .ref a36])), (tm, .inl (cM, 300, .inl (fun _ => 0))), (nw, .inl (cI, 12507, .inl (fun _ => 0)))] H) (hD : va_D (fun q : Nat => s.heap.size ≤ q) [(x, .inr (11, [.ref tp, .ref hi, .ref sh, .ref g3, .ref g4, .ref g5, .ref g6, .ref g7, .ref g8, .ref g9, .int 0, .int 0])), (tp, .inr (8, [.ref i1, .ref i2, .int 0, .int 0, .int 0, .int 0, .int 0, .ref bt, .int 0, .int 0, .int 0])), (bt, .inl (cB, 300, .inl (fun _ => 0))), (hi, .inr (3, [.int 0, .ref t1, .ref t2, .int 0])), (sh, .inl (cT, 2, .inr (.inr (.inr (.inr (fun _ => none)))))), (z, .inr (12, [.ref tm, .int 0, .int 0, .int 0, .int 0, .int 0, .int 0, .int 0, .int 0, .ref a9, .ref nw, .ref a11, .ref a12, .int 0, .int 0, .int 0, .ref a16, .ref a17, .ref a18, .ref a19, .ref a20, .ref a21, .ref a22, .ref a23, .ref a24, .ref a25, .ref a26, .int 0, .ref a28, .ref a29, .ref a30, .ref a31, .ref a32, .ref a33, .int 0, .ref a35, .ref a36])), (tm, .inl (cM, 300, .inl (fun _ => 0))), (nw, .inl (cI, 12507, .inl (fun _ => 0)))]) (hS : va_S (fun q : Nat => s.heap.size ≤ q) s.heap H locs) {ls : Array Slot} (hl : lv_has ls 4 [(3, .int 0), (2, .ref z), (1, .ref x), (0, .ref b)]) : W p l e room_1 s m #[Value.ref b] below meth c H locs 80 147144 (lw_Z below #[Value.ref b] s) (F0 m 255 ls []) := by
  obtain ⟨hx, hb, hr, hml, hown, hts, hX, hbl, hlocks, hgv⟩ := id C00
  have hts : ∀ w ∈ wsU, w.before #[Value.ref b] s = true := fun w h => hts w (wsU_in w h)
  have hown : s.vm.findClass RL = some m.cls := hown
  have hA : ∀ q : Nat, s.heap.size ≤ q → (fun q : Nat => s.heap.size ≤ q) q := fun _ h => h
  have hbA : ¬ (fun q : Nat => s.heap.size ≤ q) b := Nat.not_le.mpr hbl
  refine lv_aload_n hx hb dL_law_255 rfl (lv_at hl 2 rfl) ?_
  refine lv_aload_n hx hb dL_law_256 rfl (lv_at hl 3 rfl) ?_
  refine lv_iload_n hx hb dL_law_257 rfl (lv_at hl 0 rfl) ?_
  refine lv_iconst (v := 1) hx hb dL_law_258 (by decide) ?_
  refine lv_iadd hx hb dL_law_259 ?_
  refine kz_topi (y := 1) (by decide) ?_
  refine va_sld hx hb hX hbl hbA hS (i := 1) (kz_in (by decide +kernel)) dL_law_260 ?_
  refine kz_topi (y := xs 1) (congrArg xs (by decide)) ?_
  refine lv_aload_n hx hb dL_law_261 rfl (lv_at hl 3 rfl) ?_
  refine lv_iload_n hx hb dL_law_262 rfl (lv_at hl 0 rfl) ?_
  refine lv_iconst (v := 2) hx hb dL_law_263 (by decide) ?_
  refine lv_iadd hx hb dL_law_264 ?_
  refine kz_topi (y := 2) (by decide) ?_
  refine va_sld hx hb hX hbl hbA hS (i := 2) (kz_in (by decide +kernel)) dL_law_265 ?_
  refine kz_topi (y := xs 2) (congrArg xs (by decide)) ?_
  refine lv_aload_n hx hb dL_law_266 rfl (lv_at hl 3 rfl) ?_
  refine lv_iload_n hx hb dL_law_267 rfl (lv_at hl 0 rfl) ?_
  refine lv_iconst (v := 3) hx hb dL_law_268 (by decide) ?_
  refine lv_iadd hx hb dL_law_269 ?_
  refine kz_topi (y := 3) (by decide) ?_
  refine va_sld hx hb hX hbl hbA hS (i := 3) (kz_in (by decide +kernel)) dL_law_270 ?_
  refine kz_topi (y := xs 3) (congrArg xs (by decide)) ?_
  refine lv_aload_n hx hb dL_law_271 rfl (lv_at hl 3 rfl) ?_
  refine lv_iload_n hx hb dL_law_272 rfl (lv_at hl 0 rfl) ?_
  refine lv_iconst (v := 4) hx hb dL_law_273 (by decide) ?_
  refine lv_iadd hx hb dL_law_274 ?_
  refine kz_topi (y := 4) (by decide) ?_
  refine va_sld hx hb hX hbl hbA hS (i := 4) (kz_in (by decide +kernel)) dL_law_275 ?_
  refine kz_topi (y := xs 4) (congrArg xs (by decide)) ?_
  refine lv_aload_n hx hb dL_law_276 rfl (lv_at hl 3 rfl) ?_
  refine lv_iload_n hx hb dL_law_277 rfl (lv_at hl 0 rfl) ?_
  refine lv_iconst (v := 5) hx hb dL_law_278 (by decide) ?_
  refine lv_iadd hx hb dL_law_279 ?_
  refine kz_topi (y := 5) (by decide) ?_
  refine va_sld hx hb hX hbl hbA hS (i := 5) (kz_in (by decide +kernel)) dL_law_280 ?_
  refine kz_topi (y := xs 5) (congrArg xs (by decide)) ?_
  have hPc := hP.sub (ws' := [(x, .inr (11, [.ref tp, .ref hi, .ref sh, .ref g3, .ref g4, .ref g5, .ref g6, .ref g7, .ref g8, .ref g9, .int 0, .int 0]))]) [0] rfl
  have hDc := hD.sub (ws' := [(x, .inr (11, [.ref tp, .ref hi, .ref sh, .ref g3, .ref g4, .ref g5, .ref g6, .ref g7, .ref g8, .ref g9, .int 0, .int 0]))]) [0] (by decide) rfl
  have hKc := hK.sub (tys' := []) [] rfl
  have hFc := va_free (wc := [(x, .inr (11, [.ref tp, .ref hi, .ref sh, .ref g3, .ref g4, .ref g5, .ref g6, .ref g7, .ref g8, .ref g9, .int 0, .int 0]))]) hD hS hA [0] rfl
  refine va_calli (va_runV (As := [.int (xs 1), .int (xs 2), .int (xs 3), .int (xs 4), .int (xs 5)]) (rest := []) ⟨hx, hb, hml, hown, hts⟩ (c_X11_put l dC dI (x) (tp) (hi) (sh) (g3) (g4) (g5) (g6) (g7) (g8) (g9) ((xs 1)) ((xs 2)) ((xs 3)) ((xs 4)) ((xs 5)) H.size) (cwV 5 hts (kz_gV qw_764 qw_765 qw_766 qw_2 qw_767) rfl rfl rfl (by decide +kernel) ⟨Nat.le_of_ble_eq_true rfl, Nat.le_of_ble_eq_true rfl⟩) (⟨(kz_preS hPc hKc hDc).1, (va_recv hKc hPc (ci := 11) (q0 := 0) rfl rfl), (kz_preS hPc hKc hDc).2⟩) rfl rfl hl.1 rfl (lv_room (Nat.le_of_ble_eq_true rfl)) dL_law_281 ⟨Nat.le_of_ble_eq_true rfl, Nat.le_of_ble_eq_true rfl⟩) hS (fun q _ h => hFc q h) hFc (fun r_1 u_2 t H1 locs ht hvm hw hB hz1 hk1 hS => ?_)
  try dsimp only at hw
  have hP1 : va_P (dC, dI) vwCl [] H1 := kz_P0
  have hD1 : va_D (va_A [(x, .inr (11, [.ref tp, .ref hi, .ref sh, .ref g3, .ref g4, .ref g5, .ref g6, .ref g7, .ref g8, .ref g9, .int 0, .int 0]))] H.size) [] := kz_D0
  have hK1 : va_K (dC, dI) vwCl [] s := hK.sub [] rfl
  obtain ⟨hP, hD⟩ := va_join (wr := [(tp, .inr (8, [.ref i1, .ref i2, .int 0, .int 0, .int 0, .int 0, .int 0, .ref bt, .int 0, .int 0, .int 0])), (bt, .inl (cB, 300, .inl (fun _ => 0))), (hi, .inr (3, [.int 0, .ref t1, .ref t2, .int 0])), (sh, .inl (cT, 2, .inr (.inr (.inr (.inr (fun _ => none)))))), (z, .inr (12, [.ref tm, .int 0, .int 0, .int 0, .int 0, .int 0, .int 0, .int 0, .int 0, .ref a9, .ref nw, .ref a11, .ref a12, .int 0, .int 0, .int 0, .ref a16, .ref a17, .ref a18, .ref a19, .ref a20, .ref a21, .ref a22, .ref a23, .ref a24, .ref a25, .ref a26, .int 0, .ref a28, .ref a29, .ref a30, .ref a31, .ref a32, .ref a33, .int 0, .ref a35, .ref a36])), (tm, .inl (cM, 300, .inl (fun _ => 0))), (nw, .inl (cI, 12507, .inl (fun _ => 0)))]) (w1 := []) hP hD [0] [1, 2, 3, 4, 5, 6, 7] rfl rfl (by decide) (by decide) hk1 hFc hP1 hD1
  have hK := (hK.sub (tys' := [(cB, .byte), (cT, .object RX10), (cM, .byte), (cI, .int)]) [0, 1, 2, 3] rfl).app hK1
  generalize H1 = H at hP hS ⊢
  have hP : va_P (dC, dI) vwCl [(tp, .inr (8, [.ref i1, .ref i2, .int 0, .int 0, .int 0, .int 0, .int 0, .ref bt, .int 0, .int 0, .int 0])), (bt, .inl (cB, 300, .inl (fun _ => 0))), (hi, .inr (3, [.int 0, .ref t1, .ref t2, .int 0])), (sh, .inl (cT, 2, .inr (.inr (.inr (.inr (fun _ => none)))))), (z, .inr (12, [.ref tm, .int 0, .int 0, .int 0, .int 0, .int 0, .int 0, .int 0, .int 0, .ref a9, .ref nw, .ref a11, .ref a12, .int 0, .int 0, .int 0, .ref a16, .ref a17, .ref a18, .ref a19, .ref a20, .ref a21, .ref a22, .ref a23, .ref a24, .ref a25, .ref a26, .int 0, .ref a28, .ref a29, .ref a30, .ref a31, .ref a32, .ref a33, .int 0, .ref a35, .ref a36])), (tm, .inl (cM, 300, .inl (fun _ => 0))), (nw, .inl (cI, 12507, .inl (fun _ => 0)))] H := hP
  have hD : va_D (fun q : Nat => s.heap.size ≤ q) [(tp, .inr (8, [.ref i1, .ref i2, .int 0, .int 0, .int 0, .int 0, .int 0, .ref bt, .int 0, .int 0, .int 0])), (bt, .inl (cB, 300, .inl (fun _ => 0))), (hi, .inr (3, [.int 0, .ref t1, .ref t2, .int 0])), (sh, .inl (cT, 2, .inr (.inr (.inr (.inr (fun _ => none)))))), (z, .inr (12, [.ref tm, .int 0, .int 0, .int 0, .int 0, .int 0, .int 0, .int 0, .int 0, .ref a9, .ref nw, .ref a11, .ref a12, .int 0, .int 0, .int 0, .ref a16, .ref a17, .ref a18, .ref a19, .ref a20, .ref a21, .ref a22, .ref a23, .ref a24, .ref a25, .ref a26, .int 0, .ref a28, .ref a29, .ref a30, .ref a31, .ref a32, .ref a33, .int 0, .ref a35, .ref a36])), (tm, .inl (cM, 300, .inl (fun _ => 0))), (nw, .inl (cI, 12507, .inl (fun _ => 0)))] := hD
  have hK : va_K (dC, dI) vwCl [(cB, .byte), (cT, .object RX10), (cM, .byte), (cI, .int)] s := hK
  obtain rfl : r_1 = (-1) := hw
  refine lv_aload_n hx hb dL_law_284 rfl (lv_at hl 1 rfl) ?_
  refine lv_aload_n hx hb dL_law_285 rfl (lv_at hl 3 rfl) ?_
  refine lv_iload_n hx hb dL_law_286 rfl (lv_at hl 0 rfl) ?_
  refine lv_iconst (v := 1) hx hb dL_law_287 (by decide) ?_
  refine lv_iadd hx hb dL_law_288 ?_
  refine kz_topi (y := 1) (by decide) ?_
  refine va_sld hx hb hX hbl hbA hS (i := 1) (kz_in (by decide +kernel)) dL_law_289 ?_
  refine kz_topi (y := xs 1) (congrArg xs (by decide)) ?_
  refine lv_aload_n hx hb dL_law_290 rfl (lv_at hl 3 rfl) ?_
  refine lv_iload_n hx hb dL_law_291 rfl (lv_at hl 0 rfl) ?_
  refine lv_iconst (v := 2) hx hb dL_law_292 (by decide) ?_
  refine lv_iadd hx hb dL_law_293 ?_
  refine kz_topi (y := 2) (by decide) ?_
  refine va_sld hx hb hX hbl hbA hS (i := 2) (kz_in (by decide +kernel)) dL_law_294 ?_
  refine kz_topi (y := xs 2) (congrArg xs (by decide)) ?_
  refine lv_aload_n hx hb dL_law_295 rfl (lv_at hl 3 rfl) ?_
  refine lv_iload_n hx hb dL_law_296 rfl (lv_at hl 0 rfl) ?_
  refine lv_iconst (v := 3) hx hb dL_law_297 (by decide) ?_
  refine lv_iadd hx hb dL_law_298 ?_
  refine kz_topi (y := 3) (by decide) ?_
  refine va_sld hx hb hX hbl hbA hS (i := 3) (kz_in (by decide +kernel)) dL_law_299 ?_
  refine kz_topi (y := xs 3) (congrArg xs (by decide)) ?_
  refine lv_aload_n hx hb dL_law_300 rfl (lv_at hl 3 rfl) ?_
  refine lv_iload_n hx hb dL_law_301 rfl (lv_at hl 0 rfl) ?_
  refine lv_iconst (v := 4) hx hb dL_law_302 (by decide) ?_
  refine lv_iadd hx hb dL_law_303 ?_
  refine kz_topi (y := 4) (by decide) ?_
  refine va_sld hx hb hX hbl hbA hS (i := 4) (kz_in (by decide +kernel)) dL_law_304 ?_
  refine kz_topi (y := xs 4) (congrArg xs (by decide)) ?_
  refine lv_aload_n hx hb dL_law_305 rfl (lv_at hl 3 rfl) ?_
  refine lv_iload_n hx hb dL_law_306 rfl (lv_at hl 0 rfl) ?_
  refine lv_iconst (v := 5) hx hb dL_law_307 (by decide) ?_
  refine lv_iadd hx hb dL_law_308 ?_
  refine kz_topi (y := 5) (by decide) ?_
  refine va_sld hx hb hX hbl hbA hS (i := 5) (kz_in (by decide +kernel)) dL_law_309 ?_
  refine kz_topi (y := xs 5) (congrArg xs (by decide)) ?_
  have hPc := hP.sub (ws' := [(z, .inr (12, [.ref tm, .int 0, .int 0, .int 0, .int 0, .int 0, .int 0, .int 0, .int 0, .ref a9, .ref nw, .ref a11, .ref a12, .int 0, .int 0, .int 0, .ref a16, .ref a17, .ref a18, .ref a19, .ref a20, .ref a21, .ref a22, .ref a23, .ref a24, .ref a25, .ref a26, .int 0, .ref a28, .ref a29, .ref a30, .ref a31, .ref a32, .ref a33, .int 0, .ref a35, .ref a36]))]) [4] rfl
  have hDc := hD.sub (ws' := [(z, .inr (12, [.ref tm, .int 0, .int 0, .int 0, .int 0, .int 0, .int 0, .int 0, .int 0, .ref a9, .ref nw, .ref a11, .ref a12, .int 0, .int 0, .int 0, .ref a16, .ref a17, .ref a18, .ref a19, .ref a20, .ref a21, .ref a22, .ref a23, .ref a24, .ref a25, .ref a26, .int 0, .ref a28, .ref a29, .ref a30, .ref a31, .ref a32, .ref a33, .int 0, .ref a35, .ref a36]))]) [4] (by decide) rfl
  have hKc := hK.sub (tys' := []) [] rfl
  have hFc := va_free (wc := [(z, .inr (12, [.ref tm, .int 0, .int 0, .int 0, .int 0, .int 0, .int 0, .int 0, .int 0, .ref a9, .ref nw, .ref a11, .ref a12, .int 0, .int 0, .int 0, .ref a16, .ref a17, .ref a18, .ref a19, .ref a20, .ref a21, .ref a22, .ref a23, .ref a24, .ref a25, .ref a26, .int 0, .ref a28, .ref a29, .ref a30, .ref a31, .ref a32, .ref a33, .int 0, .ref a35, .ref a36]))]) hD hS hA [4] rfl
  refine va_calli (va_runV (As := [.int (xs 1), .int (xs 2), .int (xs 3), .int (xs 4), .int (xs 5)]) (rest := [.int (-1)]) ⟨hx, hb, hml, hown, hts⟩ (c_X12_put l dC dI (z) (tm) (a9) (nw) (a11) (a12) (a16) (a17) (a18) (a19) (a20) (a21) (a22) (a23) (a24) (a25) (a26) (a28) (a29) (a30) (a31) (a32) (a33) (a35) (a36) ((xs 1)) ((xs 2)) ((xs 3)) ((xs 4)) ((xs 5)) H.size) (cwV 5 hts (kz_gV qw_789 qw_790 qw_791 qw_5 qw_792) rfl rfl rfl (by decide +kernel) ⟨Nat.le_of_ble_eq_true rfl, Nat.le_of_ble_eq_true rfl⟩) (⟨(kz_preS hPc hKc hDc).1, (va_recv hKc hPc (ci := 12) (q0 := 0) rfl rfl), (kz_preS hPc hKc hDc).2⟩) rfl rfl hl.1 rfl (lv_room (Nat.le_of_ble_eq_true rfl)) dL_law_310 ⟨Nat.le_of_ble_eq_true rfl, Nat.le_of_ble_eq_true rfl⟩) hS (fun q _ h => hFc q h) hFc (fun r_3 u_4 t H1 locs ht hvm hw hB hz1 hk1 hS => ?_)
  try dsimp only at hw
  have hP1 : va_P (dC, dI) vwCl [] H1 := kz_P0
  have hD1 : va_D (va_A [(z, .inr (12, [.ref tm, .int 0, .int 0, .int 0, .int 0, .int 0, .int 0, .int 0, .int 0, .ref a9, .ref nw, .ref a11, .ref a12, .int 0, .int 0, .int 0, .ref a16, .ref a17, .ref a18, .ref a19, .ref a20, .ref a21, .ref a22, .ref a23, .ref a24, .ref a25, .ref a26, .int 0, .ref a28, .ref a29, .ref a30, .ref a31, .ref a32, .ref a33, .int 0, .ref a35, .ref a36]))] H.size) [] := kz_D0
  have hK1 : va_K (dC, dI) vwCl [] s := hK.sub [] rfl
  obtain ⟨hP, hD⟩ := va_join (wr := [(tp, .inr (8, [.ref i1, .ref i2, .int 0, .int 0, .int 0, .int 0, .int 0, .ref bt, .int 0, .int 0, .int 0])), (bt, .inl (cB, 300, .inl (fun _ => 0))), (hi, .inr (3, [.int 0, .ref t1, .ref t2, .int 0])), (sh, .inl (cT, 2, .inr (.inr (.inr (.inr (fun _ => none)))))), (tm, .inl (cM, 300, .inl (fun _ => 0))), (nw, .inl (cI, 12507, .inl (fun _ => 0)))]) (w1 := []) hP hD [4] [0, 1, 2, 3, 5, 6] rfl rfl (by decide) (by decide) hk1 hFc hP1 hD1
  have hK := (hK.sub (tys' := [(cB, .byte), (cT, .object RX10), (cM, .byte), (cI, .int)]) [0, 1, 2, 3] rfl).app hK1
  generalize H1 = H at hP hS ⊢
  have hP : va_P (dC, dI) vwCl [(tp, .inr (8, [.ref i1, .ref i2, .int 0, .int 0, .int 0, .int 0, .int 0, .ref bt, .int 0, .int 0, .int 0])), (bt, .inl (cB, 300, .inl (fun _ => 0))), (hi, .inr (3, [.int 0, .ref t1, .ref t2, .int 0])), (sh, .inl (cT, 2, .inr (.inr (.inr (.inr (fun _ => none)))))), (tm, .inl (cM, 300, .inl (fun _ => 0))), (nw, .inl (cI, 12507, .inl (fun _ => 0)))] H := hP
  have hD : va_D (fun q : Nat => s.heap.size ≤ q) [(tp, .inr (8, [.ref i1, .ref i2, .int 0, .int 0, .int 0, .int 0, .int 0, .ref bt, .int 0, .int 0, .int 0])), (bt, .inl (cB, 300, .inl (fun _ => 0))), (hi, .inr (3, [.int 0, .ref t1, .ref t2, .int 0])), (sh, .inl (cT, 2, .inr (.inr (.inr (.inr (fun _ => none)))))), (tm, .inl (cM, 300, .inl (fun _ => 0))), (nw, .inl (cI, 12507, .inl (fun _ => 0)))] := hD
  have hK : va_K (dC, dI) vwCl [(cB, .byte), (cT, .object RX10), (cM, .byte), (cI, .int)] s := hK
  obtain rfl : r_3 = (-1) := hw
  refine lv_icmp_eq (tgt := 971) hx hb dL_law_313 (by decide) (fun _ => ?_) (fun c9 => absurd (by decide) c9)
  exact law_tail C00 hS (lv_sub hl [0, 3] rfl)
set_option maxHeartbeats 4000000 in
set_option maxRecDepth 100000 in
theorem law_4 {p : Program} {l : Launch} {e : Env} {s : State} {m : MethodId} {below : List Frame} {meth : Method} {c : Code} {b : Nat} {xs : Nat → Int32} {dC : Nat → ClassId} {dI : Nat → Nat → Nat} {x tp hi sh g3 g4 g5 g6 g7 g8 g9 i1 i2 bt t1 t2 z tm a9 nw a11 a12 a16 a17 a18 a19 a20 a21 a22 a23 a24 a25 a26 a28 a29 a30 a31 a32 a33 a35 a36 : Nat} {cB cT cM cI : ClassId} (C00 : lw_At p s m meth c b 6 xs) (hK : va_K (dC, dI) vwCl [(cB, .byte), (cT, .object RX10), (cM, .byte), (cI, .int)] s) {H : Heap} {locs : List Loc} (hP : va_P (dC, dI) vwCl [(x, .inr (11, [.ref tp, .ref hi, .ref sh, .ref g3, .ref g4, .ref g5, .ref g6, .ref g7, .ref g8, .ref g9, .int 0, .int 0])), (tp, .inr (8, [.ref i1, .ref i2, .int 0, .int 0, .int 0, .int 0, .int 0, .ref bt, .int 0, .int 0, .int 0])), (bt, .inl (cB, 300, .inl (fun _ => 0))), (hi, .inr (3, [.int 0, .ref t1, .ref t2, .int 0])), (sh, .inl (cT, 2, .inr (.inr (.inr (.inr (fun _ => none)))))), (z, .inr (12, [.ref tm, .int 0, .int 0, .int 0, .int 0, .int 0, .int 0, .int 0, .int 0, .ref a9, .ref nw, .ref a11, .ref a12, .int 0, .int 0, .int 0, .ref a16, .ref a17, .ref a18, .ref a19, .ref a20, .ref a21, .ref a22, .ref a23, .ref a24, .ref a25, .ref a26, .int 0, .ref a28, .ref a29, .ref a30, .ref a31, .ref a32, .ref a33, .int 0, .ref a35, .ref a36])), (tm, .inl (cM, 300, .inl (fun _ => 0))), (nw, .inl (cI, 12507, .inl (fun _ => 0)))] H) (hD : va_D (fun q : Nat => s.heap.size ≤ q) [(x, .inr (11, [.ref tp, .ref hi, .ref sh, .ref g3, .ref g4, .ref g5, .ref g6, .ref g7, .ref g8, .ref g9, .int 0, .int 0])), (tp, .inr (8, [.ref i1, .ref i2, .int 0, .int 0, .int 0, .int 0, .int 0, .ref bt, .int 0, .int 0, .int 0])), (bt, .inl (cB, 300, .inl (fun _ => 0))), (hi, .inr (3, [.int 0, .ref t1, .ref t2, .int 0])), (sh, .inl (cT, 2, .inr (.inr (.inr (.inr (fun _ => none)))))), (z, .inr (12, [.ref tm, .int 0, .int 0, .int 0, .int 0, .int 0, .int 0, .int 0, .int 0, .ref a9, .ref nw, .ref a11, .ref a12, .int 0, .int 0, .int 0, .ref a16, .ref a17, .ref a18, .ref a19, .ref a20, .ref a21, .ref a22, .ref a23, .ref a24, .ref a25, .ref a26, .int 0, .ref a28, .ref a29, .ref a30, .ref a31, .ref a32, .ref a33, .int 0, .ref a35, .ref a36])), (tm, .inl (cM, 300, .inl (fun _ => 0))), (nw, .inl (cI, 12507, .inl (fun _ => 0)))]) (hS : va_S (fun q : Nat => s.heap.size ≤ q) s.heap H locs) {ls : Array Slot} (hl : lv_has ls 4 [(3, .int 0), (2, .ref z), (1, .ref x), (0, .ref b)]) : W p l e room_1 s m #[Value.ref b] below meth c H locs 80 147144 (lw_Z below #[Value.ref b] s) (F0 m 318 ls []) := by
  obtain ⟨hx, hb, hr, hml, hown, hts, hX, hbl, hlocks, hgv⟩ := id C00
  have hts : ∀ w ∈ wsU, w.before #[Value.ref b] s = true := fun w h => hts w (wsU_in w h)
  have hown : s.vm.findClass RL = some m.cls := hown
  have hA : ∀ q : Nat, s.heap.size ≤ q → (fun q : Nat => s.heap.size ≤ q) q := fun _ h => h
  have hbA : ¬ (fun q : Nat => s.heap.size ≤ q) b := Nat.not_le.mpr hbl
  refine lv_aload_n hx hb dL_law_318 rfl (lv_at hl 2 rfl) ?_
  refine lv_aload_n hx hb dL_law_319 rfl (lv_at hl 3 rfl) ?_
  refine lv_iload_n hx hb dL_law_320 rfl (lv_at hl 0 rfl) ?_
  refine lv_iconst (v := 1) hx hb dL_law_321 (by decide) ?_
  refine lv_iadd hx hb dL_law_322 ?_
  refine kz_topi (y := 1) (by decide) ?_
  refine va_sld hx hb hX hbl hbA hS (i := 1) (kz_in (by decide +kernel)) dL_law_323 ?_
  refine kz_topi (y := xs 1) (congrArg xs (by decide)) ?_
  have hPc := hP.sub (ws' := [(x, .inr (11, [.ref tp, .ref hi, .ref sh, .ref g3, .ref g4, .ref g5, .ref g6, .ref g7, .ref g8, .ref g9, .int 0, .int 0]))]) [0] rfl
  have hDc := hD.sub (ws' := [(x, .inr (11, [.ref tp, .ref hi, .ref sh, .ref g3, .ref g4, .ref g5, .ref g6, .ref g7, .ref g8, .ref g9, .int 0, .int 0]))]) [0] (by decide) rfl
  have hKc := hK.sub (tys' := []) [] rfl
  have hFc := va_free (wc := [(x, .inr (11, [.ref tp, .ref hi, .ref sh, .ref g3, .ref g4, .ref g5, .ref g6, .ref g7, .ref g8, .ref g9, .int 0, .int 0]))]) hD hS hA [0] rfl
  refine va_calli (va_runV (As := [.int (xs 1)]) (rest := []) ⟨hx, hb, hml, hown, hts⟩ (c_X11_remove l dC dI (x) (tp) (hi) (sh) (g3) (g4) (g5) (g6) (g7) (g8) (g9) ((xs 1)) H.size) (cwV 1 hts (kz_gV qw_823 qw_824 qw_825 qw_2 qw_826) rfl rfl rfl (by decide +kernel) ⟨Nat.le_of_ble_eq_true rfl, Nat.le_of_ble_eq_true rfl⟩) (⟨(kz_preS hPc hKc hDc).1, (va_recv hKc hPc (ci := 11) (q0 := 0) rfl rfl), (kz_preS hPc hKc hDc).2⟩) rfl rfl hl.1 rfl (lv_room (Nat.le_of_ble_eq_true rfl)) dL_law_324 ⟨Nat.le_of_ble_eq_true rfl, Nat.le_of_ble_eq_true rfl⟩) hS (fun q _ h => hFc q h) hFc (fun r_1 u_2 t H1 locs ht hvm hw hB hz1 hk1 hS => ?_)
  try dsimp only at hw
  have hP1 : va_P (dC, dI) vwCl [] H1 := kz_P0
  have hD1 : va_D (va_A [(x, .inr (11, [.ref tp, .ref hi, .ref sh, .ref g3, .ref g4, .ref g5, .ref g6, .ref g7, .ref g8, .ref g9, .int 0, .int 0]))] H.size) [] := kz_D0
  have hK1 : va_K (dC, dI) vwCl [] s := hK.sub [] rfl
  obtain ⟨hP, hD⟩ := va_join (wr := [(tp, .inr (8, [.ref i1, .ref i2, .int 0, .int 0, .int 0, .int 0, .int 0, .ref bt, .int 0, .int 0, .int 0])), (bt, .inl (cB, 300, .inl (fun _ => 0))), (hi, .inr (3, [.int 0, .ref t1, .ref t2, .int 0])), (sh, .inl (cT, 2, .inr (.inr (.inr (.inr (fun _ => none)))))), (z, .inr (12, [.ref tm, .int 0, .int 0, .int 0, .int 0, .int 0, .int 0, .int 0, .int 0, .ref a9, .ref nw, .ref a11, .ref a12, .int 0, .int 0, .int 0, .ref a16, .ref a17, .ref a18, .ref a19, .ref a20, .ref a21, .ref a22, .ref a23, .ref a24, .ref a25, .ref a26, .int 0, .ref a28, .ref a29, .ref a30, .ref a31, .ref a32, .ref a33, .int 0, .ref a35, .ref a36])), (tm, .inl (cM, 300, .inl (fun _ => 0))), (nw, .inl (cI, 12507, .inl (fun _ => 0)))]) (w1 := []) hP hD [0] [1, 2, 3, 4, 5, 6, 7] rfl rfl (by decide) (by decide) hk1 hFc hP1 hD1
  have hK := (hK.sub (tys' := [(cB, .byte), (cT, .object RX10), (cM, .byte), (cI, .int)]) [0, 1, 2, 3] rfl).app hK1
  generalize H1 = H at hP hS ⊢
  have hP : va_P (dC, dI) vwCl [(tp, .inr (8, [.ref i1, .ref i2, .int 0, .int 0, .int 0, .int 0, .int 0, .ref bt, .int 0, .int 0, .int 0])), (bt, .inl (cB, 300, .inl (fun _ => 0))), (hi, .inr (3, [.int 0, .ref t1, .ref t2, .int 0])), (sh, .inl (cT, 2, .inr (.inr (.inr (.inr (fun _ => none)))))), (z, .inr (12, [.ref tm, .int 0, .int 0, .int 0, .int 0, .int 0, .int 0, .int 0, .int 0, .ref a9, .ref nw, .ref a11, .ref a12, .int 0, .int 0, .int 0, .ref a16, .ref a17, .ref a18, .ref a19, .ref a20, .ref a21, .ref a22, .ref a23, .ref a24, .ref a25, .ref a26, .int 0, .ref a28, .ref a29, .ref a30, .ref a31, .ref a32, .ref a33, .int 0, .ref a35, .ref a36])), (tm, .inl (cM, 300, .inl (fun _ => 0))), (nw, .inl (cI, 12507, .inl (fun _ => 0)))] H := hP
  have hD : va_D (fun q : Nat => s.heap.size ≤ q) [(tp, .inr (8, [.ref i1, .ref i2, .int 0, .int 0, .int 0, .int 0, .int 0, .ref bt, .int 0, .int 0, .int 0])), (bt, .inl (cB, 300, .inl (fun _ => 0))), (hi, .inr (3, [.int 0, .ref t1, .ref t2, .int 0])), (sh, .inl (cT, 2, .inr (.inr (.inr (.inr (fun _ => none)))))), (z, .inr (12, [.ref tm, .int 0, .int 0, .int 0, .int 0, .int 0, .int 0, .int 0, .int 0, .ref a9, .ref nw, .ref a11, .ref a12, .int 0, .int 0, .int 0, .ref a16, .ref a17, .ref a18, .ref a19, .ref a20, .ref a21, .ref a22, .ref a23, .ref a24, .ref a25, .ref a26, .int 0, .ref a28, .ref a29, .ref a30, .ref a31, .ref a32, .ref a33, .int 0, .ref a35, .ref a36])), (tm, .inl (cM, 300, .inl (fun _ => 0))), (nw, .inl (cI, 12507, .inl (fun _ => 0)))] := hD
  have hK : va_K (dC, dI) vwCl [(cB, .byte), (cT, .object RX10), (cM, .byte), (cI, .int)] s := hK
  obtain rfl : r_1 = (-1) := hw
  refine lv_aload_n hx hb dL_law_327 rfl (lv_at hl 1 rfl) ?_
  refine lv_aload_n hx hb dL_law_328 rfl (lv_at hl 3 rfl) ?_
  refine lv_iload_n hx hb dL_law_329 rfl (lv_at hl 0 rfl) ?_
  refine lv_iconst (v := 1) hx hb dL_law_330 (by decide) ?_
  refine lv_iadd hx hb dL_law_331 ?_
  refine kz_topi (y := 1) (by decide) ?_
  refine va_sld hx hb hX hbl hbA hS (i := 1) (kz_in (by decide +kernel)) dL_law_332 ?_
  refine kz_topi (y := xs 1) (congrArg xs (by decide)) ?_
  have hPc := hP.sub (ws' := [(z, .inr (12, [.ref tm, .int 0, .int 0, .int 0, .int 0, .int 0, .int 0, .int 0, .int 0, .ref a9, .ref nw, .ref a11, .ref a12, .int 0, .int 0, .int 0, .ref a16, .ref a17, .ref a18, .ref a19, .ref a20, .ref a21, .ref a22, .ref a23, .ref a24, .ref a25, .ref a26, .int 0, .ref a28, .ref a29, .ref a30, .ref a31, .ref a32, .ref a33, .int 0, .ref a35, .ref a36])), (nw, .inl (cI, 12507, .inl (fun _ => 0)))]) [4, 6] rfl
  have hDc := hD.sub (ws' := [(z, .inr (12, [.ref tm, .int 0, .int 0, .int 0, .int 0, .int 0, .int 0, .int 0, .int 0, .ref a9, .ref nw, .ref a11, .ref a12, .int 0, .int 0, .int 0, .ref a16, .ref a17, .ref a18, .ref a19, .ref a20, .ref a21, .ref a22, .ref a23, .ref a24, .ref a25, .ref a26, .int 0, .ref a28, .ref a29, .ref a30, .ref a31, .ref a32, .ref a33, .int 0, .ref a35, .ref a36])), (nw, .inl (cI, 12507, .inl (fun _ => 0)))]) [4, 6] (by decide) rfl
  have hKc := hK.sub (tys' := [(cI, .int)]) [3] rfl
  have hFc := va_free (wc := [(z, .inr (12, [.ref tm, .int 0, .int 0, .int 0, .int 0, .int 0, .int 0, .int 0, .int 0, .ref a9, .ref nw, .ref a11, .ref a12, .int 0, .int 0, .int 0, .ref a16, .ref a17, .ref a18, .ref a19, .ref a20, .ref a21, .ref a22, .ref a23, .ref a24, .ref a25, .ref a26, .int 0, .ref a28, .ref a29, .ref a30, .ref a31, .ref a32, .ref a33, .int 0, .ref a35, .ref a36])), (nw, .inl (cI, 12507, .inl (fun _ => 0)))]) hD hS hA [4, 6] rfl
  refine va_calli (va_runV (As := [.int (xs 1)]) (rest := [.int (-1)]) ⟨hx, hb, hml, hown, hts⟩ (c_X12_remove l dC dI (z) (tm) (a9) (nw) (a11) (a12) (a16) (a17) (a18) (a19) (a20) (a21) (a22) (a23) (a24) (a25) (a26) (a28) (a29) (a30) (a31) (a32) (a33) (a35) (a36) (cI) ((xs 1)) H.size) (cwV 1 hts (kz_gV qw_847 qw_848 qw_849 qw_5 qw_850) rfl rfl rfl (by decide +kernel) ⟨Nat.le_of_ble_eq_true rfl, Nat.le_of_ble_eq_true rfl⟩) (⟨(kz_preS hPc hKc hDc).1, (va_recv hKc hPc (ci := 12) (q0 := 0) rfl rfl), (kz_preS hPc hKc hDc).2⟩) rfl rfl hl.1 rfl (lv_room (Nat.le_of_ble_eq_true rfl)) dL_law_333 ⟨Nat.le_of_ble_eq_true rfl, Nat.le_of_ble_eq_true rfl⟩) hS (fun q _ h => hFc q h) hFc (fun r_3 u_4 t H1 locs ht hvm hw hB hz1 hk1 hS => ?_)
  try dsimp only at hw
  have hP1 : va_P (dC, dI) vwCl [] H1 := kz_P0
  have hD1 : va_D (va_A [(z, .inr (12, [.ref tm, .int 0, .int 0, .int 0, .int 0, .int 0, .int 0, .int 0, .int 0, .ref a9, .ref nw, .ref a11, .ref a12, .int 0, .int 0, .int 0, .ref a16, .ref a17, .ref a18, .ref a19, .ref a20, .ref a21, .ref a22, .ref a23, .ref a24, .ref a25, .ref a26, .int 0, .ref a28, .ref a29, .ref a30, .ref a31, .ref a32, .ref a33, .int 0, .ref a35, .ref a36])), (nw, .inl (cI, 12507, .inl (fun _ => 0)))] H.size) [] := kz_D0
  have hK1 : va_K (dC, dI) vwCl [] s := hK.sub [] rfl
  obtain ⟨hP, hD⟩ := va_join (wr := [(tp, .inr (8, [.ref i1, .ref i2, .int 0, .int 0, .int 0, .int 0, .int 0, .ref bt, .int 0, .int 0, .int 0])), (bt, .inl (cB, 300, .inl (fun _ => 0))), (hi, .inr (3, [.int 0, .ref t1, .ref t2, .int 0])), (sh, .inl (cT, 2, .inr (.inr (.inr (.inr (fun _ => none)))))), (tm, .inl (cM, 300, .inl (fun _ => 0)))]) (w1 := []) hP hD [4, 6] [0, 1, 2, 3, 5] rfl rfl (by decide) (by decide) hk1 hFc hP1 hD1
  have hK := (hK.sub (tys' := [(cB, .byte), (cT, .object RX10), (cM, .byte)]) [0, 1, 2] rfl).app hK1
  generalize H1 = H at hP hS ⊢
  have hP : va_P (dC, dI) vwCl [(tp, .inr (8, [.ref i1, .ref i2, .int 0, .int 0, .int 0, .int 0, .int 0, .ref bt, .int 0, .int 0, .int 0])), (bt, .inl (cB, 300, .inl (fun _ => 0))), (hi, .inr (3, [.int 0, .ref t1, .ref t2, .int 0])), (sh, .inl (cT, 2, .inr (.inr (.inr (.inr (fun _ => none)))))), (tm, .inl (cM, 300, .inl (fun _ => 0)))] H := hP
  have hD : va_D (fun q : Nat => s.heap.size ≤ q) [(tp, .inr (8, [.ref i1, .ref i2, .int 0, .int 0, .int 0, .int 0, .int 0, .ref bt, .int 0, .int 0, .int 0])), (bt, .inl (cB, 300, .inl (fun _ => 0))), (hi, .inr (3, [.int 0, .ref t1, .ref t2, .int 0])), (sh, .inl (cT, 2, .inr (.inr (.inr (.inr (fun _ => none)))))), (tm, .inl (cM, 300, .inl (fun _ => 0)))] := hD
  have hK : va_K (dC, dI) vwCl [(cB, .byte), (cT, .object RX10), (cM, .byte)] s := hK
  obtain rfl : r_3 = (-1) := hw
  refine lv_icmp_eq (tgt := 971) hx hb dL_law_336 (by decide) (fun _ => ?_) (fun c9 => absurd (by decide) c9)
  exact law_tail C00 hS (lv_sub hl [0, 3] rfl)
set_option maxHeartbeats 4000000 in
set_option maxRecDepth 100000 in
theorem law_5 {p : Program} {l : Launch} {e : Env} {s : State} {m : MethodId} {below : List Frame} {meth : Method} {c : Code} {b : Nat} {xs : Nat → Int32} {dC : Nat → ClassId} {dI : Nat → Nat → Nat} {x tp hi sh g3 g4 g5 g6 g7 g8 g9 i1 i2 bt t1 t2 z tm a9 nw a11 a12 a16 a17 a18 a19 a20 a21 a22 a23 a24 a25 a26 a28 a29 a30 a31 a32 a33 a35 a36 : Nat} {cB cT cM cI : ClassId} (C00 : lw_At p s m meth c b 6 xs) (hK : va_K (dC, dI) vwCl [(cB, .byte), (cT, .object RX10), (cM, .byte), (cI, .int)] s) {H : Heap} {locs : List Loc} (hP : va_P (dC, dI) vwCl [(x, .inr (11, [.ref tp, .ref hi, .ref sh, .ref g3, .ref g4, .ref g5, .ref g6, .ref g7, .ref g8, .ref g9, .int 0, .int 0])), (tp, .inr (8, [.ref i1, .ref i2, .int 0, .int 0, .int 0, .int 0, .int 0, .ref bt, .int 0, .int 0, .int 0])), (bt, .inl (cB, 300, .inl (fun _ => 0))), (hi, .inr (3, [.int 0, .ref t1, .ref t2, .int 0])), (sh, .inl (cT, 2, .inr (.inr (.inr (.inr (fun _ => none)))))), (z, .inr (12, [.ref tm, .int 0, .int 0, .int 0, .int 0, .int 0, .int 0, .int 0, .int 0, .ref a9, .ref nw, .ref a11, .ref a12, .int 0, .int 0, .int 0, .ref a16, .ref a17, .ref a18, .ref a19, .ref a20, .ref a21, .ref a22, .ref a23, .ref a24, .ref a25, .ref a26, .int 0, .ref a28, .ref a29, .ref a30, .ref a31, .ref a32, .ref a33, .int 0, .ref a35, .ref a36])), (tm, .inl (cM, 300, .inl (fun _ => 0))), (nw, .inl (cI, 12507, .inl (fun _ => 0)))] H) (hD : va_D (fun q : Nat => s.heap.size ≤ q) [(x, .inr (11, [.ref tp, .ref hi, .ref sh, .ref g3, .ref g4, .ref g5, .ref g6, .ref g7, .ref g8, .ref g9, .int 0, .int 0])), (tp, .inr (8, [.ref i1, .ref i2, .int 0, .int 0, .int 0, .int 0, .int 0, .ref bt, .int 0, .int 0, .int 0])), (bt, .inl (cB, 300, .inl (fun _ => 0))), (hi, .inr (3, [.int 0, .ref t1, .ref t2, .int 0])), (sh, .inl (cT, 2, .inr (.inr (.inr (.inr (fun _ => none)))))), (z, .inr (12, [.ref tm, .int 0, .int 0, .int 0, .int 0, .int 0, .int 0, .int 0, .int 0, .ref a9, .ref nw, .ref a11, .ref a12, .int 0, .int 0, .int 0, .ref a16, .ref a17, .ref a18, .ref a19, .ref a20, .ref a21, .ref a22, .ref a23, .ref a24, .ref a25, .ref a26, .int 0, .ref a28, .ref a29, .ref a30, .ref a31, .ref a32, .ref a33, .int 0, .ref a35, .ref a36])), (tm, .inl (cM, 300, .inl (fun _ => 0))), (nw, .inl (cI, 12507, .inl (fun _ => 0)))]) (hS : va_S (fun q : Nat => s.heap.size ≤ q) s.heap H locs) {ls : Array Slot} (hl : lv_has ls 4 [(3, .int 0), (2, .ref z), (1, .ref x), (0, .ref b)]) : W p l e room_1 s m #[Value.ref b] below meth c H locs 80 147144 (lw_Z below #[Value.ref b] s) (F0 m 341 ls []) := by
  obtain ⟨hx, hb, hr, hml, hown, hts, hX, hbl, hlocks, hgv⟩ := id C00
  have hts : ∀ w ∈ wsU, w.before #[Value.ref b] s = true := fun w h => hts w (wsU_in w h)
  have hown : s.vm.findClass RL = some m.cls := hown
  have hA : ∀ q : Nat, s.heap.size ≤ q → (fun q : Nat => s.heap.size ≤ q) q := fun _ h => h
  have hbA : ¬ (fun q : Nat => s.heap.size ≤ q) b := Nat.not_le.mpr hbl
  refine lv_aload_n hx hb dL_law_341 rfl (lv_at hl 2 rfl) ?_
  refine lv_aload_n hx hb dL_law_342 rfl (lv_at hl 3 rfl) ?_
  refine lv_iload_n hx hb dL_law_343 rfl (lv_at hl 0 rfl) ?_
  refine lv_iconst (v := 1) hx hb dL_law_344 (by decide) ?_
  refine lv_iadd hx hb dL_law_345 ?_
  refine kz_topi (y := 1) (by decide) ?_
  refine va_sld hx hb hX hbl hbA hS (i := 1) (kz_in (by decide +kernel)) dL_law_346 ?_
  refine kz_topi (y := xs 1) (congrArg xs (by decide)) ?_
  refine lv_aload_n hx hb dL_law_347 rfl (lv_at hl 3 rfl) ?_
  refine lv_iload_n hx hb dL_law_348 rfl (lv_at hl 0 rfl) ?_
  refine lv_iconst (v := 2) hx hb dL_law_349 (by decide) ?_
  refine lv_iadd hx hb dL_law_350 ?_
  refine kz_topi (y := 2) (by decide) ?_
  refine va_sld hx hb hX hbl hbA hS (i := 2) (kz_in (by decide +kernel)) dL_law_351 ?_
  refine kz_topi (y := xs 2) (congrArg xs (by decide)) ?_
  refine lv_aload_n hx hb dL_law_352 rfl (lv_at hl 3 rfl) ?_
  refine lv_iload_n hx hb dL_law_353 rfl (lv_at hl 0 rfl) ?_
  refine lv_iconst (v := 3) hx hb dL_law_354 (by decide) ?_
  refine lv_iadd hx hb dL_law_355 ?_
  refine kz_topi (y := 3) (by decide) ?_
  refine va_sld hx hb hX hbl hbA hS (i := 3) (kz_in (by decide +kernel)) dL_law_356 ?_
  refine kz_topi (y := xs 3) (congrArg xs (by decide)) ?_
  have hPc := hP.sub (ws' := [(x, .inr (11, [.ref tp, .ref hi, .ref sh, .ref g3, .ref g4, .ref g5, .ref g6, .ref g7, .ref g8, .ref g9, .int 0, .int 0]))]) [0] rfl
  have hDc := hD.sub (ws' := [(x, .inr (11, [.ref tp, .ref hi, .ref sh, .ref g3, .ref g4, .ref g5, .ref g6, .ref g7, .ref g8, .ref g9, .int 0, .int 0]))]) [0] (by decide) rfl
  have hKc := hK.sub (tys' := []) [] rfl
  have hFc := va_free (wc := [(x, .inr (11, [.ref tp, .ref hi, .ref sh, .ref g3, .ref g4, .ref g5, .ref g6, .ref g7, .ref g8, .ref g9, .int 0, .int 0]))]) hD hS hA [0] rfl
  refine va_calli (va_runV (As := [.int (xs 1), .int (xs 2), .int (xs 3)]) (rest := []) ⟨hx, hb, hml, hown, hts⟩ (c_X11_shift l dC dI (x) (tp) (hi) (sh) (g3) (g4) (g5) (g6) (g7) (g8) (g9) ((xs 1)) ((xs 2)) ((xs 3)) H.size) (cwV 3 hts (kz_gV qw_859 qw_860 qw_861 qw_2 qw_862) rfl rfl rfl (by decide +kernel) ⟨Nat.le_of_ble_eq_true rfl, Nat.le_of_ble_eq_true rfl⟩) (⟨(kz_preS hPc hKc hDc).1, (va_recv hKc hPc (ci := 11) (q0 := 0) rfl rfl), (kz_preS hPc hKc hDc).2⟩) rfl rfl hl.1 rfl (lv_room (Nat.le_of_ble_eq_true rfl)) dL_law_357 ⟨Nat.le_of_ble_eq_true rfl, Nat.le_of_ble_eq_true rfl⟩) hS (fun q _ h => hFc q h) hFc (fun r_1 u_2 t H1 locs ht hvm hw hB hz1 hk1 hS => ?_)
  try dsimp only at hw
  have hP1 : va_P (dC, dI) vwCl [] H1 := kz_P0
  have hD1 : va_D (va_A [(x, .inr (11, [.ref tp, .ref hi, .ref sh, .ref g3, .ref g4, .ref g5, .ref g6, .ref g7, .ref g8, .ref g9, .int 0, .int 0]))] H.size) [] := kz_D0
  have hK1 : va_K (dC, dI) vwCl [] s := hK.sub [] rfl
  obtain ⟨hP, hD⟩ := va_join (wr := [(tp, .inr (8, [.ref i1, .ref i2, .int 0, .int 0, .int 0, .int 0, .int 0, .ref bt, .int 0, .int 0, .int 0])), (bt, .inl (cB, 300, .inl (fun _ => 0))), (hi, .inr (3, [.int 0, .ref t1, .ref t2, .int 0])), (sh, .inl (cT, 2, .inr (.inr (.inr (.inr (fun _ => none)))))), (z, .inr (12, [.ref tm, .int 0, .int 0, .int 0, .int 0, .int 0, .int 0, .int 0, .int 0, .ref a9, .ref nw, .ref a11, .ref a12, .int 0, .int 0, .int 0, .ref a16, .ref a17, .ref a18, .ref a19, .ref a20, .ref a21, .ref a22, .ref a23, .ref a24, .ref a25, .ref a26, .int 0, .ref a28, .ref a29, .ref a30, .ref a31, .ref a32, .ref a33, .int 0, .ref a35, .ref a36])), (tm, .inl (cM, 300, .inl (fun _ => 0))), (nw, .inl (cI, 12507, .inl (fun _ => 0)))]) (w1 := []) hP hD [0] [1, 2, 3, 4, 5, 6, 7] rfl rfl (by decide) (by decide) hk1 hFc hP1 hD1
  have hK := (hK.sub (tys' := [(cB, .byte), (cT, .object RX10), (cM, .byte), (cI, .int)]) [0, 1, 2, 3] rfl).app hK1
  generalize H1 = H at hP hS ⊢
  have hP : va_P (dC, dI) vwCl [(tp, .inr (8, [.ref i1, .ref i2, .int 0, .int 0, .int 0, .int 0, .int 0, .ref bt, .int 0, .int 0, .int 0])), (bt, .inl (cB, 300, .inl (fun _ => 0))), (hi, .inr (3, [.int 0, .ref t1, .ref t2, .int 0])), (sh, .inl (cT, 2, .inr (.inr (.inr (.inr (fun _ => none)))))), (z, .inr (12, [.ref tm, .int 0, .int 0, .int 0, .int 0, .int 0, .int 0, .int 0, .int 0, .ref a9, .ref nw, .ref a11, .ref a12, .int 0, .int 0, .int 0, .ref a16, .ref a17, .ref a18, .ref a19, .ref a20, .ref a21, .ref a22, .ref a23, .ref a24, .ref a25, .ref a26, .int 0, .ref a28, .ref a29, .ref a30, .ref a31, .ref a32, .ref a33, .int 0, .ref a35, .ref a36])), (tm, .inl (cM, 300, .inl (fun _ => 0))), (nw, .inl (cI, 12507, .inl (fun _ => 0)))] H := hP
  have hD : va_D (fun q : Nat => s.heap.size ≤ q) [(tp, .inr (8, [.ref i1, .ref i2, .int 0, .int 0, .int 0, .int 0, .int 0, .ref bt, .int 0, .int 0, .int 0])), (bt, .inl (cB, 300, .inl (fun _ => 0))), (hi, .inr (3, [.int 0, .ref t1, .ref t2, .int 0])), (sh, .inl (cT, 2, .inr (.inr (.inr (.inr (fun _ => none)))))), (z, .inr (12, [.ref tm, .int 0, .int 0, .int 0, .int 0, .int 0, .int 0, .int 0, .int 0, .ref a9, .ref nw, .ref a11, .ref a12, .int 0, .int 0, .int 0, .ref a16, .ref a17, .ref a18, .ref a19, .ref a20, .ref a21, .ref a22, .ref a23, .ref a24, .ref a25, .ref a26, .int 0, .ref a28, .ref a29, .ref a30, .ref a31, .ref a32, .ref a33, .int 0, .ref a35, .ref a36])), (tm, .inl (cM, 300, .inl (fun _ => 0))), (nw, .inl (cI, 12507, .inl (fun _ => 0)))] := hD
  have hK : va_K (dC, dI) vwCl [(cB, .byte), (cT, .object RX10), (cM, .byte), (cI, .int)] s := hK
  obtain rfl : r_1 = (-1) := hw
  refine lv_aload_n hx hb dL_law_360 rfl (lv_at hl 1 rfl) ?_
  refine lv_aload_n hx hb dL_law_361 rfl (lv_at hl 3 rfl) ?_
  refine lv_iload_n hx hb dL_law_362 rfl (lv_at hl 0 rfl) ?_
  refine lv_iconst (v := 1) hx hb dL_law_363 (by decide) ?_
  refine lv_iadd hx hb dL_law_364 ?_
  refine kz_topi (y := 1) (by decide) ?_
  refine va_sld hx hb hX hbl hbA hS (i := 1) (kz_in (by decide +kernel)) dL_law_365 ?_
  refine kz_topi (y := xs 1) (congrArg xs (by decide)) ?_
  refine lv_aload_n hx hb dL_law_366 rfl (lv_at hl 3 rfl) ?_
  refine lv_iload_n hx hb dL_law_367 rfl (lv_at hl 0 rfl) ?_
  refine lv_iconst (v := 2) hx hb dL_law_368 (by decide) ?_
  refine lv_iadd hx hb dL_law_369 ?_
  refine kz_topi (y := 2) (by decide) ?_
  refine va_sld hx hb hX hbl hbA hS (i := 2) (kz_in (by decide +kernel)) dL_law_370 ?_
  refine kz_topi (y := xs 2) (congrArg xs (by decide)) ?_
  refine lv_aload_n hx hb dL_law_371 rfl (lv_at hl 3 rfl) ?_
  refine lv_iload_n hx hb dL_law_372 rfl (lv_at hl 0 rfl) ?_
  refine lv_iconst (v := 3) hx hb dL_law_373 (by decide) ?_
  refine lv_iadd hx hb dL_law_374 ?_
  refine kz_topi (y := 3) (by decide) ?_
  refine va_sld hx hb hX hbl hbA hS (i := 3) (kz_in (by decide +kernel)) dL_law_375 ?_
  refine kz_topi (y := xs 3) (congrArg xs (by decide)) ?_
  have hPc := hP.sub (ws' := [(z, .inr (12, [.ref tm, .int 0, .int 0, .int 0, .int 0, .int 0, .int 0, .int 0, .int 0, .ref a9, .ref nw, .ref a11, .ref a12, .int 0, .int 0, .int 0, .ref a16, .ref a17, .ref a18, .ref a19, .ref a20, .ref a21, .ref a22, .ref a23, .ref a24, .ref a25, .ref a26, .int 0, .ref a28, .ref a29, .ref a30, .ref a31, .ref a32, .ref a33, .int 0, .ref a35, .ref a36])), (nw, .inl (cI, 12507, .inl (fun _ => 0)))]) [4, 6] rfl
  have hDc := hD.sub (ws' := [(z, .inr (12, [.ref tm, .int 0, .int 0, .int 0, .int 0, .int 0, .int 0, .int 0, .int 0, .ref a9, .ref nw, .ref a11, .ref a12, .int 0, .int 0, .int 0, .ref a16, .ref a17, .ref a18, .ref a19, .ref a20, .ref a21, .ref a22, .ref a23, .ref a24, .ref a25, .ref a26, .int 0, .ref a28, .ref a29, .ref a30, .ref a31, .ref a32, .ref a33, .int 0, .ref a35, .ref a36])), (nw, .inl (cI, 12507, .inl (fun _ => 0)))]) [4, 6] (by decide) rfl
  have hKc := hK.sub (tys' := [(cI, .int)]) [3] rfl
  have hFc := va_free (wc := [(z, .inr (12, [.ref tm, .int 0, .int 0, .int 0, .int 0, .int 0, .int 0, .int 0, .int 0, .ref a9, .ref nw, .ref a11, .ref a12, .int 0, .int 0, .int 0, .ref a16, .ref a17, .ref a18, .ref a19, .ref a20, .ref a21, .ref a22, .ref a23, .ref a24, .ref a25, .ref a26, .int 0, .ref a28, .ref a29, .ref a30, .ref a31, .ref a32, .ref a33, .int 0, .ref a35, .ref a36])), (nw, .inl (cI, 12507, .inl (fun _ => 0)))]) hD hS hA [4, 6] rfl
  refine va_calli (va_runV (As := [.int (xs 1), .int (xs 2), .int (xs 3)]) (rest := [.int (-1)]) ⟨hx, hb, hml, hown, hts⟩ (c_X12_shift l dC dI (z) (tm) (a9) (nw) (a11) (a12) (a16) (a17) (a18) (a19) (a20) (a21) (a22) (a23) (a24) (a25) (a26) (a28) (a29) (a30) (a31) (a32) (a33) (a35) (a36) (cI) ((xs 1)) ((xs 2)) ((xs 3)) H.size) (cwV 3 hts (kz_gV qw_866 qw_867 qw_868 qw_5 qw_869) rfl rfl rfl (by decide +kernel) ⟨Nat.le_of_ble_eq_true rfl, Nat.le_of_ble_eq_true rfl⟩) (⟨(kz_preS hPc hKc hDc).1, (va_recv hKc hPc (ci := 12) (q0 := 0) rfl rfl), (kz_preS hPc hKc hDc).2⟩) rfl rfl hl.1 rfl (lv_room (Nat.le_of_ble_eq_true rfl)) dL_law_376 ⟨Nat.le_of_ble_eq_true rfl, Nat.le_of_ble_eq_true rfl⟩) hS (fun q _ h => hFc q h) hFc (fun r_3 u_4 t H1 locs ht hvm hw hB hz1 hk1 hS => ?_)
  try dsimp only at hw
  have hP1 : va_P (dC, dI) vwCl [] H1 := kz_P0
  have hD1 : va_D (va_A [(z, .inr (12, [.ref tm, .int 0, .int 0, .int 0, .int 0, .int 0, .int 0, .int 0, .int 0, .ref a9, .ref nw, .ref a11, .ref a12, .int 0, .int 0, .int 0, .ref a16, .ref a17, .ref a18, .ref a19, .ref a20, .ref a21, .ref a22, .ref a23, .ref a24, .ref a25, .ref a26, .int 0, .ref a28, .ref a29, .ref a30, .ref a31, .ref a32, .ref a33, .int 0, .ref a35, .ref a36])), (nw, .inl (cI, 12507, .inl (fun _ => 0)))] H.size) [] := kz_D0
  have hK1 : va_K (dC, dI) vwCl [] s := hK.sub [] rfl
  obtain ⟨hP, hD⟩ := va_join (wr := [(tp, .inr (8, [.ref i1, .ref i2, .int 0, .int 0, .int 0, .int 0, .int 0, .ref bt, .int 0, .int 0, .int 0])), (bt, .inl (cB, 300, .inl (fun _ => 0))), (hi, .inr (3, [.int 0, .ref t1, .ref t2, .int 0])), (sh, .inl (cT, 2, .inr (.inr (.inr (.inr (fun _ => none)))))), (tm, .inl (cM, 300, .inl (fun _ => 0)))]) (w1 := []) hP hD [4, 6] [0, 1, 2, 3, 5] rfl rfl (by decide) (by decide) hk1 hFc hP1 hD1
  have hK := (hK.sub (tys' := [(cB, .byte), (cT, .object RX10), (cM, .byte)]) [0, 1, 2] rfl).app hK1
  generalize H1 = H at hP hS ⊢
  have hP : va_P (dC, dI) vwCl [(tp, .inr (8, [.ref i1, .ref i2, .int 0, .int 0, .int 0, .int 0, .int 0, .ref bt, .int 0, .int 0, .int 0])), (bt, .inl (cB, 300, .inl (fun _ => 0))), (hi, .inr (3, [.int 0, .ref t1, .ref t2, .int 0])), (sh, .inl (cT, 2, .inr (.inr (.inr (.inr (fun _ => none)))))), (tm, .inl (cM, 300, .inl (fun _ => 0)))] H := hP
  have hD : va_D (fun q : Nat => s.heap.size ≤ q) [(tp, .inr (8, [.ref i1, .ref i2, .int 0, .int 0, .int 0, .int 0, .int 0, .ref bt, .int 0, .int 0, .int 0])), (bt, .inl (cB, 300, .inl (fun _ => 0))), (hi, .inr (3, [.int 0, .ref t1, .ref t2, .int 0])), (sh, .inl (cT, 2, .inr (.inr (.inr (.inr (fun _ => none)))))), (tm, .inl (cM, 300, .inl (fun _ => 0)))] := hD
  have hK : va_K (dC, dI) vwCl [(cB, .byte), (cT, .object RX10), (cM, .byte)] s := hK
  obtain rfl : r_3 = (-1) := hw
  refine lv_icmp_eq (tgt := 971) hx hb dL_law_379 (by decide) (fun _ => ?_) (fun c9 => absurd (by decide) c9)
  exact law_tail C00 hS (lv_sub hl [0, 3] rfl)
set_option maxHeartbeats 4000000 in
set_option maxRecDepth 100000 in
theorem law_6 {p : Program} {l : Launch} {e : Env} {s : State} {m : MethodId} {below : List Frame} {meth : Method} {c : Code} {b : Nat} {xs : Nat → Int32} {dC : Nat → ClassId} {dI : Nat → Nat → Nat} {x tp hi sh g3 g4 g5 g6 g7 g8 g9 i1 i2 bt t1 t2 z tm a9 nw a11 a12 a16 a17 a18 a19 a20 a21 a22 a23 a24 a25 a26 a28 a29 a30 a31 a32 a33 a35 a36 : Nat} {cB cT cM cI : ClassId} (C00 : lw_At p s m meth c b 6 xs) (hK : va_K (dC, dI) vwCl [(cB, .byte), (cT, .object RX10), (cM, .byte), (cI, .int)] s) {H : Heap} {locs : List Loc} (hP : va_P (dC, dI) vwCl [(x, .inr (11, [.ref tp, .ref hi, .ref sh, .ref g3, .ref g4, .ref g5, .ref g6, .ref g7, .ref g8, .ref g9, .int 0, .int 0])), (tp, .inr (8, [.ref i1, .ref i2, .int 0, .int 0, .int 0, .int 0, .int 0, .ref bt, .int 0, .int 0, .int 0])), (bt, .inl (cB, 300, .inl (fun _ => 0))), (hi, .inr (3, [.int 0, .ref t1, .ref t2, .int 0])), (sh, .inl (cT, 2, .inr (.inr (.inr (.inr (fun _ => none)))))), (z, .inr (12, [.ref tm, .int 0, .int 0, .int 0, .int 0, .int 0, .int 0, .int 0, .int 0, .ref a9, .ref nw, .ref a11, .ref a12, .int 0, .int 0, .int 0, .ref a16, .ref a17, .ref a18, .ref a19, .ref a20, .ref a21, .ref a22, .ref a23, .ref a24, .ref a25, .ref a26, .int 0, .ref a28, .ref a29, .ref a30, .ref a31, .ref a32, .ref a33, .int 0, .ref a35, .ref a36])), (tm, .inl (cM, 300, .inl (fun _ => 0))), (nw, .inl (cI, 12507, .inl (fun _ => 0)))] H) (hD : va_D (fun q : Nat => s.heap.size ≤ q) [(x, .inr (11, [.ref tp, .ref hi, .ref sh, .ref g3, .ref g4, .ref g5, .ref g6, .ref g7, .ref g8, .ref g9, .int 0, .int 0])), (tp, .inr (8, [.ref i1, .ref i2, .int 0, .int 0, .int 0, .int 0, .int 0, .ref bt, .int 0, .int 0, .int 0])), (bt, .inl (cB, 300, .inl (fun _ => 0))), (hi, .inr (3, [.int 0, .ref t1, .ref t2, .int 0])), (sh, .inl (cT, 2, .inr (.inr (.inr (.inr (fun _ => none)))))), (z, .inr (12, [.ref tm, .int 0, .int 0, .int 0, .int 0, .int 0, .int 0, .int 0, .int 0, .ref a9, .ref nw, .ref a11, .ref a12, .int 0, .int 0, .int 0, .ref a16, .ref a17, .ref a18, .ref a19, .ref a20, .ref a21, .ref a22, .ref a23, .ref a24, .ref a25, .ref a26, .int 0, .ref a28, .ref a29, .ref a30, .ref a31, .ref a32, .ref a33, .int 0, .ref a35, .ref a36])), (tm, .inl (cM, 300, .inl (fun _ => 0))), (nw, .inl (cI, 12507, .inl (fun _ => 0)))]) (hS : va_S (fun q : Nat => s.heap.size ≤ q) s.heap H locs) {ls : Array Slot} (hl : lv_has ls 4 [(3, .int 0), (2, .ref z), (1, .ref x), (0, .ref b)]) : W p l e room_1 s m #[Value.ref b] below meth c H locs 80 147144 (lw_Z below #[Value.ref b] s) (F0 m 384 ls []) := by
  obtain ⟨hx, hb, hr, hml, hown, hts, hX, hbl, hlocks, hgv⟩ := id C00
  have hts : ∀ w ∈ wsU, w.before #[Value.ref b] s = true := fun w h => hts w (wsU_in w h)
  have hown : s.vm.findClass RL = some m.cls := hown
  have hA : ∀ q : Nat, s.heap.size ≤ q → (fun q : Nat => s.heap.size ≤ q) q := fun _ h => h
  have hbA : ¬ (fun q : Nat => s.heap.size ≤ q) b := Nat.not_le.mpr hbl
  refine lv_aload_n hx hb dL_law_384 rfl (lv_at hl 2 rfl) ?_
  have hPc := hP.sub (ws' := [(x, .inr (11, [.ref tp, .ref hi, .ref sh, .ref g3, .ref g4, .ref g5, .ref g6, .ref g7, .ref g8, .ref g9, .int 0, .int 0]))]) [0] rfl
  have hDc := hD.sub (ws' := [(x, .inr (11, [.ref tp, .ref hi, .ref sh, .ref g3, .ref g4, .ref g5, .ref g6, .ref g7, .ref g8, .ref g9, .int 0, .int 0]))]) [0] (by decide) rfl
  have hKc := hK.sub (tys' := []) [] rfl
  have hFc := va_free (wc := [(x, .inr (11, [.ref tp, .ref hi, .ref sh, .ref g3, .ref g4, .ref g5, .ref g6, .ref g7, .ref g8, .ref g9, .int 0, .int 0]))]) hD hS hA [0] rfl
  refine va_calli (va_runV (As := []) (rest := []) ⟨hx, hb, hml, hown, hts⟩ (c_X11_bulk l dC dI (x) (tp) (hi) (sh) (g3) (g4) (g5) (g6) (g7) (g8) (g9) H.size) (cwV 0 hts (kz_gV qw_871 qw_872 qw_873 qw_2 qw_874) rfl rfl rfl (by decide +kernel) ⟨Nat.le_of_ble_eq_true rfl, Nat.le_of_ble_eq_true rfl⟩) (⟨(kz_preS hPc hKc hDc).1, (va_recv hKc hPc (ci := 11) (q0 := 0) rfl rfl), (kz_preS hPc hKc hDc).2⟩) rfl rfl hl.1 rfl (lv_room (Nat.le_of_ble_eq_true rfl)) dL_law_385 ⟨Nat.le_of_ble_eq_true rfl, Nat.le_of_ble_eq_true rfl⟩) hS (fun q _ h => hFc q h) hFc (fun r_1 u_2 t H1 locs ht hvm hw hB hz1 hk1 hS => ?_)
  try dsimp only at hw
  have hP1 : va_P (dC, dI) vwCl [] H1 := kz_P0
  have hD1 : va_D (va_A [(x, .inr (11, [.ref tp, .ref hi, .ref sh, .ref g3, .ref g4, .ref g5, .ref g6, .ref g7, .ref g8, .ref g9, .int 0, .int 0]))] H.size) [] := kz_D0
  have hK1 : va_K (dC, dI) vwCl [] s := hK.sub [] rfl
  obtain ⟨hP, hD⟩ := va_join (wr := [(tp, .inr (8, [.ref i1, .ref i2, .int 0, .int 0, .int 0, .int 0, .int 0, .ref bt, .int 0, .int 0, .int 0])), (bt, .inl (cB, 300, .inl (fun _ => 0))), (hi, .inr (3, [.int 0, .ref t1, .ref t2, .int 0])), (sh, .inl (cT, 2, .inr (.inr (.inr (.inr (fun _ => none)))))), (z, .inr (12, [.ref tm, .int 0, .int 0, .int 0, .int 0, .int 0, .int 0, .int 0, .int 0, .ref a9, .ref nw, .ref a11, .ref a12, .int 0, .int 0, .int 0, .ref a16, .ref a17, .ref a18, .ref a19, .ref a20, .ref a21, .ref a22, .ref a23, .ref a24, .ref a25, .ref a26, .int 0, .ref a28, .ref a29, .ref a30, .ref a31, .ref a32, .ref a33, .int 0, .ref a35, .ref a36])), (tm, .inl (cM, 300, .inl (fun _ => 0))), (nw, .inl (cI, 12507, .inl (fun _ => 0)))]) (w1 := []) hP hD [0] [1, 2, 3, 4, 5, 6, 7] rfl rfl (by decide) (by decide) hk1 hFc hP1 hD1
  have hK := (hK.sub (tys' := [(cB, .byte), (cT, .object RX10), (cM, .byte), (cI, .int)]) [0, 1, 2, 3] rfl).app hK1
  generalize H1 = H at hP hS ⊢
  have hP : va_P (dC, dI) vwCl [(tp, .inr (8, [.ref i1, .ref i2, .int 0, .int 0, .int 0, .int 0, .int 0, .ref bt, .int 0, .int 0, .int 0])), (bt, .inl (cB, 300, .inl (fun _ => 0))), (hi, .inr (3, [.int 0, .ref t1, .ref t2, .int 0])), (sh, .inl (cT, 2, .inr (.inr (.inr (.inr (fun _ => none)))))), (z, .inr (12, [.ref tm, .int 0, .int 0, .int 0, .int 0, .int 0, .int 0, .int 0, .int 0, .ref a9, .ref nw, .ref a11, .ref a12, .int 0, .int 0, .int 0, .ref a16, .ref a17, .ref a18, .ref a19, .ref a20, .ref a21, .ref a22, .ref a23, .ref a24, .ref a25, .ref a26, .int 0, .ref a28, .ref a29, .ref a30, .ref a31, .ref a32, .ref a33, .int 0, .ref a35, .ref a36])), (tm, .inl (cM, 300, .inl (fun _ => 0))), (nw, .inl (cI, 12507, .inl (fun _ => 0)))] H := hP
  have hD : va_D (fun q : Nat => s.heap.size ≤ q) [(tp, .inr (8, [.ref i1, .ref i2, .int 0, .int 0, .int 0, .int 0, .int 0, .ref bt, .int 0, .int 0, .int 0])), (bt, .inl (cB, 300, .inl (fun _ => 0))), (hi, .inr (3, [.int 0, .ref t1, .ref t2, .int 0])), (sh, .inl (cT, 2, .inr (.inr (.inr (.inr (fun _ => none)))))), (z, .inr (12, [.ref tm, .int 0, .int 0, .int 0, .int 0, .int 0, .int 0, .int 0, .int 0, .ref a9, .ref nw, .ref a11, .ref a12, .int 0, .int 0, .int 0, .ref a16, .ref a17, .ref a18, .ref a19, .ref a20, .ref a21, .ref a22, .ref a23, .ref a24, .ref a25, .ref a26, .int 0, .ref a28, .ref a29, .ref a30, .ref a31, .ref a32, .ref a33, .int 0, .ref a35, .ref a36])), (tm, .inl (cM, 300, .inl (fun _ => 0))), (nw, .inl (cI, 12507, .inl (fun _ => 0)))] := hD
  have hK : va_K (dC, dI) vwCl [(cB, .byte), (cT, .object RX10), (cM, .byte), (cI, .int)] s := hK
  obtain rfl : r_1 = (-1) := hw
  refine lv_aload_n hx hb dL_law_388 rfl (lv_at hl 1 rfl) ?_
  have hPc := hP.sub (ws' := [(z, .inr (12, [.ref tm, .int 0, .int 0, .int 0, .int 0, .int 0, .int 0, .int 0, .int 0, .ref a9, .ref nw, .ref a11, .ref a12, .int 0, .int 0, .int 0, .ref a16, .ref a17, .ref a18, .ref a19, .ref a20, .ref a21, .ref a22, .ref a23, .ref a24, .ref a25, .ref a26, .int 0, .ref a28, .ref a29, .ref a30, .ref a31, .ref a32, .ref a33, .int 0, .ref a35, .ref a36]))]) [4] rfl
  have hDc := hD.sub (ws' := [(z, .inr (12, [.ref tm, .int 0, .int 0, .int 0, .int 0, .int 0, .int 0, .int 0, .int 0, .ref a9, .ref nw, .ref a11, .ref a12, .int 0, .int 0, .int 0, .ref a16, .ref a17, .ref a18, .ref a19, .ref a20, .ref a21, .ref a22, .ref a23, .ref a24, .ref a25, .ref a26, .int 0, .ref a28, .ref a29, .ref a30, .ref a31, .ref a32, .ref a33, .int 0, .ref a35, .ref a36]))]) [4] (by decide) rfl
  have hKc := hK.sub (tys' := []) [] rfl
  have hFc := va_free (wc := [(z, .inr (12, [.ref tm, .int 0, .int 0, .int 0, .int 0, .int 0, .int 0, .int 0, .int 0, .ref a9, .ref nw, .ref a11, .ref a12, .int 0, .int 0, .int 0, .ref a16, .ref a17, .ref a18, .ref a19, .ref a20, .ref a21, .ref a22, .ref a23, .ref a24, .ref a25, .ref a26, .int 0, .ref a28, .ref a29, .ref a30, .ref a31, .ref a32, .ref a33, .int 0, .ref a35, .ref a36]))]) hD hS hA [4] rfl
  refine va_calli (va_runV (As := []) (rest := [.int (-1)]) ⟨hx, hb, hml, hown, hts⟩ (c_X12_bulk l dC dI (z) (tm) (a9) (nw) (a11) (a12) (a16) (a17) (a18) (a19) (a20) (a21) (a22) (a23) (a24) (a25) (a26) (a28) (a29) (a30) (a31) (a32) (a33) (a35) (a36) H.size) (cwV 0 hts (kz_gV qw_913 qw_914 qw_915 qw_5 qw_916) rfl rfl rfl (by decide +kernel) ⟨Nat.le_of_ble_eq_true rfl, Nat.le_of_ble_eq_true rfl⟩) (⟨(kz_preS hPc hKc hDc).1, (va_recv hKc hPc (ci := 12) (q0 := 0) rfl rfl), (kz_preS hPc hKc hDc).2⟩) rfl rfl hl.1 rfl (lv_room (Nat.le_of_ble_eq_true rfl)) dL_law_389 ⟨Nat.le_of_ble_eq_true rfl, Nat.le_of_ble_eq_true rfl⟩) hS (fun q _ h => hFc q h) hFc (fun r_3 u_4 t H1 locs ht hvm hw hB hz1 hk1 hS => ?_)
  try dsimp only at hw
  have hP1 : va_P (dC, dI) vwCl [] H1 := kz_P0
  have hD1 : va_D (va_A [(z, .inr (12, [.ref tm, .int 0, .int 0, .int 0, .int 0, .int 0, .int 0, .int 0, .int 0, .ref a9, .ref nw, .ref a11, .ref a12, .int 0, .int 0, .int 0, .ref a16, .ref a17, .ref a18, .ref a19, .ref a20, .ref a21, .ref a22, .ref a23, .ref a24, .ref a25, .ref a26, .int 0, .ref a28, .ref a29, .ref a30, .ref a31, .ref a32, .ref a33, .int 0, .ref a35, .ref a36]))] H.size) [] := kz_D0
  have hK1 : va_K (dC, dI) vwCl [] s := hK.sub [] rfl
  obtain ⟨hP, hD⟩ := va_join (wr := [(tp, .inr (8, [.ref i1, .ref i2, .int 0, .int 0, .int 0, .int 0, .int 0, .ref bt, .int 0, .int 0, .int 0])), (bt, .inl (cB, 300, .inl (fun _ => 0))), (hi, .inr (3, [.int 0, .ref t1, .ref t2, .int 0])), (sh, .inl (cT, 2, .inr (.inr (.inr (.inr (fun _ => none)))))), (tm, .inl (cM, 300, .inl (fun _ => 0))), (nw, .inl (cI, 12507, .inl (fun _ => 0)))]) (w1 := []) hP hD [4] [0, 1, 2, 3, 5, 6] rfl rfl (by decide) (by decide) hk1 hFc hP1 hD1
  have hK := (hK.sub (tys' := [(cB, .byte), (cT, .object RX10), (cM, .byte), (cI, .int)]) [0, 1, 2, 3] rfl).app hK1
  generalize H1 = H at hP hS ⊢
  have hP : va_P (dC, dI) vwCl [(tp, .inr (8, [.ref i1, .ref i2, .int 0, .int 0, .int 0, .int 0, .int 0, .ref bt, .int 0, .int 0, .int 0])), (bt, .inl (cB, 300, .inl (fun _ => 0))), (hi, .inr (3, [.int 0, .ref t1, .ref t2, .int 0])), (sh, .inl (cT, 2, .inr (.inr (.inr (.inr (fun _ => none)))))), (tm, .inl (cM, 300, .inl (fun _ => 0))), (nw, .inl (cI, 12507, .inl (fun _ => 0)))] H := hP
  have hD : va_D (fun q : Nat => s.heap.size ≤ q) [(tp, .inr (8, [.ref i1, .ref i2, .int 0, .int 0, .int 0, .int 0, .int 0, .ref bt, .int 0, .int 0, .int 0])), (bt, .inl (cB, 300, .inl (fun _ => 0))), (hi, .inr (3, [.int 0, .ref t1, .ref t2, .int 0])), (sh, .inl (cT, 2, .inr (.inr (.inr (.inr (fun _ => none)))))), (tm, .inl (cM, 300, .inl (fun _ => 0))), (nw, .inl (cI, 12507, .inl (fun _ => 0)))] := hD
  have hK : va_K (dC, dI) vwCl [(cB, .byte), (cT, .object RX10), (cM, .byte), (cI, .int)] s := hK
  obtain rfl : r_3 = (-1) := hw
  refine lv_icmp_eq (tgt := 971) hx hb dL_law_392 (by decide) (fun _ => ?_) (fun c9 => absurd (by decide) c9)
  exact law_tail C00 hS (lv_sub hl [0, 3] rfl)
set_option maxHeartbeats 4000000 in
set_option maxRecDepth 100000 in
theorem law_7 {p : Program} {l : Launch} {e : Env} {s : State} {m : MethodId} {below : List Frame} {meth : Method} {c : Code} {b : Nat} {xs : Nat → Int32} {dC : Nat → ClassId} {dI : Nat → Nat → Nat} {x tp hi sh g3 g4 g5 g6 g7 g8 g9 i1 i2 bt t1 t2 z tm a9 nw a11 a12 a16 a17 a18 a19 a20 a21 a22 a23 a24 a25 a26 a28 a29 a30 a31 a32 a33 a35 a36 : Nat} {cB cT cM cI : ClassId} (C00 : lw_At p s m meth c b 6 xs) (hK : va_K (dC, dI) vwCl [(cB, .byte), (cT, .object RX10), (cM, .byte), (cI, .int)] s) {H : Heap} {locs : List Loc} (hP : va_P (dC, dI) vwCl [(x, .inr (11, [.ref tp, .ref hi, .ref sh, .ref g3, .ref g4, .ref g5, .ref g6, .ref g7, .ref g8, .ref g9, .int 0, .int 0])), (tp, .inr (8, [.ref i1, .ref i2, .int 0, .int 0, .int 0, .int 0, .int 0, .ref bt, .int 0, .int 0, .int 0])), (bt, .inl (cB, 300, .inl (fun _ => 0))), (hi, .inr (3, [.int 0, .ref t1, .ref t2, .int 0])), (sh, .inl (cT, 2, .inr (.inr (.inr (.inr (fun _ => none)))))), (z, .inr (12, [.ref tm, .int 0, .int 0, .int 0, .int 0, .int 0, .int 0, .int 0, .int 0, .ref a9, .ref nw, .ref a11, .ref a12, .int 0, .int 0, .int 0, .ref a16, .ref a17, .ref a18, .ref a19, .ref a20, .ref a21, .ref a22, .ref a23, .ref a24, .ref a25, .ref a26, .int 0, .ref a28, .ref a29, .ref a30, .ref a31, .ref a32, .ref a33, .int 0, .ref a35, .ref a36])), (tm, .inl (cM, 300, .inl (fun _ => 0))), (nw, .inl (cI, 12507, .inl (fun _ => 0)))] H) (hD : va_D (fun q : Nat => s.heap.size ≤ q) [(x, .inr (11, [.ref tp, .ref hi, .ref sh, .ref g3, .ref g4, .ref g5, .ref g6, .ref g7, .ref g8, .ref g9, .int 0, .int 0])), (tp, .inr (8, [.ref i1, .ref i2, .int 0, .int 0, .int 0, .int 0, .int 0, .ref bt, .int 0, .int 0, .int 0])), (bt, .inl (cB, 300, .inl (fun _ => 0))), (hi, .inr (3, [.int 0, .ref t1, .ref t2, .int 0])), (sh, .inl (cT, 2, .inr (.inr (.inr (.inr (fun _ => none)))))), (z, .inr (12, [.ref tm, .int 0, .int 0, .int 0, .int 0, .int 0, .int 0, .int 0, .int 0, .ref a9, .ref nw, .ref a11, .ref a12, .int 0, .int 0, .int 0, .ref a16, .ref a17, .ref a18, .ref a19, .ref a20, .ref a21, .ref a22, .ref a23, .ref a24, .ref a25, .ref a26, .int 0, .ref a28, .ref a29, .ref a30, .ref a31, .ref a32, .ref a33, .int 0, .ref a35, .ref a36])), (tm, .inl (cM, 300, .inl (fun _ => 0))), (nw, .inl (cI, 12507, .inl (fun _ => 0)))]) (hS : va_S (fun q : Nat => s.heap.size ≤ q) s.heap H locs) {ls : Array Slot} (hl : lv_has ls 4 [(3, .int 0), (2, .ref z), (1, .ref x), (0, .ref b)]) : W p l e room_1 s m #[Value.ref b] below meth c H locs 80 147144 (lw_Z below #[Value.ref b] s) (F0 m 397 ls []) := by
  obtain ⟨hx, hb, hr, hml, hown, hts, hX, hbl, hlocks, hgv⟩ := id C00
  have hts : ∀ w ∈ wsU, w.before #[Value.ref b] s = true := fun w h => hts w (wsU_in w h)
  have hown : s.vm.findClass RL = some m.cls := hown
  have hA : ∀ q : Nat, s.heap.size ≤ q → (fun q : Nat => s.heap.size ≤ q) q := fun _ h => h
  have hbA : ¬ (fun q : Nat => s.heap.size ≤ q) b := Nat.not_le.mpr hbl
  refine lv_aload_n hx hb dL_law_397 rfl (lv_at hl 2 rfl) ?_
  refine lv_aload_n hx hb dL_law_398 rfl (lv_at hl 3 rfl) ?_
  refine lv_iload_n hx hb dL_law_399 rfl (lv_at hl 0 rfl) ?_
  refine lv_iconst (v := 1) hx hb dL_law_400 (by decide) ?_
  refine lv_iadd hx hb dL_law_401 ?_
  refine kz_topi (y := 1) (by decide) ?_
  refine va_sld hx hb hX hbl hbA hS (i := 1) (kz_in (by decide +kernel)) dL_law_402 ?_
  refine kz_topi (y := xs 1) (congrArg xs (by decide)) ?_
  refine lv_aload_n hx hb dL_law_403 rfl (lv_at hl 3 rfl) ?_
  refine lv_iload_n hx hb dL_law_404 rfl (lv_at hl 0 rfl) ?_
  refine lv_iconst (v := 2) hx hb dL_law_405 (by decide) ?_
  refine lv_iadd hx hb dL_law_406 ?_
  refine kz_topi (y := 2) (by decide) ?_
  refine va_sld hx hb hX hbl hbA hS (i := 2) (kz_in (by decide +kernel)) dL_law_407 ?_
  refine kz_topi (y := xs 2) (congrArg xs (by decide)) ?_
  have hPc := hP.sub (ws' := [(x, .inr (11, [.ref tp, .ref hi, .ref sh, .ref g3, .ref g4, .ref g5, .ref g6, .ref g7, .ref g8, .ref g9, .int 0, .int 0]))]) [0] rfl
  have hDc := hD.sub (ws' := [(x, .inr (11, [.ref tp, .ref hi, .ref sh, .ref g3, .ref g4, .ref g5, .ref g6, .ref g7, .ref g8, .ref g9, .int 0, .int 0]))]) [0] (by decide) rfl
  have hKc := hK.sub (tys' := []) [] rfl
  have hFc := va_free (wc := [(x, .inr (11, [.ref tp, .ref hi, .ref sh, .ref g3, .ref g4, .ref g5, .ref g6, .ref g7, .ref g8, .ref g9, .int 0, .int 0]))]) hD hS hA [0] rfl
  refine va_calli (va_runV (As := [.int (xs 1), .int (xs 2)]) (rest := []) ⟨hx, hb, hml, hown, hts⟩ (c_X11_graft l dC dI (x) (tp) (hi) (sh) (g3) (g4) (g5) (g6) (g7) (g8) (g9) ((xs 1)) ((xs 2)) H.size) (cwV 2 hts (kz_gV qw_933 qw_934 qw_935 qw_2 qw_936) rfl rfl rfl (by decide +kernel) ⟨Nat.le_of_ble_eq_true rfl, Nat.le_of_ble_eq_true rfl⟩) (⟨(kz_preS hPc hKc hDc).1, (va_recv hKc hPc (ci := 11) (q0 := 0) rfl rfl), (kz_preS hPc hKc hDc).2⟩) rfl rfl hl.1 rfl (lv_room (Nat.le_of_ble_eq_true rfl)) dL_law_408 ⟨Nat.le_of_ble_eq_true rfl, Nat.le_of_ble_eq_true rfl⟩) hS (fun q _ h => hFc q h) hFc (fun r_1 u_2 t H1 locs ht hvm hw hB hz1 hk1 hS => ?_)
  try dsimp only at hw
  have hP1 : va_P (dC, dI) vwCl [] H1 := kz_P0
  have hD1 : va_D (va_A [(x, .inr (11, [.ref tp, .ref hi, .ref sh, .ref g3, .ref g4, .ref g5, .ref g6, .ref g7, .ref g8, .ref g9, .int 0, .int 0]))] H.size) [] := kz_D0
  have hK1 : va_K (dC, dI) vwCl [] s := hK.sub [] rfl
  obtain ⟨hP, hD⟩ := va_join (wr := [(tp, .inr (8, [.ref i1, .ref i2, .int 0, .int 0, .int 0, .int 0, .int 0, .ref bt, .int 0, .int 0, .int 0])), (bt, .inl (cB, 300, .inl (fun _ => 0))), (hi, .inr (3, [.int 0, .ref t1, .ref t2, .int 0])), (sh, .inl (cT, 2, .inr (.inr (.inr (.inr (fun _ => none)))))), (z, .inr (12, [.ref tm, .int 0, .int 0, .int 0, .int 0, .int 0, .int 0, .int 0, .int 0, .ref a9, .ref nw, .ref a11, .ref a12, .int 0, .int 0, .int 0, .ref a16, .ref a17, .ref a18, .ref a19, .ref a20, .ref a21, .ref a22, .ref a23, .ref a24, .ref a25, .ref a26, .int 0, .ref a28, .ref a29, .ref a30, .ref a31, .ref a32, .ref a33, .int 0, .ref a35, .ref a36])), (tm, .inl (cM, 300, .inl (fun _ => 0))), (nw, .inl (cI, 12507, .inl (fun _ => 0)))]) (w1 := []) hP hD [0] [1, 2, 3, 4, 5, 6, 7] rfl rfl (by decide) (by decide) hk1 hFc hP1 hD1
  have hK := (hK.sub (tys' := [(cB, .byte), (cT, .object RX10), (cM, .byte), (cI, .int)]) [0, 1, 2, 3] rfl).app hK1
  generalize H1 = H at hP hS ⊢
  have hP : va_P (dC, dI) vwCl [(tp, .inr (8, [.ref i1, .ref i2, .int 0, .int 0, .int 0, .int 0, .int 0, .ref bt, .int 0, .int 0, .int 0])), (bt, .inl (cB, 300, .inl (fun _ => 0))), (hi, .inr (3, [.int 0, .ref t1, .ref t2, .int 0])), (sh, .inl (cT, 2, .inr (.inr (.inr (.inr (fun _ => none)))))), (z, .inr (12, [.ref tm, .int 0, .int 0, .int 0, .int 0, .int 0, .int 0, .int 0, .int 0, .ref a9, .ref nw, .ref a11, .ref a12, .int 0, .int 0, .int 0, .ref a16, .ref a17, .ref a18, .ref a19, .ref a20, .ref a21, .ref a22, .ref a23, .ref a24, .ref a25, .ref a26, .int 0, .ref a28, .ref a29, .ref a30, .ref a31, .ref a32, .ref a33, .int 0, .ref a35, .ref a36])), (tm, .inl (cM, 300, .inl (fun _ => 0))), (nw, .inl (cI, 12507, .inl (fun _ => 0)))] H := hP
  have hD : va_D (fun q : Nat => s.heap.size ≤ q) [(tp, .inr (8, [.ref i1, .ref i2, .int 0, .int 0, .int 0, .int 0, .int 0, .ref bt, .int 0, .int 0, .int 0])), (bt, .inl (cB, 300, .inl (fun _ => 0))), (hi, .inr (3, [.int 0, .ref t1, .ref t2, .int 0])), (sh, .inl (cT, 2, .inr (.inr (.inr (.inr (fun _ => none)))))), (z, .inr (12, [.ref tm, .int 0, .int 0, .int 0, .int 0, .int 0, .int 0, .int 0, .int 0, .ref a9, .ref nw, .ref a11, .ref a12, .int 0, .int 0, .int 0, .ref a16, .ref a17, .ref a18, .ref a19, .ref a20, .ref a21, .ref a22, .ref a23, .ref a24, .ref a25, .ref a26, .int 0, .ref a28, .ref a29, .ref a30, .ref a31, .ref a32, .ref a33, .int 0, .ref a35, .ref a36])), (tm, .inl (cM, 300, .inl (fun _ => 0))), (nw, .inl (cI, 12507, .inl (fun _ => 0)))] := hD
  have hK : va_K (dC, dI) vwCl [(cB, .byte), (cT, .object RX10), (cM, .byte), (cI, .int)] s := hK
  obtain rfl : r_1 = (-1) := hw
  refine lv_aload_n hx hb dL_law_411 rfl (lv_at hl 1 rfl) ?_
  refine lv_aload_n hx hb dL_law_412 rfl (lv_at hl 3 rfl) ?_
  refine lv_iload_n hx hb dL_law_413 rfl (lv_at hl 0 rfl) ?_
  refine lv_iconst (v := 1) hx hb dL_law_414 (by decide) ?_
  refine lv_iadd hx hb dL_law_415 ?_
  refine kz_topi (y := 1) (by decide) ?_
  refine va_sld hx hb hX hbl hbA hS (i := 1) (kz_in (by decide +kernel)) dL_law_416 ?_
  refine kz_topi (y := xs 1) (congrArg xs (by decide)) ?_
  refine lv_aload_n hx hb dL_law_417 rfl (lv_at hl 3 rfl) ?_
  refine lv_iload_n hx hb dL_law_418 rfl (lv_at hl 0 rfl) ?_
  refine lv_iconst (v := 2) hx hb dL_law_419 (by decide) ?_
  refine lv_iadd hx hb dL_law_420 ?_
  refine kz_topi (y := 2) (by decide) ?_
  refine va_sld hx hb hX hbl hbA hS (i := 2) (kz_in (by decide +kernel)) dL_law_421 ?_
  refine kz_topi (y := xs 2) (congrArg xs (by decide)) ?_
  have hPc := hP.sub (ws' := [(z, .inr (12, [.ref tm, .int 0, .int 0, .int 0, .int 0, .int 0, .int 0, .int 0, .int 0, .ref a9, .ref nw, .ref a11, .ref a12, .int 0, .int 0, .int 0, .ref a16, .ref a17, .ref a18, .ref a19, .ref a20, .ref a21, .ref a22, .ref a23, .ref a24, .ref a25, .ref a26, .int 0, .ref a28, .ref a29, .ref a30, .ref a31, .ref a32, .ref a33, .int 0, .ref a35, .ref a36]))]) [4] rfl
  have hDc := hD.sub (ws' := [(z, .inr (12, [.ref tm, .int 0, .int 0, .int 0, .int 0, .int 0, .int 0, .int 0, .int 0, .ref a9, .ref nw, .ref a11, .ref a12, .int 0, .int 0, .int 0, .ref a16, .ref a17, .ref a18, .ref a19, .ref a20, .ref a21, .ref a22, .ref a23, .ref a24, .ref a25, .ref a26, .int 0, .ref a28, .ref a29, .ref a30, .ref a31, .ref a32, .ref a33, .int 0, .ref a35, .ref a36]))]) [4] (by decide) rfl
  have hKc := hK.sub (tys' := []) [] rfl
  have hFc := va_free (wc := [(z, .inr (12, [.ref tm, .int 0, .int 0, .int 0, .int 0, .int 0, .int 0, .int 0, .int 0, .ref a9, .ref nw, .ref a11, .ref a12, .int 0, .int 0, .int 0, .ref a16, .ref a17, .ref a18, .ref a19, .ref a20, .ref a21, .ref a22, .ref a23, .ref a24, .ref a25, .ref a26, .int 0, .ref a28, .ref a29, .ref a30, .ref a31, .ref a32, .ref a33, .int 0, .ref a35, .ref a36]))]) hD hS hA [4] rfl
  refine va_calli (va_runV (As := [.int (xs 1), .int (xs 2)]) (rest := [.int (-1)]) ⟨hx, hb, hml, hown, hts⟩ (c_X12_graft l dC dI (z) (tm) (a9) (nw) (a11) (a12) (a16) (a17) (a18) (a19) (a20) (a21) (a22) (a23) (a24) (a25) (a26) (a28) (a29) (a30) (a31) (a32) (a33) (a35) (a36) ((xs 1)) ((xs 2)) H.size) (cwV 2 hts (kz_gV qw_954 qw_955 qw_956 qw_5 qw_957) rfl rfl rfl (by decide +kernel) ⟨Nat.le_of_ble_eq_true rfl, Nat.le_of_ble_eq_true rfl⟩) (⟨(kz_preS hPc hKc hDc).1, (va_recv hKc hPc (ci := 12) (q0 := 0) rfl rfl), (kz_preS hPc hKc hDc).2⟩) rfl rfl hl.1 rfl (lv_room (Nat.le_of_ble_eq_true rfl)) dL_law_422 ⟨Nat.le_of_ble_eq_true rfl, Nat.le_of_ble_eq_true rfl⟩) hS (fun q _ h => hFc q h) hFc (fun r_3 u_4 t H1 locs ht hvm hw hB hz1 hk1 hS => ?_)
  try dsimp only at hw
  have hP1 : va_P (dC, dI) vwCl [] H1 := kz_P0
  have hD1 : va_D (va_A [(z, .inr (12, [.ref tm, .int 0, .int 0, .int 0, .int 0, .int 0, .int 0, .int 0, .int 0, .ref a9, .ref nw, .ref a11, .ref a12, .int 0, .int 0, .int 0, .ref a16, .ref a17, .ref a18, .ref a19, .ref a20, .ref a21, .ref a22, .ref a23, .ref a24, .ref a25, .ref a26, .int 0, .ref a28, .ref a29, .ref a30, .ref a31, .ref a32, .ref a33, .int 0, .ref a35, .ref a36]))] H.size) [] := kz_D0
  have hK1 : va_K (dC, dI) vwCl [] s := hK.sub [] rfl
  obtain ⟨hP, hD⟩ := va_join (wr := [(tp, .inr (8, [.ref i1, .ref i2, .int 0, .int 0, .int 0, .int 0, .int 0, .ref bt, .int 0, .int 0, .int 0])), (bt, .inl (cB, 300, .inl (fun _ => 0))), (hi, .inr (3, [.int 0, .ref t1, .ref t2, .int 0])), (sh, .inl (cT, 2, .inr (.inr (.inr (.inr (fun _ => none)))))), (tm, .inl (cM, 300, .inl (fun _ => 0))), (nw, .inl (cI, 12507, .inl (fun _ => 0)))]) (w1 := []) hP hD [4] [0, 1, 2, 3, 5, 6] rfl rfl (by decide) (by decide) hk1 hFc hP1 hD1
  have hK := (hK.sub (tys' := [(cB, .byte), (cT, .object RX10), (cM, .byte), (cI, .int)]) [0, 1, 2, 3] rfl).app hK1
  generalize H1 = H at hP hS ⊢
  have hP : va_P (dC, dI) vwCl [(tp, .inr (8, [.ref i1, .ref i2, .int 0, .int 0, .int 0, .int 0, .int 0, .ref bt, .int 0, .int 0, .int 0])), (bt, .inl (cB, 300, .inl (fun _ => 0))), (hi, .inr (3, [.int 0, .ref t1, .ref t2, .int 0])), (sh, .inl (cT, 2, .inr (.inr (.inr (.inr (fun _ => none)))))), (tm, .inl (cM, 300, .inl (fun _ => 0))), (nw, .inl (cI, 12507, .inl (fun _ => 0)))] H := hP
  have hD : va_D (fun q : Nat => s.heap.size ≤ q) [(tp, .inr (8, [.ref i1, .ref i2, .int 0, .int 0, .int 0, .int 0, .int 0, .ref bt, .int 0, .int 0, .int 0])), (bt, .inl (cB, 300, .inl (fun _ => 0))), (hi, .inr (3, [.int 0, .ref t1, .ref t2, .int 0])), (sh, .inl (cT, 2, .inr (.inr (.inr (.inr (fun _ => none)))))), (tm, .inl (cM, 300, .inl (fun _ => 0))), (nw, .inl (cI, 12507, .inl (fun _ => 0)))] := hD
  have hK : va_K (dC, dI) vwCl [(cB, .byte), (cT, .object RX10), (cM, .byte), (cI, .int)] s := hK
  obtain rfl : r_3 = (-1) := hw
  refine lv_icmp_eq (tgt := 971) hx hb dL_law_425 (by decide) (fun _ => ?_) (fun c9 => absurd (by decide) c9)
  exact law_tail C00 hS (lv_sub hl [0, 3] rfl)
set_option maxHeartbeats 4000000 in
set_option maxRecDepth 100000 in
theorem law_8 {p : Program} {l : Launch} {e : Env} {s : State} {m : MethodId} {below : List Frame} {meth : Method} {c : Code} {b : Nat} {xs : Nat → Int32} {dC : Nat → ClassId} {dI : Nat → Nat → Nat} {x tp hi sh g3 g4 g5 g6 g7 g8 g9 i1 i2 bt t1 t2 z tm a9 nw a11 a12 a16 a17 a18 a19 a20 a21 a22 a23 a24 a25 a26 a28 a29 a30 a31 a32 a33 a35 a36 : Nat} {cB cT cM cI : ClassId} (C00 : lw_At p s m meth c b 6 xs) (hK : va_K (dC, dI) vwCl [(cB, .byte), (cT, .object RX10), (cM, .byte), (cI, .int)] s) {H : Heap} {locs : List Loc} (hP : va_P (dC, dI) vwCl [(x, .inr (11, [.ref tp, .ref hi, .ref sh, .ref g3, .ref g4, .ref g5, .ref g6, .ref g7, .ref g8, .ref g9, .int 0, .int 0])), (tp, .inr (8, [.ref i1, .ref i2, .int 0, .int 0, .int 0, .int 0, .int 0, .ref bt, .int 0, .int 0, .int 0])), (bt, .inl (cB, 300, .inl (fun _ => 0))), (hi, .inr (3, [.int 0, .ref t1, .ref t2, .int 0])), (sh, .inl (cT, 2, .inr (.inr (.inr (.inr (fun _ => none)))))), (z, .inr (12, [.ref tm, .int 0, .int 0, .int 0, .int 0, .int 0, .int 0, .int 0, .int 0, .ref a9, .ref nw, .ref a11, .ref a12, .int 0, .int 0, .int 0, .ref a16, .ref a17, .ref a18, .ref a19, .ref a20, .ref a21, .ref a22, .ref a23, .ref a24, .ref a25, .ref a26, .int 0, .ref a28, .ref a29, .ref a30, .ref a31, .ref a32, .ref a33, .int 0, .ref a35, .ref a36])), (tm, .inl (cM, 300, .inl (fun _ => 0))), (nw, .inl (cI, 12507, .inl (fun _ => 0)))] H) (hD : va_D (fun q : Nat => s.heap.size ≤ q) [(x, .inr (11, [.ref tp, .ref hi, .ref sh, .ref g3, .ref g4, .ref g5, .ref g6, .ref g7, .ref g8, .ref g9, .int 0, .int 0])), (tp, .inr (8, [.ref i1, .ref i2, .int 0, .int 0, .int 0, .int 0, .int 0, .ref bt, .int 0, .int 0, .int 0])), (bt, .inl (cB, 300, .inl (fun _ => 0))), (hi, .inr (3, [.int 0, .ref t1, .ref t2, .int 0])), (sh, .inl (cT, 2, .inr (.inr (.inr (.inr (fun _ => none)))))), (z, .inr (12, [.ref tm, .int 0, .int 0, .int 0, .int 0, .int 0, .int 0, .int 0, .int 0, .ref a9, .ref nw, .ref a11, .ref a12, .int 0, .int 0, .int 0, .ref a16, .ref a17, .ref a18, .ref a19, .ref a20, .ref a21, .ref a22, .ref a23, .ref a24, .ref a25, .ref a26, .int 0, .ref a28, .ref a29, .ref a30, .ref a31, .ref a32, .ref a33, .int 0, .ref a35, .ref a36])), (tm, .inl (cM, 300, .inl (fun _ => 0))), (nw, .inl (cI, 12507, .inl (fun _ => 0)))]) (hS : va_S (fun q : Nat => s.heap.size ≤ q) s.heap H locs) {ls : Array Slot} (hl : lv_has ls 4 [(3, .int 0), (2, .ref z), (1, .ref x), (0, .ref b)]) : W p l e room_1 s m #[Value.ref b] below meth c H locs 80 147144 (lw_Z below #[Value.ref b] s) (F0 m 430 ls []) := by
  obtain ⟨hx, hb, hr, hml, hown, hts, hX, hbl, hlocks, hgv⟩ := id C00
  have hts : ∀ w ∈ wsU, w.before #[Value.ref b] s = true := fun w h => hts w (wsU_in w h)
  have hown : s.vm.findClass RL = some m.cls := hown
  have hA : ∀ q : Nat, s.heap.size ≤ q → (fun q : Nat => s.heap.size ≤ q) q := fun _ h => h
  have hbA : ¬ (fun q : Nat => s.heap.size ≤ q) b := Nat.not_le.mpr hbl
  refine lv_aload_n hx hb dL_law_430 rfl (lv_at hl 2 rfl) ?_
  refine lv_aload_n hx hb dL_law_431 rfl (lv_at hl 3 rfl) ?_
  refine lv_iload_n hx hb dL_law_432 rfl (lv_at hl 0 rfl) ?_
  refine lv_iconst (v := 1) hx hb dL_law_433 (by decide) ?_
  refine lv_iadd hx hb dL_law_434 ?_
  refine kz_topi (y := 1) (by decide) ?_
  refine va_sld hx hb hX hbl hbA hS (i := 1) (kz_in (by decide +kernel)) dL_law_435 ?_
  refine kz_topi (y := xs 1) (congrArg xs (by decide)) ?_
  have hPc := hP.sub (ws' := [(x, .inr (11, [.ref tp, .ref hi, .ref sh, .ref g3, .ref g4, .ref g5, .ref g6, .ref g7, .ref g8, .ref g9, .int 0, .int 0]))]) [0] rfl
  have hDc := hD.sub (ws' := [(x, .inr (11, [.ref tp, .ref hi, .ref sh, .ref g3, .ref g4, .ref g5, .ref g6, .ref g7, .ref g8, .ref g9, .int 0, .int 0]))]) [0] (by decide) rfl
  have hKc := hK.sub (tys' := []) [] rfl
  have hFc := va_free (wc := [(x, .inr (11, [.ref tp, .ref hi, .ref sh, .ref g3, .ref g4, .ref g5, .ref g6, .ref g7, .ref g8, .ref g9, .int 0, .int 0]))]) hD hS hA [0] rfl
  refine va_calli (va_runV (As := [.int (xs 1)]) (rest := []) ⟨hx, hb, hml, hown, hts⟩ (c_X11_drawn l dC dI (x) (tp) (hi) (sh) (g3) (g4) (g5) (g6) (g7) (g8) (g9) ((xs 1)) H.size) (cwV 1 hts (kz_gV qw_962 qw_963 qw_964 qw_2 qw_965) rfl rfl rfl (by decide +kernel) ⟨Nat.le_of_ble_eq_true rfl, Nat.le_of_ble_eq_true rfl⟩) (⟨(kz_preS hPc hKc hDc).1, (va_recv hKc hPc (ci := 11) (q0 := 0) rfl rfl), (kz_preS hPc hKc hDc).2⟩) rfl rfl hl.1 rfl (lv_room (Nat.le_of_ble_eq_true rfl)) dL_law_436 ⟨Nat.le_of_ble_eq_true rfl, Nat.le_of_ble_eq_true rfl⟩) hS (fun q _ h => hFc q h) hFc (fun r_1 u_2 t H1 locs ht hvm hw hB hz1 hk1 hS => ?_)
  try dsimp only at hw
  have hP1 : va_P (dC, dI) vwCl [] H1 := kz_P0
  have hD1 : va_D (va_A [(x, .inr (11, [.ref tp, .ref hi, .ref sh, .ref g3, .ref g4, .ref g5, .ref g6, .ref g7, .ref g8, .ref g9, .int 0, .int 0]))] H.size) [] := kz_D0
  have hK1 : va_K (dC, dI) vwCl [] s := hK.sub [] rfl
  obtain ⟨hP, hD⟩ := va_join (wr := [(tp, .inr (8, [.ref i1, .ref i2, .int 0, .int 0, .int 0, .int 0, .int 0, .ref bt, .int 0, .int 0, .int 0])), (bt, .inl (cB, 300, .inl (fun _ => 0))), (hi, .inr (3, [.int 0, .ref t1, .ref t2, .int 0])), (sh, .inl (cT, 2, .inr (.inr (.inr (.inr (fun _ => none)))))), (z, .inr (12, [.ref tm, .int 0, .int 0, .int 0, .int 0, .int 0, .int 0, .int 0, .int 0, .ref a9, .ref nw, .ref a11, .ref a12, .int 0, .int 0, .int 0, .ref a16, .ref a17, .ref a18, .ref a19, .ref a20, .ref a21, .ref a22, .ref a23, .ref a24, .ref a25, .ref a26, .int 0, .ref a28, .ref a29, .ref a30, .ref a31, .ref a32, .ref a33, .int 0, .ref a35, .ref a36])), (tm, .inl (cM, 300, .inl (fun _ => 0))), (nw, .inl (cI, 12507, .inl (fun _ => 0)))]) (w1 := []) hP hD [0] [1, 2, 3, 4, 5, 6, 7] rfl rfl (by decide) (by decide) hk1 hFc hP1 hD1
  have hK := (hK.sub (tys' := [(cB, .byte), (cT, .object RX10), (cM, .byte), (cI, .int)]) [0, 1, 2, 3] rfl).app hK1
  generalize H1 = H at hP hS ⊢
  have hP : va_P (dC, dI) vwCl [(tp, .inr (8, [.ref i1, .ref i2, .int 0, .int 0, .int 0, .int 0, .int 0, .ref bt, .int 0, .int 0, .int 0])), (bt, .inl (cB, 300, .inl (fun _ => 0))), (hi, .inr (3, [.int 0, .ref t1, .ref t2, .int 0])), (sh, .inl (cT, 2, .inr (.inr (.inr (.inr (fun _ => none)))))), (z, .inr (12, [.ref tm, .int 0, .int 0, .int 0, .int 0, .int 0, .int 0, .int 0, .int 0, .ref a9, .ref nw, .ref a11, .ref a12, .int 0, .int 0, .int 0, .ref a16, .ref a17, .ref a18, .ref a19, .ref a20, .ref a21, .ref a22, .ref a23, .ref a24, .ref a25, .ref a26, .int 0, .ref a28, .ref a29, .ref a30, .ref a31, .ref a32, .ref a33, .int 0, .ref a35, .ref a36])), (tm, .inl (cM, 300, .inl (fun _ => 0))), (nw, .inl (cI, 12507, .inl (fun _ => 0)))] H := hP
  have hD : va_D (fun q : Nat => s.heap.size ≤ q) [(tp, .inr (8, [.ref i1, .ref i2, .int 0, .int 0, .int 0, .int 0, .int 0, .ref bt, .int 0, .int 0, .int 0])), (bt, .inl (cB, 300, .inl (fun _ => 0))), (hi, .inr (3, [.int 0, .ref t1, .ref t2, .int 0])), (sh, .inl (cT, 2, .inr (.inr (.inr (.inr (fun _ => none)))))), (z, .inr (12, [.ref tm, .int 0, .int 0, .int 0, .int 0, .int 0, .int 0, .int 0, .int 0, .ref a9, .ref nw, .ref a11, .ref a12, .int 0, .int 0, .int 0, .ref a16, .ref a17, .ref a18, .ref a19, .ref a20, .ref a21, .ref a22, .ref a23, .ref a24, .ref a25, .ref a26, .int 0, .ref a28, .ref a29, .ref a30, .ref a31, .ref a32, .ref a33, .int 0, .ref a35, .ref a36])), (tm, .inl (cM, 300, .inl (fun _ => 0))), (nw, .inl (cI, 12507, .inl (fun _ => 0)))] := hD
  have hK : va_K (dC, dI) vwCl [(cB, .byte), (cT, .object RX10), (cM, .byte), (cI, .int)] s := hK
  obtain rfl : r_1 = (-1) := hw
  refine lv_aload_n hx hb dL_law_439 rfl (lv_at hl 1 rfl) ?_
  refine lv_aload_n hx hb dL_law_440 rfl (lv_at hl 3 rfl) ?_
  refine lv_iload_n hx hb dL_law_441 rfl (lv_at hl 0 rfl) ?_
  refine lv_iconst (v := 1) hx hb dL_law_442 (by decide) ?_
  refine lv_iadd hx hb dL_law_443 ?_
  refine kz_topi (y := 1) (by decide) ?_
  refine va_sld hx hb hX hbl hbA hS (i := 1) (kz_in (by decide +kernel)) dL_law_444 ?_
  refine kz_topi (y := xs 1) (congrArg xs (by decide)) ?_
  have hPc := hP.sub (ws' := [(z, .inr (12, [.ref tm, .int 0, .int 0, .int 0, .int 0, .int 0, .int 0, .int 0, .int 0, .ref a9, .ref nw, .ref a11, .ref a12, .int 0, .int 0, .int 0, .ref a16, .ref a17, .ref a18, .ref a19, .ref a20, .ref a21, .ref a22, .ref a23, .ref a24, .ref a25, .ref a26, .int 0, .ref a28, .ref a29, .ref a30, .ref a31, .ref a32, .ref a33, .int 0, .ref a35, .ref a36]))]) [4] rfl
  have hDc := hD.sub (ws' := [(z, .inr (12, [.ref tm, .int 0, .int 0, .int 0, .int 0, .int 0, .int 0, .int 0, .int 0, .ref a9, .ref nw, .ref a11, .ref a12, .int 0, .int 0, .int 0, .ref a16, .ref a17, .ref a18, .ref a19, .ref a20, .ref a21, .ref a22, .ref a23, .ref a24, .ref a25, .ref a26, .int 0, .ref a28, .ref a29, .ref a30, .ref a31, .ref a32, .ref a33, .int 0, .ref a35, .ref a36]))]) [4] (by decide) rfl
  have hKc := hK.sub (tys' := []) [] rfl
  have hFc := va_free (wc := [(z, .inr (12, [.ref tm, .int 0, .int 0, .int 0, .int 0, .int 0, .int 0, .int 0, .int 0, .ref a9, .ref nw, .ref a11, .ref a12, .int 0, .int 0, .int 0, .ref a16, .ref a17, .ref a18, .ref a19, .ref a20, .ref a21, .ref a22, .ref a23, .ref a24, .ref a25, .ref a26, .int 0, .ref a28, .ref a29, .ref a30, .ref a31, .ref a32, .ref a33, .int 0, .ref a35, .ref a36]))]) hD hS hA [4] rfl
  refine va_calli (va_runV (As := [.int (xs 1)]) (rest := [.int (-1)]) ⟨hx, hb, hml, hown, hts⟩ (c_X12_drawn l dC dI (z) (tm) (a9) (nw) (a11) (a12) (a16) (a17) (a18) (a19) (a20) (a21) (a22) (a23) (a24) (a25) (a26) (a28) (a29) (a30) (a31) (a32) (a33) (a35) (a36) ((xs 1)) H.size) (cwV 1 hts (kz_gV qw_978 qw_979 qw_980 qw_5 qw_981) rfl rfl rfl (by decide +kernel) ⟨Nat.le_of_ble_eq_true rfl, Nat.le_of_ble_eq_true rfl⟩) (⟨(kz_preS hPc hKc hDc).1, (va_recv hKc hPc (ci := 12) (q0 := 0) rfl rfl), (kz_preS hPc hKc hDc).2⟩) rfl rfl hl.1 rfl (lv_room (Nat.le_of_ble_eq_true rfl)) dL_law_445 ⟨Nat.le_of_ble_eq_true rfl, Nat.le_of_ble_eq_true rfl⟩) hS (fun q _ h => hFc q h) hFc (fun r_3 u_4 t H1 locs ht hvm hw hB hz1 hk1 hS => ?_)
  try dsimp only at hw
  have hP1 : va_P (dC, dI) vwCl [] H1 := kz_P0
  have hD1 : va_D (va_A [(z, .inr (12, [.ref tm, .int 0, .int 0, .int 0, .int 0, .int 0, .int 0, .int 0, .int 0, .ref a9, .ref nw, .ref a11, .ref a12, .int 0, .int 0, .int 0, .ref a16, .ref a17, .ref a18, .ref a19, .ref a20, .ref a21, .ref a22, .ref a23, .ref a24, .ref a25, .ref a26, .int 0, .ref a28, .ref a29, .ref a30, .ref a31, .ref a32, .ref a33, .int 0, .ref a35, .ref a36]))] H.size) [] := kz_D0
  have hK1 : va_K (dC, dI) vwCl [] s := hK.sub [] rfl
  obtain ⟨hP, hD⟩ := va_join (wr := [(tp, .inr (8, [.ref i1, .ref i2, .int 0, .int 0, .int 0, .int 0, .int 0, .ref bt, .int 0, .int 0, .int 0])), (bt, .inl (cB, 300, .inl (fun _ => 0))), (hi, .inr (3, [.int 0, .ref t1, .ref t2, .int 0])), (sh, .inl (cT, 2, .inr (.inr (.inr (.inr (fun _ => none)))))), (tm, .inl (cM, 300, .inl (fun _ => 0))), (nw, .inl (cI, 12507, .inl (fun _ => 0)))]) (w1 := []) hP hD [4] [0, 1, 2, 3, 5, 6] rfl rfl (by decide) (by decide) hk1 hFc hP1 hD1
  have hK := (hK.sub (tys' := [(cB, .byte), (cT, .object RX10), (cM, .byte), (cI, .int)]) [0, 1, 2, 3] rfl).app hK1
  generalize H1 = H at hP hS ⊢
  have hP : va_P (dC, dI) vwCl [(tp, .inr (8, [.ref i1, .ref i2, .int 0, .int 0, .int 0, .int 0, .int 0, .ref bt, .int 0, .int 0, .int 0])), (bt, .inl (cB, 300, .inl (fun _ => 0))), (hi, .inr (3, [.int 0, .ref t1, .ref t2, .int 0])), (sh, .inl (cT, 2, .inr (.inr (.inr (.inr (fun _ => none)))))), (tm, .inl (cM, 300, .inl (fun _ => 0))), (nw, .inl (cI, 12507, .inl (fun _ => 0)))] H := hP
  have hD : va_D (fun q : Nat => s.heap.size ≤ q) [(tp, .inr (8, [.ref i1, .ref i2, .int 0, .int 0, .int 0, .int 0, .int 0, .ref bt, .int 0, .int 0, .int 0])), (bt, .inl (cB, 300, .inl (fun _ => 0))), (hi, .inr (3, [.int 0, .ref t1, .ref t2, .int 0])), (sh, .inl (cT, 2, .inr (.inr (.inr (.inr (fun _ => none)))))), (tm, .inl (cM, 300, .inl (fun _ => 0))), (nw, .inl (cI, 12507, .inl (fun _ => 0)))] := hD
  have hK : va_K (dC, dI) vwCl [(cB, .byte), (cT, .object RX10), (cM, .byte), (cI, .int)] s := hK
  obtain rfl : r_3 = (-1) := hw
  refine lv_icmp_eq (tgt := 971) hx hb dL_law_448 (by decide) (fun _ => ?_) (fun c9 => absurd (by decide) c9)
  exact law_tail C00 hS (lv_sub hl [0, 3] rfl)
