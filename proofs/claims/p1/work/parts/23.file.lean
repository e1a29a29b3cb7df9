set_option maxHeartbeats 4000000 in
set_option maxRecDepth 100000 in
/-- String.coder() of the word -/
theorem c_J0_coder_7d493 (l : Launch) (dC : Nat → ClassId) (dI : Nat → Nat → Nat) (sq : Nat) (sv : Nat) (sz : Nat) : Met l yJ0_coder_7d493 (Cond.code yJ0_coder_7d493 cJ0_coder_7d493 1 (some .byte) :: wsU) ({ frames := 0, cells := 0, slots := 0, locals := 0 }) (va_Pc [.ref sq] (fun U => kz_B (dC, dI) sz [] [] U ∧ kz_Ss sq sv (va_A [] sz) U U.heap)) (va_Qi (fun (r : Int32) (_ : Unit) => r = 0) (fun _ _ => True) (va_A [] sz)) 0 0 (va_A [] sz) := by
  refine Met.ofW (cc := cJ0_coder_7d493) (maxL := 1) (ret := (some .byte)) (by decide) rfl ?_
  intro p e s m args below meth c s₁ B hml hv
  obtain ⟨rfl, ⟨hsz, hP, hK, hD0⟩, hAm⟩ := hv
  have hx := B.exec
  have hb := B.bytes
  have hr := B.returns
  have hts := atoms_spec (ws := (Cond.code yJ0_coder_7d493 cJ0_coder_7d493 1 (some .byte) :: wsU)) B.pre
  have hts : ∀ w ∈ wsU, w.before _ s = true := fun w h => hts w (List.mem_cons_of_mem _ h)
  have hown : s.vm.findClass RJ0 = some m.cls := findClass_of_methodNamed B.named
  have hlocks := B.notSynchronized
  subst hsz
  have hD := hD0.self (sz := s.heap.size)
  generalize hAe : va_A [] s.heap.size = A at hD hAm ⊢
  have hA : ∀ q : Nat, s.heap.size ≤ q → A q := fun q h => by rw [← hAe]; exact Or.inr h
  have hS : va_S A s.heap s.heap [] := va_S.rf
  have hP : va_P (dC, dI) vwCl [] s.heap := hP
  have hl := lv_entry ([.ref sq]) (n := 1) (Nat.le_of_ble_eq_true rfl)
  rw [lg_entry_eq]
  generalize (lg_sl ([.ref sq]) ++ List.replicate (1 - (lg_sl ([.ref sq])).length) Slot.unset).toArray = ls at hl ⊢
  have hl : lv_has ls 1 [(0, .ref sq)] := hl
  refine va_gets (v := .int 1) hx hb hAm.1 hS hown (hts _ qw_263) (fun _ h9 => h9) dJ0_coder_7d493_0 ?_
  refine lv_if_eq (tgt := 13) hx hb dJ0_coder_7d493_3 (by decide) (fun c9 => absurd c9 (by decide)) (fun _ => ?_)
  refine lv_aload_n hx hb dJ0_coder_7d493_6 rfl (lv_at hl 0 rfl) ?_
  refine vk_getf (v := .int 0) hx hb hAm.2.2.1 hS hown (hts _ qw_264) (fun _ h9 => h9) dJ0_coder_7d493_7 ?_
  refine lv_goto (tgt := 14) hx hb dJ0_coder_7d493_10 (by decide) ?_
  exact W.zret (v := 0) hx hb hr rfl (fun t ht hW => ⟨⟨0, (), rfl, rfl, trivial⟩, hS.F ht⟩) hS.2.2 dJ0_coder_7d493_14
set_option maxHeartbeats 4000000 in
set_option maxRecDepth 100000 in
/-- String.length() of the word -/
theorem c_J0_length_8abf5 (l : Launch) (dC : Nat → ClassId) (dI : Nat → Nat → Nat) (sq : Nat) (sv : Nat) (sz : Nat) : Met l yJ0_length_8abf5 (Cond.code yJ0_length_8abf5 cJ0_length_8abf5 1 (some .int) :: wsU) ({ frames := 1, cells := 0, slots := 0, locals := 20 }) (va_Pc [.ref sq] (fun U => kz_B (dC, dI) sz [] [] U ∧ kz_Ss sq sv (va_A [] sz) U U.heap)) (va_Qi (fun (r : Int32) (_ : Unit) => r = 4) (fun _ _ => True) (va_A [] sz)) 0 0 (va_A [] sz) := by
  refine Met.ofW (cc := cJ0_length_8abf5) (maxL := 1) (ret := (some .int)) (by decide) rfl ?_
  intro p e s m args below meth c s₁ B hml hv
  obtain ⟨rfl, ⟨hsz, hP, hK, hD0⟩, hAm⟩ := hv
  have hx := B.exec
  have hb := B.bytes
  have hr := B.returns
  have hts := atoms_spec (ws := (Cond.code yJ0_length_8abf5 cJ0_length_8abf5 1 (some .int) :: wsU)) B.pre
  have hts : ∀ w ∈ wsU, w.before _ s = true := fun w h => hts w (List.mem_cons_of_mem _ h)
  have hown : s.vm.findClass RJ0 = some m.cls := findClass_of_methodNamed B.named
  have hlocks := B.notSynchronized
  subst hsz
  have hD := hD0.self (sz := s.heap.size)
  generalize hAe : va_A [] s.heap.size = A at hD hAm ⊢
  have hA : ∀ q : Nat, s.heap.size ≤ q → A q := fun q h => by rw [← hAe]; exact Or.inr h
  have hS : va_S A s.heap s.heap [] := va_S.rf
  have hP : va_P (dC, dI) vwCl [] s.heap := hP
  have hl := lv_entry ([.ref sq]) (n := 1) (Nat.le_of_ble_eq_true rfl)
  rw [lg_entry_eq]
  generalize (lg_sl ([.ref sq]) ++ List.replicate (1 - (lg_sl ([.ref sq])).length) Slot.unset).toArray = ls at hl ⊢
  have hl : lv_has ls 1 [(0, .ref sq)] := hl
  refine lv_aload_n hx hb dJ0_length_8abf5_0 rfl (lv_at hl 0 rfl) ?_
  refine vk_getf (v := .ref sv) hx hb hAm.2.2.2.1 hS hown (hts _ qw_258) (fun _ h9 => h9) dJ0_length_8abf5_1 ?_
  refine va_tlen (v := 4) hx hb hAm.2.2.2.2 hS (by decide) dJ0_length_8abf5_4 ?_
  refine lv_aload_n hx hb dJ0_length_8abf5_5 rfl (lv_at hl 0 rfl) ?_
  have hPc := hP.sub (ws' := []) [] rfl
  have hDc := hD.sub (ws' := []) [] (by decide) rfl
  have hKc := hK.sub (tys' := []) [] rfl
  have hFc := va_free (wc := []) hD hS hA [] rfl
  refine va_calli (va_runV (As := []) (rest := [.int 4]) ⟨hx, hb, hml, hown, hts⟩ (c_J0_coder_7d493 l dC dI (sq) (sv) s.heap.size) (cwV 0 hts (kz_gV qw_259 qw_260 qw_261 qw_256 qw_262) rfl rfl rfl (by decide +kernel) ⟨Nat.le_of_ble_eq_true rfl, Nat.le_of_ble_eq_true rfl⟩) (⟨(kz_preT hPc hKc hDc hAm hS hFc).1, (kz_recvT hAm hS), (kz_preT hPc hKc hDc hAm hS hFc).2⟩) rfl rfl hl.1 rfl (lv_room (Nat.le_of_ble_eq_true rfl)) dJ0_length_8abf5_6 ⟨Nat.le_of_ble_eq_true rfl, Nat.le_of_ble_eq_true rfl⟩) hS (fun q _ h => hFc q h) hFc (fun r_1 u_2 t H1 locs ht hvm hw hB hz1 hk1 hS => ?_)
  try dsimp only at hw
  have hP1 : va_P (dC, dI) vwCl [] H1 := kz_P0
  have hD1 : va_D (va_A [] s.heap.size) [] := kz_D0
  have hK1 : va_K (dC, dI) vwCl [] s := hK.sub [] rfl
  obtain ⟨hP, hD⟩ := va_join (wr := []) (w1 := []) hP hD [] [] rfl rfl (by decide) (by decide) hk1 hFc hP1 hD1
  have hK := (hK.sub (tys' := []) [] rfl).app hK1
  generalize H1 = H at hP hS ⊢
  have hP : va_P (dC, dI) vwCl [] H := hP
  have hD : va_D A [] := hD
  have hK : va_K (dC, dI) vwCl [] s := hK
  obtain rfl : r_1 = 0 := hw
  refine lv_ishr hx hb dJ0_length_8abf5_9 ?_
  refine kz_topi (y := 4) (by decide) ?_
  exact W.iret (v := 4) hx hb hr (fun t ht hW => ⟨⟨4, (), rfl, rfl, trivial⟩, hS.F ht⟩) hS.2.2 dJ0_length_8abf5_10
set_option maxHeartbeats 4000000 in
set_option maxRecDepth 100000 in
theorem c_X8_skipBlanks (l : Launch) (dC : Nat → ClassId) (dI : Nat → Nat → Nat) (tp : Nat) (i1 : Nat) (i2 : Nat) (bt : Nat) (mo : Int32) (le : Int32) (ag : Int32) (bg : Int32) (sz : Nat) : Met l yX8_skipBlanks (Cond.code yX8_skipBlanks cX8_skipBlanks 1 none :: wsU) ({ frames := 0, cells := 0, slots := 0, locals := 0 }) (va_Pc [.ref tp] (kz_B (dC, dI) sz [(tp, .inr (8, [.ref i1, .ref i2, .int 0, .int mo, .int le, .int ag, .int 0, .ref bt, .int 0, .int bg, .int 0]))] [])) (va_Qv (fun (_ : Unit) => True) (fun (_ : Unit) t => kz_E (dC, dI) (va_A [(tp, .inr (8, [.ref i1, .ref i2, .int 0, .int mo, .int le, .int ag, .int 0, .ref bt, .int 0, .int bg, .int 0]))] sz) [(tp, .inr (8, [.ref i1, .ref i2, .int 0, .int mo, .int le, .int ag, .int 0, .ref bt, .int 0, .int bg, .int 0]))] [] t) (va_A [(tp, .inr (8, [.ref i1, .ref i2, .int 0, .int mo, .int le, .int ag, .int 0, .ref bt, .int 0, .int bg, .int 0]))] sz)) 0 0 (va_A [(tp, .inr (8, [.ref i1, .ref i2, .int 0, .int mo, .int le, .int ag, .int 0, .ref bt, .int 0, .int bg, .int 0]))] sz) := by
  refine Met.ofW (cc := cX8_skipBlanks) (maxL := 1) (ret := none) (by decide) rfl ?_
  intro p e s m args below meth c s₁ B hml hv
  obtain ⟨rfl, hsz, hP, hK, hD0⟩ := hv
  have hx := B.exec
  have hb := B.bytes
  have hr := B.returns
  have hts := atoms_spec (ws := (Cond.code yX8_skipBlanks cX8_skipBlanks 1 none :: wsU)) B.pre
  have hts : ∀ w ∈ wsU, w.before _ s = true := fun w h => hts w (List.mem_cons_of_mem _ h)
  have hown : s.vm.findClass RX8 = some m.cls := findClass_of_methodNamed B.named
  have hlocks := B.notSynchronized
  subst hsz
  have hD := hD0.self (sz := s.heap.size)
  generalize hAe : va_A [(tp, .inr (8, [.ref i1, .ref i2, .int 0, .int mo, .int le, .int ag, .int 0, .ref bt, .int 0, .int bg, .int 0]))] s.heap.size = A at hD ⊢
  have hA : ∀ q : Nat, s.heap.size ≤ q → A q := fun q h => by rw [← hAe]; exact Or.inr h
  have hS : va_S A s.heap s.heap [] := va_S.rf
  have hP : va_P (dC, dI) vwCl [(tp, .inr (8, [.ref i1, .ref i2, .int 0, .int mo, .int le, .int ag, .int 0, .ref bt, .int 0, .int bg, .int 0]))] s.heap := hP
  have hl := lv_entry ([.ref tp]) (n := 1) (Nat.le_of_ble_eq_true rfl)
  rw [lg_entry_eq]
  generalize (lg_sl ([.ref tp]) ++ List.replicate (1 - (lg_sl ([.ref tp])).length) Slot.unset).toArray = ls at hl ⊢
  have hl : lv_has ls 1 [(0, .ref tp)] := hl
  refine lv_aload_n hx hb dX8_skipBlanks_0 rfl (lv_at hl 0 rfl) ?_
  refine va_get (D := (dC, dI)) (ci := 8) (v := .int 0) (C := RX8) (T := TX8) (N := 11) hx hb hts inlX8 hown hK hP 0 rfl rfl 8 (by decide) (hts _ qw_227) (fun _ h9 => h9) rfl dX8_skipBlanks_1 ?_
  refine lv_aload_n hx hb dX8_skipBlanks_4 rfl (lv_at hl 0 rfl) ?_
  refine va_get (D := (dC, dI)) (ci := 8) (v := .int 0) (C := RX8) (T := TX8) (N := 11) hx hb hts inlX8 hown hK hP 0 rfl rfl 2 (by decide) (hts _ qw_57) (fun _ h9 => h9) rfl dX8_skipBlanks_5 ?_
  refine lv_icmp_ge (tgt := 37) hx hb dX8_skipBlanks_8 (by decide) (fun _ => ?_) (fun c9 => absurd (by decide) c9)
  have hP9 := hP.sub (ws' := [(tp, .inr (8, [.ref i1, .ref i2, .int 0, .int mo, .int le, .int ag, .int 0, .ref bt, .int 0, .int bg, .int 0]))]) [0] rfl
  have hD9 := hD.sub (ws' := [(tp, .inr (8, [.ref i1, .ref i2, .int 0, .int mo, .int le, .int ag, .int 0, .ref bt, .int 0, .int bg, .int 0]))]) [0] (by decide) rfl
  have hK9 := hK.sub (tys' := []) [] rfl
  exact W.vret hx hb hr (fun t ht hW => ⟨⟨(), rfl, trivial, ⟨by rw [ht]; exact hP9, va_K.moved hW.alike hK9, hD9⟩⟩, hS.F ht⟩) hS.2.2 dX8_skipBlanks_37
set_option maxHeartbeats 4000000 in
set_option maxRecDepth 100000 in
theorem c_X8_blame (l : Launch) (dC : Nat → ClassId) (dI : Nat → Nat → Nat) (tp : Nat) (i1 : Nat) (i2 : Nat) (bt : Nat) (mo : Int32) (le : Int32) (ag : Int32) (bg : Int32) (sz : Nat) : Met l yX8_blame (Cond.code yX8_blame cX8_blame 3 none :: wsU) ({ frames := 0, cells := 0, slots := 0, locals := 0 }) (va_Pc [.ref tp, .int 0, .int 1] (kz_B (dC, dI) sz [(tp, .inr (8, [.ref i1, .ref i2, .int 0, .int mo, .int le, .int ag, .int 0, .ref bt, .int 0, .int bg, .int 0]))] [])) (va_Qv (fun (_ : Unit) => True) (fun (_ : Unit) t => kz_E (dC, dI) (va_A [(tp, .inr (8, [.ref i1, .ref i2, .int 0, .int mo, .int le, .int ag, .int 0, .ref bt, .int 0, .int bg, .int 0]))] sz) [(tp, .inr (8, [.ref i1, .ref i2, .int 0, .int mo, .int le, .int ag, .int 0, .ref bt, .int 0, .int bg, .int 1]))] [] t) (va_A [(tp, .inr (8, [.ref i1, .ref i2, .int 0, .int mo, .int le, .int ag, .int 0, .ref bt, .int 0, .int bg, .int 0]))] sz)) 0 0 (va_A [(tp, .inr (8, [.ref i1, .ref i2, .int 0, .int mo, .int le, .int ag, .int 0, .ref bt, .int 0, .int bg, .int 0]))] sz) := by
  refine Met.ofW (cc := cX8_blame) (maxL := 3) (ret := none) (by decide) rfl ?_
  intro p e s m args below meth c s₁ B hml hv
  obtain ⟨rfl, hsz, hP, hK, hD0⟩ := hv
  have hx := B.exec
  have hb := B.bytes
  have hr := B.returns
  have hts := atoms_spec (ws := (Cond.code yX8_blame cX8_blame 3 none :: wsU)) B.pre
  have hts : ∀ w ∈ wsU, w.before _ s = true := fun w h => hts w (List.mem_cons_of_mem _ h)
  have hown : s.vm.findClass RX8 = some m.cls := findClass_of_methodNamed B.named
  have hlocks := B.notSynchronized
  subst hsz
  have hD := hD0.self (sz := s.heap.size)
  generalize hAe : va_A [(tp, .inr (8, [.ref i1, .ref i2, .int 0, .int mo, .int le, .int ag, .int 0, .ref bt, .int 0, .int bg, .int 0]))] s.heap.size = A at hD ⊢
  have hA : ∀ q : Nat, s.heap.size ≤ q → A q := fun q h => by rw [← hAe]; exact Or.inr h
  have hS : va_S A s.heap s.heap [] := va_S.rf
  have hP : va_P (dC, dI) vwCl [(tp, .inr (8, [.ref i1, .ref i2, .int 0, .int mo, .int le, .int ag, .int 0, .ref bt, .int 0, .int bg, .int 0]))] s.heap := hP
  have hl := lv_entry ([.ref tp, .int 0, .int 1]) (n := 3) (Nat.le_of_ble_eq_true rfl)
  rw [lg_entry_eq]
  generalize (lg_sl ([.ref tp, .int 0, .int 1]) ++ List.replicate (3 - (lg_sl ([.ref tp, .int 0, .int 1])).length) Slot.unset).toArray = ls at hl ⊢
  have hl : lv_has ls 3 [(0, .ref tp), (1, .int 0), (2, .int 1)] := hl
  refine lv_aload_n hx hb dX8_blame_0 rfl (lv_at hl 0 rfl) ?_
  refine lv_bipush (v := 8) hx hb dX8_blame_1 (by decide) ?_
  refine lv_iload_n hx hb dX8_blame_3 rfl (lv_at hl 1 rfl) ?_
  refine lv_imul hx hb dX8_blame_4 ?_
  refine kz_topi (y := 0) (by decide) ?_
  refine lv_iload_n hx hb dX8_blame_5 rfl (lv_at hl 2 rfl) ?_
  refine lv_iadd hx hb dX8_blame_6 ?_
  refine kz_topi (y := 1) (by decide) ?_
  refine va_put (D := (dC, dI)) (ci := 8) (v := .int 1) (ty := .int) (C := RX8) (T := TX8) (N := 11) hx hb hts inlX8 tyX8 tyX8_ok nmX8 hown hK hP hD hS 0 rfl rfl 10 (by decide) (hts _ qw_229) (fun _ h9 => h9) rfl (by decide +kernel) rfl rfl (Nat.le_of_ble_eq_true rfl) dX8_blame_7 (fun H locs hP hD hS => ?_)
  have hP : va_P (dC, dI) vwCl [(tp, .inr (8, [.ref i1, .ref i2, .int 0, .int mo, .int le, .int ag, .int 0, .ref bt, .int 0, .int bg, .int 1]))] H := hP
  have hD : va_D A [(tp, .inr (8, [.ref i1, .ref i2, .int 0, .int mo, .int le, .int ag, .int 0, .ref bt, .int 0, .int bg, .int 1]))] := hD
  have hP9 := hP.sub (ws' := [(tp, .inr (8, [.ref i1, .ref i2, .int 0, .int mo, .int le, .int ag, .int 0, .ref bt, .int 0, .int bg, .int 1]))]) [0] rfl
  have hD9 := hD.sub (ws' := [(tp, .inr (8, [.ref i1, .ref i2, .int 0, .int mo, .int le, .int ag, .int 0, .ref bt, .int 0, .int bg, .int 1]))]) [0] (by decide) rfl
  have hK9 := hK.sub (tys' := []) [] rfl
  exact W.vret hx hb hr (fun t ht hW => ⟨⟨(), rfl, trivial, ⟨by rw [ht]; exact hP9, va_K.moved hW.alike hK9, hD9⟩⟩, hS.F ht⟩) hS.2.2 dX8_blame_10
set_option maxHeartbeats 4000000 in
set_option maxRecDepth 100000 in
theorem c_X8_readNumber (l : Launch) (dC : Nat → ClassId) (dI : Nat → Nat → Nat) (tp : Nat) (i1 : Nat) (i2 : Nat) (bt : Nat) (mo : Int32) (le : Int32) (ag : Int32) (bg : Int32) (p1 : Int32) (p2 : Int32) (p3 : Int32) (sz : Nat) : Met l yX8_readNumber (Cond.code yX8_readNumber cX8_readNumber 6 (some .int) :: wsU) ({ frames := 0, cells := 0, slots := 0, locals := 0 }) (va_Pc [.ref tp, .int p1, .int p2, .int p3] (kz_B (dC, dI) sz [(tp, .inr (8, [.ref i1, .ref i2, .int 0, .int mo, .int le, .int ag, .int 0, .ref bt, .int 0, .int bg, .int 1]))] [])) (va_Qi (fun (r : Int32) (_ : Unit) => r = 0) (fun (_ : Unit) t => kz_E (dC, dI) (va_A [(tp, .inr (8, [.ref i1, .ref i2, .int 0, .int mo, .int le, .int ag, .int 0, .ref bt, .int 0, .int bg, .int 1]))] sz) [(tp, .inr (8, [.ref i1, .ref i2, .int 0, .int mo, .int le, .int ag, .int 0, .ref bt, .int 0, .int bg, .int 1]))] [] t) (va_A [(tp, .inr (8, [.ref i1, .ref i2, .int 0, .int mo, .int le, .int ag, .int 0, .ref bt, .int 0, .int bg, .int 1]))] sz)) 0 0 (va_A [(tp, .inr (8, [.ref i1, .ref i2, .int 0, .int mo, .int le, .int ag, .int 0, .ref bt, .int 0, .int bg, .int 1]))] sz) := by
  refine Met.ofW (cc := cX8_readNumber) (maxL := 6) (ret := (some .int)) (by decide) rfl ?_
  intro p e s m args below meth c s₁ B hml hv
  obtain ⟨rfl, hsz, hP, hK, hD0⟩ := hv
  have hx := B.exec
  have hb := B.bytes
  have hr := B.returns
  have hts := atoms_spec (ws := (Cond.code yX8_readNumber cX8_readNumber 6 (some .int) :: wsU)) B.pre
  have hts : ∀ w ∈ wsU, w.before _ s = true := fun w h => hts w (List.mem_cons_of_mem _ h)
  have hown : s.vm.findClass RX8 = some m.cls := findClass_of_methodNamed B.named
  have hlocks := B.notSynchronized
  subst hsz
  have hD := hD0.self (sz := s.heap.size)
  generalize hAe : va_A [(tp, .inr (8, [.ref i1, .ref i2, .int 0, .int mo, .int le, .int ag, .int 0, .ref bt, .int 0, .int bg, .int 1]))] s.heap.size = A at hD ⊢
  have hA : ∀ q : Nat, s.heap.size ≤ q → A q := fun q h => by rw [← hAe]; exact Or.inr h
  have hS : va_S A s.heap s.heap [] := va_S.rf
  have hP : va_P (dC, dI) vwCl [(tp, .inr (8, [.ref i1, .ref i2, .int 0, .int mo, .int le, .int ag, .int 0, .ref bt, .int 0, .int bg, .int 1]))] s.heap := hP
  have hl := lv_entry ([.ref tp, .int p1, .int p2, .int p3]) (n := 6) (Nat.le_of_ble_eq_true rfl)
  rw [lg_entry_eq]
  generalize (lg_sl ([.ref tp, .int p1, .int p2, .int p3]) ++ List.replicate (6 - (lg_sl ([.ref tp, .int p1, .int p2, .int p3])).length) Slot.unset).toArray = ls at hl ⊢
  have hl : lv_has ls 6 [(0, .ref tp), (1, .int p1), (2, .int p2), (3, .int p3)] := hl
  refine lv_aload_n hx hb dX8_readNumber_0 rfl (lv_at hl 0 rfl) ?_
  refine va_get (D := (dC, dI)) (ci := 8) (v := .int 1) (C := RX8) (T := TX8) (N := 11) hx hb hts inlX8 hown hK hP 0 rfl rfl 10 (by decide) (hts _ qw_229) (fun _ h9 => h9) rfl dX8_readNumber_1 ?_
  refine lv_if_eq (tgt := 9) hx hb dX8_readNumber_4 (by decide) (fun c9 => absurd c9 (by decide)) (fun _ => ?_)
  refine lv_iconst (v := 0) hx hb dX8_readNumber_7 (by decide) ?_
  have hP9 := hP.sub (ws' := [(tp, .inr (8, [.ref i1, .ref i2, .int 0, .int mo, .int le, .int ag, .int 0, .ref bt, .int 0, .int bg, .int 1]))]) [0] rfl
  have hD9 := hD.sub (ws' := [(tp, .inr (8, [.ref i1, .ref i2, .int 0, .int mo, .int le, .int ag, .int 0, .ref bt, .int 0, .int bg, .int 1]))]) [0] (by decide) rfl
  have hK9 := hK.sub (tys' := []) [] rfl
  exact W.iret (v := 0) hx hb hr (fun t ht hW => ⟨⟨0, (), rfl, rfl, ⟨by rw [ht]; exact hP9, va_K.moved hW.alike hK9, hD9⟩⟩, hS.F ht⟩) hS.2.2 dX8_readNumber_8
set_option maxHeartbeats 4000000 in
set_option maxRecDepth 100000 in
theorem c_X8_goesOn (l : Launch) (dC : Nat → ClassId) (dI : Nat → Nat → Nat) (tp : Nat) (i1 : Nat) (i2 : Nat) (bt : Nat) (mo : Int32) (le : Int32) (ag : Int32) (bg : Int32) (sz : Nat) : Met l yX8_goesOn (Cond.code yX8_goesOn cX8_goesOn 1 (some .boolean) :: wsU) ({ frames := 0, cells := 0, slots := 0, locals := 0 }) (va_Pc [.ref tp] (kz_B (dC, dI) sz [(tp, .inr (8, [.ref i1, .ref i2, .int 0, .int mo, .int le, .int ag, .int 0, .ref bt, .int 0, .int bg, .int 1]))] [])) (va_Qi (fun (r : Int32) (_ : Unit) => r = 0) (fun (_ : Unit) t => kz_E (dC, dI) (va_A [(tp, .inr (8, [.ref i1, .ref i2, .int 0, .int mo, .int le, .int ag, .int 0, .ref bt, .int 0, .int bg, .int 1]))] sz) [(tp, .inr (8, [.ref i1, .ref i2, .int 0, .int mo, .int le, .int ag, .int 0, .ref bt, .int 0, .int bg, .int 1]))] [] t) (va_A [(tp, .inr (8, [.ref i1, .ref i2, .int 0, .int mo, .int le, .int ag, .int 0, .ref bt, .int 0, .int bg, .int 1]))] sz)) 0 0 (va_A [(tp, .inr (8, [.ref i1, .ref i2, .int 0, .int mo, .int le, .int ag, .int 0, .ref bt, .int 0, .int bg, .int 1]))] sz) := by
  refine Met.ofW (cc := cX8_goesOn) (maxL := 1) (ret := (some .boolean)) (by decide) rfl ?_
  intro p e s m args below meth c s₁ B hml hv
  obtain ⟨rfl, hsz, hP, hK, hD0⟩ := hv
  have hx := B.exec
  have hb := B.bytes
  have hr := B.returns
  have hts := atoms_spec (ws := (Cond.code yX8_goesOn cX8_goesOn 1 (some .boolean) :: wsU)) B.pre
  have hts : ∀ w ∈ wsU, w.before _ s = true := fun w h => hts w (List.mem_cons_of_mem _ h)
  have hown : s.vm.findClass RX8 = some m.cls := findClass_of_methodNamed B.named
  have hlocks := B.notSynchronized
  subst hsz
  have hD := hD0.self (sz := s.heap.size)
  generalize hAe : va_A [(tp, .inr (8, [.ref i1, .ref i2, .int 0, .int mo, .int le, .int ag, .int 0, .ref bt, .int 0, .int bg, .int 1]))] s.heap.size = A at hD ⊢
  have hA : ∀ q : Nat, s.heap.size ≤ q → A q := fun q h => by rw [← hAe]; exact Or.inr h
  have hS : va_S A s.heap s.heap [] := va_S.rf
  have hP : va_P (dC, dI) vwCl [(tp, .inr (8, [.ref i1, .ref i2, .int 0, .int mo, .int le, .int ag, .int 0, .ref bt, .int 0, .int bg, .int 1]))] s.heap := hP
  have hl := lv_entry ([.ref tp]) (n := 1) (Nat.le_of_ble_eq_true rfl)
  rw [lg_entry_eq]
  generalize (lg_sl ([.ref tp]) ++ List.replicate (1 - (lg_sl ([.ref tp])).length) Slot.unset).toArray = ls at hl ⊢
  have hl : lv_has ls 1 [(0, .ref tp)] := hl
  refine lv_aload_n hx hb dX8_goesOn_0 rfl (lv_at hl 0 rfl) ?_
  refine va_get (D := (dC, dI)) (ci := 8) (v := .int 1) (C := RX8) (T := TX8) (N := 11) hx hb hts inlX8 hown hK hP 0 rfl rfl 10 (by decide) (hts _ qw_229) (fun _ h9 => h9) rfl dX8_goesOn_1 ?_
  refine lv_if_eq (tgt := 9) hx hb dX8_goesOn_4 (by decide) (fun c9 => absurd c9 (by decide)) (fun _ => ?_)
  refine lv_iconst (v := 0) hx hb dX8_goesOn_7 (by decide) ?_
  have hP9 := hP.sub (ws' := [(tp, .inr (8, [.ref i1, .ref i2, .int 0, .int mo, .int le, .int ag, .int 0, .ref bt, .int 0, .int bg, .int 1]))]) [0] rfl
  have hD9 := hD.sub (ws' := [(tp, .inr (8, [.ref i1, .ref i2, .int 0, .int mo, .int le, .int ag, .int 0, .ref bt, .int 0, .int bg, .int 1]))]) [0] (by decide) rfl
  have hK9 := hK.sub (tys' := []) [] rfl
  exact W.zret (v := 0) hx hb hr rfl (fun t ht hW => ⟨⟨0, (), rfl, rfl, ⟨by rw [ht]; exact hP9, va_K.moved hW.alike hK9, hD9⟩⟩, hS.F ht⟩) hS.2.2 dX8_goesOn_8
set_option maxHeartbeats 4000000 in
set_option maxRecDepth 100000 in
theorem c_X8_readWord (l : Launch) (dC : Nat → ClassId) (dI : Nat → Nat → Nat) (tp : Nat) (i1 : Nat) (i2 : Nat) (bt : Nat) (mo : Int32) (le : Int32) (ag : Int32) (bg : Int32) (sq : Nat) (sv : Nat) (sz : Nat) : Met l yX8_readWord (Cond.code yX8_readWord cX8_readWord 4 none :: wsU) ({ frames := 2, cells := 0, slots := 0, locals := 40 }) (va_Pc [.ref tp, .ref sq] (fun U => kz_B (dC, dI) sz [(tp, .inr (8, [.ref i1, .ref i2, .int 0, .int mo, .int le, .int ag, .int 0, .ref bt, .int 0, .int bg, .int 0]))] [] U ∧ kz_Ss sq sv (va_A [(tp, .inr (8, [.ref i1, .ref i2, .int 0, .int mo, .int le, .int ag, .int 0, .ref bt, .int 0, .int bg, .int 0]))] sz) U U.heap)) (va_Qv (fun (_ : Unit) => True) (fun (_ : Unit) t => kz_E (dC, dI) (va_A [(tp, .inr (8, [.ref i1, .ref i2, .int 0, .int mo, .int le, .int ag, .int 0, .ref bt, .int 0, .int bg, .int 0]))] sz) [(tp, .inr (8, [.ref i1, .ref i2, .int 0, .int mo, .int le, .int ag, .int 0, .ref bt, .int 0, .int 0, .int 1]))] [] t) (va_A [(tp, .inr (8, [.ref i1, .ref i2, .int 0, .int mo, .int le, .int ag, .int 0, .ref bt, .int 0, .int bg, .int 0]))] sz)) 0 0 (va_A [(tp, .inr (8, [.ref i1, .ref i2, .int 0, .int mo, .int le, .int ag, .int 0, .ref bt, .int 0, .int bg, .int 0]))] sz) := by
  refine Met.ofW (cc := cX8_readWord) (maxL := 4) (ret := none) (by decide) rfl ?_
  intro p e s m args below meth c s₁ B hml hv
  obtain ⟨rfl, ⟨hsz, hP, hK, hD0⟩, hAm⟩ := hv
  have hx := B.exec
  have hb := B.bytes
  have hr := B.returns
  have hts := atoms_spec (ws := (Cond.code yX8_readWord cX8_readWord 4 none :: wsU)) B.pre
  have hts : ∀ w ∈ wsU, w.before _ s = true := fun w h => hts w (List.mem_cons_of_mem _ h)
  have hown : s.vm.findClass RX8 = some m.cls := findClass_of_methodNamed B.named
  have hlocks := B.notSynchronized
  subst hsz
  have hD := hD0.self (sz := s.heap.size)
  generalize hAe : va_A [(tp, .inr (8, [.ref i1, .ref i2, .int 0, .int mo, .int le, .int ag, .int 0, .ref bt, .int 0, .int bg, .int 0]))] s.heap.size = A at hD hAm ⊢
  have hA : ∀ q : Nat, s.heap.size ≤ q → A q := fun q h => by rw [← hAe]; exact Or.inr h
  have hS : va_S A s.heap s.heap [] := va_S.rf
  have hP : va_P (dC, dI) vwCl [(tp, .inr (8, [.ref i1, .ref i2, .int 0, .int mo, .int le, .int ag, .int 0, .ref bt, .int 0, .int bg, .int 0]))] s.heap := hP
  have hl := lv_entry ([.ref tp, .ref sq]) (n := 4) (Nat.le_of_ble_eq_true rfl)
  rw [lg_entry_eq]
  generalize (lg_sl ([.ref tp, .ref sq]) ++ List.replicate (4 - (lg_sl ([.ref tp, .ref sq])).length) Slot.unset).toArray = ls at hl ⊢
  have hl : lv_has ls 4 [(0, .ref tp), (1, .ref sq)] := hl
  refine lv_aload_n hx hb dX8_readWord_0 rfl (lv_at hl 0 rfl) ?_
  refine va_get (D := (dC, dI)) (ci := 8) (v := .int 0) (C := RX8) (T := TX8) (N := 11) hx hb hts inlX8 hown hK hP 0 rfl rfl 10 (by decide) (hts _ qw_229) (fun _ h9 => h9) rfl dX8_readWord_1 ?_
  refine lv_if_eq (tgt := 8) hx hb dX8_readWord_4 (by decide) (fun _ => ?_) (fun c9 => absurd (by decide) c9)
  refine lv_aload_n hx hb dX8_readWord_8 rfl (lv_at hl 0 rfl) ?_
  have hPc := hP.sub (ws' := [(tp, .inr (8, [.ref i1, .ref i2, .int 0, .int mo, .int le, .int ag, .int 0, .ref bt, .int 0, .int bg, .int 0]))]) [0] rfl
  have hDc := hD.sub (ws' := [(tp, .inr (8, [.ref i1, .ref i2, .int 0, .int mo, .int le, .int ag, .int 0, .ref bt, .int 0, .int bg, .int 0]))]) [0] (by decide) rfl
  have hKc := hK.sub (tys' := []) [] rfl
  have hFc := va_free (wc := [(tp, .inr (8, [.ref i1, .ref i2, .int 0, .int mo, .int le, .int ag, .int 0, .ref bt, .int 0, .int bg, .int 0]))]) hD hS hA [0] rfl
  refine va_callv (va_runV (As := []) (rest := []) ⟨hx, hb, hml, hown, hts⟩ (c_X8_skipBlanks l dC dI (tp) (i1) (i2) (bt) (mo) (le) (ag) (bg) s.heap.size) (cwV 0 hts (kz_gV qw_242 qw_243 qw_244 qw_14 qw_245) rfl rfl rfl (by decide +kernel) ⟨Nat.le_of_ble_eq_true rfl, Nat.le_of_ble_eq_true rfl⟩) (⟨(kz_preS hPc hKc hDc).1, (va_recv hKc hPc (ci := 8) (q0 := 0) rfl rfl), (kz_preS hPc hKc hDc).2⟩) rfl rfl hl.1 rfl (lv_room (Nat.le_of_ble_eq_true rfl)) dX8_readWord_9 ⟨Nat.le_of_ble_eq_true rfl, Nat.le_of_ble_eq_true rfl⟩) hS (fun q _ h => hFc q h) hFc (fun u_2 t H1 locs ht hvm hw hB hz1 hk1 hS => ?_)
  try dsimp only at hw
  obtain ⟨hP1, hK1, hD1⟩ := hB
  rw [ht] at hP1
  have hK1 := va_K.moved hvm.symm hK1
  obtain ⟨hP, hD⟩ := va_join (wr := []) (w1 := [(tp, .inr (8, [.ref i1, .ref i2, .int 0, .int mo, .int le, .int ag, .int 0, .ref bt, .int 0, .int bg, .int 0]))]) hP hD [0] [] rfl rfl (by decide) (by decide) hk1 hFc hP1 hD1
  have hK := (hK.sub (tys' := []) [] rfl).app hK1
  generalize H1 = H at hP hS ⊢
  have hP : va_P (dC, dI) vwCl [(tp, .inr (8, [.ref i1, .ref i2, .int 0, .int mo, .int le, .int ag, .int 0, .ref bt, .int 0, .int bg, .int 0]))] H := hP
  have hD : va_D A [(tp, .inr (8, [.ref i1, .ref i2, .int 0, .int mo, .int le, .int ag, .int 0, .ref bt, .int 0, .int bg, .int 0]))] := hD
  have hK : va_K (dC, dI) vwCl [] s := hK
  refine lv_aload_n hx hb dX8_readWord_12 rfl (lv_at hl 0 rfl) ?_
  refine lv_aload_n hx hb dX8_readWord_13 rfl (lv_at hl 0 rfl) ?_
  refine va_get (D := (dC, dI)) (ci := 8) (v := .int 0) (C := RX8) (T := TX8) (N := 11) hx hb hts inlX8 hown hK hP 0 rfl rfl 8 (by decide) (hts _ qw_227) (fun _ h9 => h9) rfl dX8_readWord_14 ?_
  refine va_put (D := (dC, dI)) (ci := 8) (v := .int 0) (ty := .int) (C := RX8) (T := TX8) (N := 11) hx hb hts inlX8 tyX8 tyX8_ok nmX8 hown hK hP hD hS 0 rfl rfl 9 (by decide) (hts _ qw_228) (fun _ h9 => h9) rfl (by decide +kernel) rfl rfl (Nat.le_of_ble_eq_true rfl) dX8_readWord_17 (fun H locs hP hD hS => ?_)
  have hP : va_P (dC, dI) vwCl [(tp, .inr (8, [.ref i1, .ref i2, .int 0, .int mo, .int le, .int ag, .int 0, .ref bt, .int 0, .int 0, .int 0]))] H := hP
  have hD : va_D A [(tp, .inr (8, [.ref i1, .ref i2, .int 0, .int mo, .int le, .int ag, .int 0, .ref bt, .int 0, .int 0, .int 0]))] := hD
  refine lv_iconst (v := 1) hx hb dX8_readWord_20 (by decide) ?_
  refine lv_istore_n (lv' := [(2, .int 1), (0, .ref tp), (1, .ref sq)]) hx hb dX8_readWord_21 rfl hl (by decide) rfl (fun ls hl => ?_)
  refine lv_iconst (v := 0) hx hb dX8_readWord_22 (by decide) ?_
  refine lv_istore_n (lv' := [(3, .int 0), (2, .int 1), (0, .ref tp), (1, .ref sq)]) hx hb dX8_readWord_23 rfl hl (by decide) rfl (fun ls hl => ?_)
  refine lv_aload_n hx hb dX8_readWord_24 rfl (lv_at hl 2 rfl) ?_
  refine va_get (D := (dC, dI)) (ci := 8) (v := .int 0) (C := RX8) (T := TX8) (N := 11) hx hb hts inlX8 hown hK hP 0 rfl rfl 8 (by decide) (hts _ qw_227) (fun _ h9 => h9) rfl dX8_readWord_25 ?_
  refine lv_aload_n hx hb dX8_readWord_28 rfl (lv_at hl 2 rfl) ?_
  refine va_get (D := (dC, dI)) (ci := 8) (v := .int 0) (C := RX8) (T := TX8) (N := 11) hx hb hts inlX8 hown hK hP 0 rfl rfl 2 (by decide) (hts _ qw_57) (fun _ h9 => h9) rfl dX8_readWord_29 ?_
  refine lv_icmp_ge (tgt := 99) hx hb dX8_readWord_32 (by decide) (fun _ => ?_) (fun c9 => absurd (by decide) c9)
  refine lv_iload_n hx hb dX8_readWord_99 rfl (lv_at hl 1 rfl) ?_
  refine lv_if_eq (tgt := 111) hx hb dX8_readWord_100 (by decide) (fun c9 => absurd c9 (by decide)) (fun _ => ?_)
  refine lv_iload_n hx hb dX8_readWord_103 rfl (lv_at hl 0 rfl) ?_
  refine lv_aload_n hx hb dX8_readWord_104 rfl (lv_at hl 3 rfl) ?_
  have hPc := hP.sub (ws' := []) [] rfl
  have hDc := hD.sub (ws' := []) [] (by decide) rfl
  have hKc := hK.sub (tys' := []) [] rfl
  have hFc := va_free (wc := []) hD hS hA [] rfl
  refine va_calli (va_runV (As := []) (rest := [.int 0]) ⟨hx, hb, hml, hown, hts⟩ (c_J0_length_8abf5 l dC dI (sq) (sv) H.size) (cwV 0 hts (kz_gV qw_253 qw_254 qw_255 qw_256 qw_257) rfl rfl rfl (by decide +kernel) ⟨Nat.le_of_ble_eq_true rfl, Nat.le_of_ble_eq_true rfl⟩) (⟨(kz_preT hPc hKc hDc hAm hS hFc).1, (kz_recvT hAm hS), (kz_preT hPc hKc hDc hAm hS hFc).2⟩) rfl rfl hl.1 rfl (lv_room (Nat.le_of_ble_eq_true rfl)) dX8_readWord_105 ⟨Nat.le_of_ble_eq_true rfl, Nat.le_of_ble_eq_true rfl⟩) hS (fun q _ h => hFc q h) hFc (fun r_3 u_4 t H1 locs ht hvm hw hB hz1 hk1 hS => ?_)
  try dsimp only at hw
  have hP1 : va_P (dC, dI) vwCl [] H1 := kz_P0
  have hD1 : va_D (va_A [] H.size) [] := kz_D0
  have hK1 : va_K (dC, dI) vwCl [] s := hK.sub [] rfl
  obtain ⟨hP, hD⟩ := va_join (wr := [(tp, .inr (8, [.ref i1, .ref i2, .int 0, .int mo, .int le, .int ag, .int 0, .ref bt, .int 0, .int 0, .int 0]))]) (w1 := []) hP hD [] [0] rfl rfl (by decide) (by decide) hk1 hFc hP1 hD1
  have hK := (hK.sub (tys' := []) [] rfl).app hK1
  generalize H1 = H at hP hS ⊢
  have hP : va_P (dC, dI) vwCl [(tp, .inr (8, [.ref i1, .ref i2, .int 0, .int mo, .int le, .int ag, .int 0, .ref bt, .int 0, .int 0, .int 0]))] H := hP
  have hD : va_D A [(tp, .inr (8, [.ref i1, .ref i2, .int 0, .int mo, .int le, .int ag, .int 0, .ref bt, .int 0, .int 0, .int 0]))] := hD
  have hK : va_K (dC, dI) vwCl [] s := hK
  obtain rfl : r_3 = 4 := hw
  refine lv_icmp_eq (tgt := 120) hx hb dX8_readWord_108 (by decide) (fun c9 => absurd c9 (by decide)) (fun _ => ?_)
  refine lv_aload_n hx hb dX8_readWord_111 rfl (lv_at hl 2 rfl) ?_
  refine lv_aload_n hx hb dX8_readWord_112 rfl (lv_at hl 2 rfl) ?_
  refine va_get (D := (dC, dI)) (ci := 8) (v := .int 0) (C := RX8) (T := TX8) (N := 11) hx hb hts inlX8 hown hK hP 0 rfl rfl 9 (by decide) (hts _ qw_228) (fun _ h9 => h9) rfl dX8_readWord_113 ?_
  refine lv_iconst (v := 1) hx hb dX8_readWord_116 (by decide) ?_
  have hPc := hP.sub (ws' := [(tp, .inr (8, [.ref i1, .ref i2, .int 0, .int mo, .int le, .int ag, .int 0, .ref bt, .int 0, .int 0, .int 0]))]) [0] rfl
  have hDc := hD.sub (ws' := [(tp, .inr (8, [.ref i1, .ref i2, .int 0, .int mo, .int le, .int ag, .int 0, .ref bt, .int 0, .int 0, .int 0]))]) [0] (by decide) rfl
  have hKc := hK.sub (tys' := []) [] rfl
  have hFc := va_free (wc := [(tp, .inr (8, [.ref i1, .ref i2, .int 0, .int mo, .int le, .int ag, .int 0, .ref bt, .int 0, .int 0, .int 0]))]) hD hS hA [0] rfl
  refine va_callv (va_runV (As := [.int 0, .int 1]) (rest := []) ⟨hx, hb, hml, hown, hts⟩ (c_X8_blame l dC dI (tp) (i1) (i2) (bt) (mo) (le) (ag) (0) H.size) (cwV 2 hts (kz_gV qw_302 qw_303 qw_304 qw_14 qw_305) rfl rfl rfl (by decide +kernel) ⟨Nat.le_of_ble_eq_true rfl, Nat.le_of_ble_eq_true rfl⟩) (⟨(kz_preS hPc hKc hDc).1, (va_recv hKc hPc (ci := 8) (q0 := 0) rfl rfl), (kz_preS hPc hKc hDc).2⟩) rfl rfl hl.1 rfl (lv_room (Nat.le_of_ble_eq_true rfl)) dX8_readWord_117 ⟨Nat.le_of_ble_eq_true rfl, Nat.le_of_ble_eq_true rfl⟩) hS (fun q _ h => hFc q h) hFc (fun u_6 t H1 locs ht hvm hw hB hz1 hk1 hS => ?_)
  try dsimp only at hw
  obtain ⟨hP1, hK1, hD1⟩ := hB
  rw [ht] at hP1
  have hK1 := va_K.moved hvm.symm hK1
  obtain ⟨hP, hD⟩ := va_join (wr := []) (w1 := [(tp, .inr (8, [.ref i1, .ref i2, .int 0, .int mo, .int le, .int ag, .int 0, .ref bt, .int 0, .int 0, .int 1]))]) hP hD [0] [] rfl rfl (by decide) (by decide) hk1 hFc hP1 hD1
  have hK := (hK.sub (tys' := []) [] rfl).app hK1
  generalize H1 = H at hP hS ⊢
  have hP : va_P (dC, dI) vwCl [(tp, .inr (8, [.ref i1, .ref i2, .int 0, .int mo, .int le, .int ag, .int 0, .ref bt, .int 0, .int 0, .int 1]))] H := hP
  have hD : va_D A [(tp, .inr (8, [.ref i1, .ref i2, .int 0, .int mo, .int le, .int ag, .int 0, .ref bt, .int 0, .int 0, .int 1]))] := hD
  have hK : va_K (dC, dI) vwCl [] s := hK
  have hP9 := hP.sub (ws' := [(tp, .inr (8, [.ref i1, .ref i2, .int 0, .int mo, .int le, .int ag, .int 0, .ref bt, .int 0, .int 0, .int 1]))]) [0] rfl
  have hD9 := hD.sub (ws' := [(tp, .inr (8, [.ref i1, .ref i2, .int 0, .int mo, .int le, .int ag, .int 0, .ref bt, .int 0, .int 0, .int 1]))]) [0] (by decide) rfl
  have hK9 := hK.sub (tys' := []) [] rfl
  exact W.vret hx hb hr (fun t ht hW => ⟨⟨(), rfl, trivial, ⟨by rw [ht]; exact hP9, va_K.moved hW.alike hK9, hD9⟩⟩, hS.F ht⟩) hS.2.2 dX8_readWord_120
set_option maxHeartbeats 4000000 in
set_option maxRecDepth 100000 in
theorem c_X8_read (l : Launch) (dC : Nat → ClassId) (dI : Nat → Nat → Nat) (tp : Nat) (i1 : Nat) (i2 : Nat) (bt : Nat) (sq : Nat) (sv : Nat) (sz : Nat) : Met l yX8_read (Cond.code yX8_read cX8_read 2 (some .int) :: wsU) ({ frames := 3, cells := 0, slots := 0, locals := 63 }) (va_Pc [.ref tp] (fun U => kz_B (dC, dI) sz [(tp, .inr (8, [.ref i1, .ref i2, .int 0, .int 0, .int 0, .int 0, .int 0, .ref bt, .int 0, .int 0, .int 0]))] [] U ∧ kz_St RX8 38 sq sv (va_A [(tp, .inr (8, [.ref i1, .ref i2, .int 0, .int 0, .int 0, .int 0, .int 0, .ref bt, .int 0, .int 0, .int 0]))] sz) U)) (va_Qi (fun (r : Int32) (_ : Unit) => r = 1) (fun (_ : Unit) t => kz_E (dC, dI) (va_A [(tp, .inr (8, [.ref i1, .ref i2, .int 0, .int 0, .int 0, .int 0, .int 0, .ref bt, .int 0, .int 0, .int 0]))] sz) [(tp, .inr (8, [.ref i1, .ref i2, .int 0, .int 0, .int 0, .int 0, .int 0, .ref bt, .int 0, .int 0, .int 1]))] [] t) (va_A [(tp, .inr (8, [.ref i1, .ref i2, .int 0, .int 0, .int 0, .int 0, .int 0, .ref bt, .int 0, .int 0, .int 0]))] sz)) 0 0 (va_A [(tp, .inr (8, [.ref i1, .ref i2, .int 0, .int 0, .int 0, .int 0, .int 0, .ref bt, .int 0, .int 0, .int 0]))] sz) := by
  refine Met.ofW (cc := cX8_read) (maxL := 2) (ret := (some .int)) (by decide) rfl ?_
  intro p e s m args below meth c s₁ B hml hv
  obtain ⟨rfl, ⟨hsz, hP, hK, hD0⟩, hAm⟩ := hv
  have hx := B.exec
  have hb := B.bytes
  have hr := B.returns
  have hts := atoms_spec (ws := (Cond.code yX8_read cX8_read 2 (some .int) :: wsU)) B.pre
  have hts : ∀ w ∈ wsU, w.before _ s = true := fun w h => hts w (List.mem_cons_of_mem _ h)
  have hown : s.vm.findClass RX8 = some m.cls := findClass_of_methodNamed B.named
  have hlocks := B.notSynchronized
  subst hsz
  have hD := hD0.self (sz := s.heap.size)
  generalize hAe : va_A [(tp, .inr (8, [.ref i1, .ref i2, .int 0, .int 0, .int 0, .int 0, .int 0, .ref bt, .int 0, .int 0, .int 0]))] s.heap.size = A at hD hAm ⊢
  have hA : ∀ q : Nat, s.heap.size ≤ q → A q := fun q h => by rw [← hAe]; exact Or.inr h
  have hS : va_S A s.heap s.heap [] := va_S.rf
  have hP : va_P (dC, dI) vwCl [(tp, .inr (8, [.ref i1, .ref i2, .int 0, .int 0, .int 0, .int 0, .int 0, .ref bt, .int 0, .int 0, .int 0]))] s.heap := hP
  have hl := lv_entry ([.ref tp]) (n := 2) (Nat.le_of_ble_eq_true rfl)
  rw [lg_entry_eq]
  generalize (lg_sl ([.ref tp]) ++ List.replicate (2 - (lg_sl ([.ref tp])).length) Slot.unset).toArray = ls at hl ⊢
  have hl : lv_has ls 2 [(0, .ref tp)] := hl
  refine lv_aload_n hx hb dX8_read_0 rfl (lv_at hl 0 rfl) ?_
  refine lv_iconst (v := 0) hx hb dX8_read_1 (by decide) ?_
  refine va_put (D := (dC, dI)) (ci := 8) (v := .int 0) (ty := .int) (C := RX8) (T := TX8) (N := 11) hx hb hts inlX8 tyX8 tyX8_ok nmX8 hown hK hP hD hS 0 rfl rfl 8 (by decide) (hts _ qw_227) (fun _ h9 => h9) rfl (by decide +kernel) rfl rfl (Nat.le_of_ble_eq_true rfl) dX8_read_2 (fun H locs hP hD hS => ?_)
  have hP : va_P (dC, dI) vwCl [(tp, .inr (8, [.ref i1, .ref i2, .int 0, .int 0, .int 0, .int 0, .int 0, .ref bt, .int 0, .int 0, .int 0]))] H := hP
  have hD : va_D A [(tp, .inr (8, [.ref i1, .ref i2, .int 0, .int 0, .int 0, .int 0, .int 0, .ref bt, .int 0, .int 0, .int 0]))] := hD
  refine lv_aload_n hx hb dX8_read_5 rfl (lv_at hl 0 rfl) ?_
  refine lv_iconst (v := 0) hx hb dX8_read_6 (by decide) ?_
  refine va_put (D := (dC, dI)) (ci := 8) (v := .int 0) (ty := .int) (C := RX8) (T := TX8) (N := 11) hx hb hts inlX8 tyX8 tyX8_ok nmX8 hown hK hP hD hS 0 rfl rfl 9 (by decide) (hts _ qw_228) (fun _ h9 => h9) rfl (by decide +kernel) rfl rfl (Nat.le_of_ble_eq_true rfl) dX8_read_7 (fun H locs hP hD hS => ?_)
  have hP : va_P (dC, dI) vwCl [(tp, .inr (8, [.ref i1, .ref i2, .int 0, .int 0, .int 0, .int 0, .int 0, .ref bt, .int 0, .int 0, .int 0]))] H := hP
  have hD : va_D A [(tp, .inr (8, [.ref i1, .ref i2, .int 0, .int 0, .int 0, .int 0, .int 0, .ref bt, .int 0, .int 0, .int 0]))] := hD
  refine lv_aload_n hx hb dX8_read_10 rfl (lv_at hl 0 rfl) ?_
  refine lv_iconst (v := 0) hx hb dX8_read_11 (by decide) ?_
  refine va_put (D := (dC, dI)) (ci := 8) (v := .int 0) (ty := .int) (C := RX8) (T := TX8) (N := 11) hx hb hts inlX8 tyX8 tyX8_ok nmX8 hown hK hP hD hS 0 rfl rfl 10 (by decide) (hts _ qw_229) (fun _ h9 => h9) rfl (by decide +kernel) rfl rfl (Nat.le_of_ble_eq_true rfl) dX8_read_12 (fun H locs hP hD hS => ?_)
  have hP : va_P (dC, dI) vwCl [(tp, .inr (8, [.ref i1, .ref i2, .int 0, .int 0, .int 0, .int 0, .int 0, .ref bt, .int 0, .int 0, .int 0]))] H := hP
  have hD : va_D A [(tp, .inr (8, [.ref i1, .ref i2, .int 0, .int 0, .int 0, .int 0, .int 0, .ref bt, .int 0, .int 0, .int 0]))] := hD
  refine lv_aload_n hx hb dX8_read_15 rfl (lv_at hl 0 rfl) ?_
  refine lv_iconst (v := 0) hx hb dX8_read_16 (by decide) ?_
  refine va_put (D := (dC, dI)) (ci := 8) (v := .int 0) (ty := .int) (C := RX8) (T := TX8) (N := 11) hx hb hts inlX8 tyX8 tyX8_ok nmX8 hown hK hP hD hS 0 rfl rfl 6 (by decide) (hts _ qw_230) (fun _ h9 => h9) rfl (by decide +kernel) rfl rfl (Nat.le_of_ble_eq_true rfl) dX8_read_17 (fun H locs hP hD hS => ?_)
  have hP : va_P (dC, dI) vwCl [(tp, .inr (8, [.ref i1, .ref i2, .int 0, .int 0, .int 0, .int 0, .int 0, .ref bt, .int 0, .int 0, .int 0]))] H := hP
  have hD : va_D A [(tp, .inr (8, [.ref i1, .ref i2, .int 0, .int 0, .int 0, .int 0, .int 0, .ref bt, .int 0, .int 0, .int 0]))] := hD
  refine lv_aload_n hx hb dX8_read_20 rfl (lv_at hl 0 rfl) ?_
  refine va_ldcS hx hb hown hAm.1 dX8_read_21 ?_
  have hPc := hP.sub (ws' := [(tp, .inr (8, [.ref i1, .ref i2, .int 0, .int 0, .int 0, .int 0, .int 0, .ref bt, .int 0, .int 0, .int 0]))]) [0] rfl
  have hDc := hD.sub (ws' := [(tp, .inr (8, [.ref i1, .ref i2, .int 0, .int 0, .int 0, .int 0, .int 0, .ref bt, .int 0, .int 0, .int 0]))]) [0] (by decide) rfl
  have hKc := hK.sub (tys' := []) [] rfl
  have hFc := va_free (wc := [(tp, .inr (8, [.ref i1, .ref i2, .int 0, .int 0, .int 0, .int 0, .int 0, .ref bt, .int 0, .int 0, .int 0]))]) hD hS hA [0] rfl
  refine va_callv (va_runV (As := [.ref sq]) (rest := []) ⟨hx, hb, hml, hown, hts⟩ (c_X8_readWord l dC dI (tp) (i1) (i2) (bt) (0) (0) (0) (0) (sq) (sv) H.size) (cwV 1 hts (kz_gV qw_238 qw_239 qw_240 qw_14 qw_241) rfl rfl rfl (by decide +kernel) ⟨Nat.le_of_ble_eq_true rfl, Nat.le_of_ble_eq_true rfl⟩) (⟨(kz_preT hPc hKc hDc hAm.2 hS hFc).1, (va_recv hKc hPc (ci := 8) (q0 := 0) rfl rfl), (kz_preT hPc hKc hDc hAm.2 hS hFc).2⟩) rfl rfl hl.1 rfl (lv_room (Nat.le_of_ble_eq_true rfl)) dX8_read_23 ⟨Nat.le_of_ble_eq_true rfl, Nat.le_of_ble_eq_true rfl⟩) hS (fun q _ h => hFc q h) hFc (fun u_2 t H1 locs ht hvm hw hB hz1 hk1 hS => ?_)
  try dsimp only at hw
  obtain ⟨hP1, hK1, hD1⟩ := hB
  rw [ht] at hP1
  have hK1 := va_K.moved hvm.symm hK1
  obtain ⟨hP, hD⟩ := va_join (wr := []) (w1 := [(tp, .inr (8, [.ref i1, .ref i2, .int 0, .int 0, .int 0, .int 0, .int 0, .ref bt, .int 0, .int 0, .int 1]))]) hP hD [0] [] rfl rfl (by decide) (by decide) hk1 hFc hP1 hD1
  have hK := (hK.sub (tys' := []) [] rfl).app hK1
  generalize H1 = H at hP hS ⊢
  have hP : va_P (dC, dI) vwCl [(tp, .inr (8, [.ref i1, .ref i2, .int 0, .int 0, .int 0, .int 0, .int 0, .ref bt, .int 0, .int 0, .int 1]))] H := hP
  have hD : va_D A [(tp, .inr (8, [.ref i1, .ref i2, .int 0, .int 0, .int 0, .int 0, .int 0, .ref bt, .int 0, .int 0, .int 1]))] := hD
  have hK : va_K (dC, dI) vwCl [] s := hK
  refine lv_aload_n hx hb dX8_read_26 rfl (lv_at hl 0 rfl) ?_
  refine lv_aload_n hx hb dX8_read_27 rfl (lv_at hl 0 rfl) ?_
  refine lv_iconst (v := 3) hx hb dX8_read_28 (by decide) ?_
  refine lv_bipush (v := 8) hx hb dX8_read_29 (by decide) ?_
  refine lv_iconst (v := 0) hx hb dX8_read_31 (by decide) ?_
  have hPc := hP.sub (ws' := [(tp, .inr (8, [.ref i1, .ref i2, .int 0, .int 0, .int 0, .int 0, .int 0, .ref bt, .int 0, .int 0, .int 1]))]) [0] rfl
  have hDc := hD.sub (ws' := [(tp, .inr (8, [.ref i1, .ref i2, .int 0, .int 0, .int 0, .int 0, .int 0, .ref bt, .int 0, .int 0, .int 1]))]) [0] (by decide) rfl
  have hKc := hK.sub (tys' := []) [] rfl
  have hFc := va_free (wc := [(tp, .inr (8, [.ref i1, .ref i2, .int 0, .int 0, .int 0, .int 0, .int 0, .ref bt, .int 0, .int 0, .int 1]))]) hD hS hA [0] rfl
  refine va_calli (va_runV (As := [.int 3, .int 8, .int 0]) (rest := [.ref tp]) ⟨hx, hb, hml, hown, hts⟩ (c_X8_readNumber l dC dI (tp) (i1) (i2) (bt) (0) (0) (0) (0) (3) (8) (0) H.size) (cwV 3 hts (kz_gV qw_306 qw_307 qw_308 qw_14 qw_309) rfl rfl rfl (by decide +kernel) ⟨Nat.le_of_ble_eq_true rfl, Nat.le_of_ble_eq_true rfl⟩) (⟨(kz_preS hPc hKc hDc).1, (va_recv hKc hPc (ci := 8) (q0 := 0) rfl rfl), (kz_preS hPc hKc hDc).2⟩) rfl rfl hl.1 rfl (lv_room (Nat.le_of_ble_eq_true rfl)) dX8_read_32 ⟨Nat.le_of_ble_eq_true rfl, Nat.le_of_ble_eq_true rfl⟩) hS (fun q _ h => hFc q h) hFc (fun r_3 u_4 t H1 locs ht hvm hw hB hz1 hk1 hS => ?_)
  try dsimp only at hw
  obtain ⟨hP1, hK1, hD1⟩ := hB
  rw [ht] at hP1
  have hK1 := va_K.moved hvm.symm hK1
  obtain ⟨hP, hD⟩ := va_join (wr := []) (w1 := [(tp, .inr (8, [.ref i1, .ref i2, .int 0, .int 0, .int 0, .int 0, .int 0, .ref bt, .int 0, .int 0, .int 1]))]) hP hD [0] [] rfl rfl (by decide) (by decide) hk1 hFc hP1 hD1
  have hK := (hK.sub (tys' := []) [] rfl).app hK1
  generalize H1 = H at hP hS ⊢
  have hP : va_P (dC, dI) vwCl [(tp, .inr (8, [.ref i1, .ref i2, .int 0, .int 0, .int 0, .int 0, .int 0, .ref bt, .int 0, .int 0, .int 1]))] H := hP
  have hD : va_D A [(tp, .inr (8, [.ref i1, .ref i2, .int 0, .int 0, .int 0, .int 0, .int 0, .ref bt, .int 0, .int 0, .int 1]))] := hD
  have hK : va_K (dC, dI) vwCl [] s := hK
  obtain rfl : r_3 = 0 := hw
  refine va_put (D := (dC, dI)) (ci := 8) (v := .int 0) (ty := .int) (C := RX8) (T := TX8) (N := 11) hx hb hts inlX8 tyX8 tyX8_ok nmX8 hown hK hP hD hS 0 rfl rfl 3 (by decide) (hts _ qw_231) (fun _ h9 => h9) rfl (by decide +kernel) rfl rfl (Nat.le_of_ble_eq_true rfl) dX8_read_35 (fun H locs hP hD hS => ?_)
  have hP : va_P (dC, dI) vwCl [(tp, .inr (8, [.ref i1, .ref i2, .int 0, .int 0, .int 0, .int 0, .int 0, .ref bt, .int 0, .int 0, .int 1]))] H := hP
  have hD : va_D A [(tp, .inr (8, [.ref i1, .ref i2, .int 0, .int 0, .int 0, .int 0, .int 0, .ref bt, .int 0, .int 0, .int 1]))] := hD
  refine lv_aload_n hx hb dX8_read_38 rfl (lv_at hl 0 rfl) ?_
  refine lv_aload_n hx hb dX8_read_39 rfl (lv_at hl 0 rfl) ?_
  refine lv_iconst (v := 1) hx hb dX8_read_40 (by decide) ?_
  refine lv_iconst (v := 4) hx hb dX8_read_41 (by decide) ?_
  refine lv_aload_n hx hb dX8_read_42 rfl (lv_at hl 0 rfl) ?_
  refine va_get (D := (dC, dI)) (ci := 8) (v := .int 0) (C := RX8) (T := TX8) (N := 11) hx hb hts inlX8 hown hK hP 0 rfl rfl 3 (by decide) (hts _ qw_231) (fun _ h9 => h9) rfl dX8_read_43 ?_
  refine lv_iconst (v := 2) hx hb dX8_read_46 (by decide) ?_
  refine lv_idiv hx hb dX8_read_47 (by decide) ?_
  refine kz_topi (y := 0) (by decide) ?_
  refine va_mmin hx hb (by rw [hml]; exact hl.1.symm) hown (hts _ qw_232) (hts _ qw_233) (hts _ qw_234) (hts _ qw_235) (Nat.le_of_ble_eq_true rfl) (Nat.le_of_ble_eq_true rfl) (Nat.le_of_ble_eq_true rfl) (Nat.le_of_ble_eq_true rfl) dX8_read_48 ?_
  refine kz_topi (y := 0) (by decide) ?_
  refine lv_iconst (v := 0) hx hb dX8_read_51 (by decide) ?_
  have hPc := hP.sub (ws' := [(tp, .inr (8, [.ref i1, .ref i2, .int 0, .int 0, .int 0, .int 0, .int 0, .ref bt, .int 0, .int 0, .int 1]))]) [0] rfl
  have hDc := hD.sub (ws' := [(tp, .inr (8, [.ref i1, .ref i2, .int 0, .int 0, .int 0, .int 0, .int 0, .ref bt, .int 0, .int 0, .int 1]))]) [0] (by decide) rfl
  have hKc := hK.sub (tys' := []) [] rfl
  have hFc := va_free (wc := [(tp, .inr (8, [.ref i1, .ref i2, .int 0, .int 0, .int 0, .int 0, .int 0, .ref bt, .int 0, .int 0, .int 1]))]) hD hS hA [0] rfl
  refine va_calli (va_runV (As := [.int 1, .int 0, .int 0]) (rest := [.ref tp]) ⟨hx, hb, hml, hown, hts⟩ (c_X8_readNumber l dC dI (tp) (i1) (i2) (bt) (0) (0) (0) (0) (1) (0) (0) H.size) (cwV 3 hts (kz_gV qw_306 qw_307 qw_308 qw_14 qw_309) rfl rfl rfl (by decide +kernel) ⟨Nat.le_of_ble_eq_true rfl, Nat.le_of_ble_eq_true rfl⟩) (⟨(kz_preS hPc hKc hDc).1, (va_recv hKc hPc (ci := 8) (q0 := 0) rfl rfl), (kz_preS hPc hKc hDc).2⟩) rfl rfl hl.1 rfl (lv_room (Nat.le_of_ble_eq_true rfl)) dX8_read_52 ⟨Nat.le_of_ble_eq_true rfl, Nat.le_of_ble_eq_true rfl⟩) hS (fun q _ h => hFc q h) hFc (fun r_5 u_6 t H1 locs ht hvm hw hB hz1 hk1 hS => ?_)
  try dsimp only at hw
  obtain ⟨hP1, hK1, hD1⟩ := hB
  rw [ht] at hP1
  have hK1 := va_K.moved hvm.symm hK1
  obtain ⟨hP, hD⟩ := va_join (wr := []) (w1 := [(tp, .inr (8, [.ref i1, .ref i2, .int 0, .int 0, .int 0, .int 0, .int 0, .ref bt, .int 0, .int 0, .int 1]))]) hP hD [0] [] rfl rfl (by decide) (by decide) hk1 hFc hP1 hD1
  have hK := (hK.sub (tys' := []) [] rfl).app hK1
  generalize H1 = H at hP hS ⊢
  have hP : va_P (dC, dI) vwCl [(tp, .inr (8, [.ref i1, .ref i2, .int 0, .int 0, .int 0, .int 0, .int 0, .ref bt, .int 0, .int 0, .int 1]))] H := hP
  have hD : va_D A [(tp, .inr (8, [.ref i1, .ref i2, .int 0, .int 0, .int 0, .int 0, .int 0, .ref bt, .int 0, .int 0, .int 1]))] := hD
  have hK : va_K (dC, dI) vwCl [] s := hK
  obtain rfl : r_5 = 0 := hw
  refine va_put (D := (dC, dI)) (ci := 8) (v := .int 0) (ty := .int) (C := RX8) (T := TX8) (N := 11) hx hb hts inlX8 tyX8 tyX8_ok nmX8 hown hK hP hD hS 0 rfl rfl 4 (by decide) (hts _ qw_236) (fun _ h9 => h9) rfl (by decide +kernel) rfl rfl (Nat.le_of_ble_eq_true rfl) dX8_read_55 (fun H locs hP hD hS => ?_)
  have hP : va_P (dC, dI) vwCl [(tp, .inr (8, [.ref i1, .ref i2, .int 0, .int 0, .int 0, .int 0, .int 0, .ref bt, .int 0, .int 0, .int 1]))] H := hP
  have hD : va_D A [(tp, .inr (8, [.ref i1, .ref i2, .int 0, .int 0, .int 0, .int 0, .int 0, .ref bt, .int 0, .int 0, .int 1]))] := hD
  refine lv_aload_n hx hb dX8_read_58 rfl (lv_at hl 0 rfl) ?_
  refine lv_aload_n hx hb dX8_read_59 rfl (lv_at hl 0 rfl) ?_
  refine lv_iconst (v := 1) hx hb dX8_read_60 (by decide) ?_
  refine lv_iconst (v := 3) hx hb dX8_read_61 (by decide) ?_
  refine lv_aload_n hx hb dX8_read_62 rfl (lv_at hl 0 rfl) ?_
  refine va_get (D := (dC, dI)) (ci := 8) (v := .int 0) (C := RX8) (T := TX8) (N := 11) hx hb hts inlX8 hown hK hP 0 rfl rfl 3 (by decide) (hts _ qw_231) (fun _ h9 => h9) rfl dX8_read_63 ?_
  refine lv_iconst (v := 1) hx hb dX8_read_66 (by decide) ?_
  refine lv_iadd hx hb dX8_read_67 ?_
  refine kz_topi (y := 1) (by decide) ?_
  refine lv_aload_n hx hb dX8_read_68 rfl (lv_at hl 0 rfl) ?_
  refine va_get (D := (dC, dI)) (ci := 8) (v := .int 0) (C := RX8) (T := TX8) (N := 11) hx hb hts inlX8 hown hK hP 0 rfl rfl 4 (by decide) (hts _ qw_236) (fun _ h9 => h9) rfl dX8_read_69 ?_
  refine lv_isub hx hb dX8_read_72 ?_
  refine kz_topi (y := 1) (by decide) ?_
  refine va_mmin hx hb (by rw [hml]; exact hl.1.symm) hown (hts _ qw_232) (hts _ qw_233) (hts _ qw_234) (hts _ qw_235) (Nat.le_of_ble_eq_true rfl) (Nat.le_of_ble_eq_true rfl) (Nat.le_of_ble_eq_true rfl) (Nat.le_of_ble_eq_true rfl) dX8_read_73 ?_
  refine kz_topi (y := 1) (by decide) ?_
  refine lv_iconst (v := 0) hx hb dX8_read_76 (by decide) ?_
  have hPc := hP.sub (ws' := [(tp, .inr (8, [.ref i1, .ref i2, .int 0, .int 0, .int 0, .int 0, .int 0, .ref bt, .int 0, .int 0, .int 1]))]) [0] rfl
  have hDc := hD.sub (ws' := [(tp, .inr (8, [.ref i1, .ref i2, .int 0, .int 0, .int 0, .int 0, .int 0, .ref bt, .int 0, .int 0, .int 1]))]) [0] (by decide) rfl
  have hKc := hK.sub (tys' := []) [] rfl
  have hFc := va_free (wc := [(tp, .inr (8, [.ref i1, .ref i2, .int 0, .int 0, .int 0, .int 0, .int 0, .ref bt, .int 0, .int 0, .int 1]))]) hD hS hA [0] rfl
  refine va_calli (va_runV (As := [.int 1, .int 1, .int 0]) (rest := [.ref tp]) ⟨hx, hb, hml, hown, hts⟩ (c_X8_readNumber l dC dI (tp) (i1) (i2) (bt) (0) (0) (0) (0) (1) (1) (0) H.size) (cwV 3 hts (kz_gV qw_306 qw_307 qw_308 qw_14 qw_309) rfl rfl rfl (by decide +kernel) ⟨Nat.le_of_ble_eq_true rfl, Nat.le_of_ble_eq_true rfl⟩) (⟨(kz_preS hPc hKc hDc).1, (va_recv hKc hPc (ci := 8) (q0 := 0) rfl rfl), (kz_preS hPc hKc hDc).2⟩) rfl rfl hl.1 rfl (lv_room (Nat.le_of_ble_eq_true rfl)) dX8_read_77 ⟨Nat.le_of_ble_eq_true rfl, Nat.le_of_ble_eq_true rfl⟩) hS (fun q _ h => hFc q h) hFc (fun r_7 u_8 t H1 locs ht hvm hw hB hz1 hk1 hS => ?_)
  try dsimp only at hw
  obtain ⟨hP1, hK1, hD1⟩ := hB
  rw [ht] at hP1
  have hK1 := va_K.moved hvm.symm hK1
  obtain ⟨hP, hD⟩ := va_join (wr := []) (w1 := [(tp, .inr (8, [.ref i1, .ref i2, .int 0, .int 0, .int 0, .int 0, .int 0, .ref bt, .int 0, .int 0, .int 1]))]) hP hD [0] [] rfl rfl (by decide) (by decide) hk1 hFc hP1 hD1
  have hK := (hK.sub (tys' := []) [] rfl).app hK1
  generalize H1 = H at hP hS ⊢
  have hP : va_P (dC, dI) vwCl [(tp, .inr (8, [.ref i1, .ref i2, .int 0, .int 0, .int 0, .int 0, .int 0, .ref bt, .int 0, .int 0, .int 1]))] H := hP
  have hD : va_D A [(tp, .inr (8, [.ref i1, .ref i2, .int 0, .int 0, .int 0, .int 0, .int 0, .ref bt, .int 0, .int 0, .int 1]))] := hD
  have hK : va_K (dC, dI) vwCl [] s := hK
  obtain rfl : r_7 = 0 := hw
  refine va_put (D := (dC, dI)) (ci := 8) (v := .int 0) (ty := .int) (C := RX8) (T := TX8) (N := 11) hx hb hts inlX8 tyX8 tyX8_ok nmX8 hown hK hP hD hS 0 rfl rfl 5 (by decide) (hts _ qw_237) (fun _ h9 => h9) rfl (by decide +kernel) rfl rfl (Nat.le_of_ble_eq_true rfl) dX8_read_80 (fun H locs hP hD hS => ?_)
  have hP : va_P (dC, dI) vwCl [(tp, .inr (8, [.ref i1, .ref i2, .int 0, .int 0, .int 0, .int 0, .int 0, .ref bt, .int 0, .int 0, .int 1]))] H := hP
  have hD : va_D A [(tp, .inr (8, [.ref i1, .ref i2, .int 0, .int 0, .int 0, .int 0, .int 0, .ref bt, .int 0, .int 0, .int 1]))] := hD
  refine lv_iconst (v := 0) hx hb dX8_read_83 (by decide) ?_
  refine lv_istore_n (lv' := [(1, .int 0), (0, .ref tp)]) hx hb dX8_read_84 rfl hl (by decide) rfl (fun ls hl => ?_)
  refine lv_iload_n hx hb dX8_read_85 rfl (lv_at hl 0 rfl) ?_
  refine lv_bipush (v := 20) hx hb dX8_read_86 (by decide) ?_
  refine lv_icmp_gt (tgt := 108) hx hb dX8_read_88 (by decide) (fun c9 => absurd c9 (by decide)) (fun _ => ?_)
  refine lv_aload_n hx hb dX8_read_91 rfl (lv_at hl 1 rfl) ?_
  have hPc := hP.sub (ws' := [(tp, .inr (8, [.ref i1, .ref i2, .int 0, .int 0, .int 0, .int 0, .int 0, .ref bt, .int 0, .int 0, .int 1]))]) [0] rfl
  have hDc := hD.sub (ws' := [(tp, .inr (8, [.ref i1, .ref i2, .int 0, .int 0, .int 0, .int 0, .int 0, .ref bt, .int 0, .int 0, .int 1]))]) [0] (by decide) rfl
  have hKc := hK.sub (tys' := []) [] rfl
  have hFc := va_free (wc := [(tp, .inr (8, [.ref i1, .ref i2, .int 0, .int 0, .int 0, .int 0, .int 0, .ref bt, .int 0, .int 0, .int 1]))]) hD hS hA [0] rfl
  refine va_calli (va_runV (As := []) (rest := []) ⟨hx, hb, hml, hown, hts⟩ (c_X8_goesOn l dC dI (tp) (i1) (i2) (bt) (0) (0) (0) (0) H.size) (cwV 0 hts (kz_gV qw_318 qw_319 qw_320 qw_14 qw_321) rfl rfl rfl (by decide +kernel) ⟨Nat.le_of_ble_eq_true rfl, Nat.le_of_ble_eq_true rfl⟩) (⟨(kz_preS hPc hKc hDc).1, (va_recv hKc hPc (ci := 8) (q0 := 0) rfl rfl), (kz_preS hPc hKc hDc).2⟩) rfl rfl hl.1 rfl (lv_room (Nat.le_of_ble_eq_true rfl)) dX8_read_92 ⟨Nat.le_of_ble_eq_true rfl, Nat.le_of_ble_eq_true rfl⟩) hS (fun q _ h => hFc q h) hFc (fun r_9 u_10 t H1 locs ht hvm hw hB hz1 hk1 hS => ?_)
  try dsimp only at hw
  obtain ⟨hP1, hK1, hD1⟩ := hB
  rw [ht] at hP1
  have hK1 := va_K.moved hvm.symm hK1
  obtain ⟨hP, hD⟩ := va_join (wr := []) (w1 := [(tp, .inr (8, [.ref i1, .ref i2, .int 0, .int 0, .int 0, .int 0, .int 0, .ref bt, .int 0, .int 0, .int 1]))]) hP hD [0] [] rfl rfl (by decide) (by decide) hk1 hFc hP1 hD1
  have hK := (hK.sub (tys' := []) [] rfl).app hK1
  generalize H1 = H at hP hS ⊢
  have hP : va_P (dC, dI) vwCl [(tp, .inr (8, [.ref i1, .ref i2, .int 0, .int 0, .int 0, .int 0, .int 0, .ref bt, .int 0, .int 0, .int 1]))] H := hP
  have hD : va_D A [(tp, .inr (8, [.ref i1, .ref i2, .int 0, .int 0, .int 0, .int 0, .int 0, .ref bt, .int 0, .int 0, .int 1]))] := hD
  have hK : va_K (dC, dI) vwCl [] s := hK
  obtain rfl : r_9 = 0 := hw
  refine lv_if_eq (tgt := 108) hx hb dX8_read_95 (by decide) (fun _ => ?_) (fun c9 => absurd (by decide) c9)
  refine lv_aload_n hx hb dX8_read_108 rfl (lv_at hl 1 rfl) ?_
  refine va_get (D := (dC, dI)) (ci := 8) (v := .int 1) (C := RX8) (T := TX8) (N := 11) hx hb hts inlX8 hown hK hP 0 rfl rfl 10 (by decide) (hts _ qw_229) (fun _ h9 => h9) rfl dX8_read_109 ?_
  have hP9 := hP.sub (ws' := [(tp, .inr (8, [.ref i1, .ref i2, .int 0, .int 0, .int 0, .int 0, .int 0, .ref bt, .int 0, .int 0, .int 1]))]) [0] rfl
  have hD9 := hD.sub (ws' := [(tp, .inr (8, [.ref i1, .ref i2, .int 0, .int 0, .int 0, .int 0, .int 0, .ref bt, .int 0, .int 0, .int 1]))]) [0] (by decide) rfl
  have hK9 := hK.sub (tys' := []) [] rfl
  exact W.iret (v := 1) hx hb hr (fun t ht hW => ⟨⟨1, (), rfl, rfl, ⟨by rw [ht]; exact hP9, va_K.moved hW.alike hK9, hD9⟩⟩, hS.F ht⟩) hS.2.2 dX8_read_112
set_option maxHeartbeats 4000000 in
set_option maxRecDepth 100000 in
theorem c_X11_file (l : Launch) (dC : Nat → ClassId) (dI : Nat → Nat → Nat) (x : Nat) (tp : Nat) (hi : Nat) (sh : Nat) (g3 : Nat) (g4 : Nat) (g5 : Nat) (g6 : Nat) (g7 : Nat) (g8 : Nat) (g9 : Nat) (i1 : Nat) (i2 : Nat) (bt : Nat) (sq : Nat) (sv : Nat) (sz : Nat) : Met l yX11_file (Cond.code yX11_file cX11_file 4 (some .int) :: wsU) ({ frames := 4, cells := 0, slots := 0, locals := 84 }) (va_Pc [.ref x] (fun U => kz_B (dC, dI) sz [(x, .inr (11, [.ref tp, .ref hi, .ref sh, .ref g3, .ref g4, .ref g5, .ref g6, .ref g7, .ref g8, .ref g9, .int 0, .int 0])), (tp, .inr (8, [.ref i1, .ref i2, .int 0, .int 0, .int 0, .int 0, .int 0, .ref bt, .int 0, .int 0, .int 0]))] [] U ∧ kz_St RX8 38 sq sv (va_A [(x, .inr (11, [.ref tp, .ref hi, .ref sh, .ref g3, .ref g4, .ref g5, .ref g6, .ref g7, .ref g8, .ref g9, .int 0, .int 0])), (tp, .inr (8, [.ref i1, .ref i2, .int 0, .int 0, .int 0, .int 0, .int 0, .ref bt, .int 0, .int 0, .int 0]))] sz) U)) (va_Qi (fun (r : Int32) (_ : Unit) => r = -3) (fun _ _ => True) (va_A [(x, .inr (11, [.ref tp, .ref hi, .ref sh, .ref g3, .ref g4, .ref g5, .ref g6, .ref g7, .ref g8, .ref g9, .int 0, .int 0])), (tp, .inr (8, [.ref i1, .ref i2, .int 0, .int 0, .int 0, .int 0, .int 0, .ref bt, .int 0, .int 0, .int 0]))] sz)) 0 0 (va_A [(x, .inr (11, [.ref tp, .ref hi, .ref sh, .ref g3, .ref g4, .ref g5, .ref g6, .ref g7, .ref g8, .ref g9, .int 0, .int 0])), (tp, .inr (8, [.ref i1, .ref i2, .int 0, .int 0, .int 0, .int 0, .int 0, .ref bt, .int 0, .int 0, .int 0]))] sz) := by
  refine Met.ofW (cc := cX11_file) (maxL := 4) (ret := (some .int)) (by decide) rfl ?_
  intro p e s m args below meth c s₁ B hml hv
  obtain ⟨rfl, ⟨hsz, hP, hK, hD0⟩, hAm⟩ := hv
  have hx := B.exec
  have hb := B.bytes
  have hr := B.returns
  have hts := atoms_spec (ws := (Cond.code yX11_file cX11_file 4 (some .int) :: wsU)) B.pre
  have hts : ∀ w ∈ wsU, w.before _ s = true := fun w h => hts w (List.mem_cons_of_mem _ h)
  have hown : s.vm.findClass RX11 = some m.cls := findClass_of_methodNamed B.named
  have hlocks := B.notSynchronized
  subst hsz
  have hD := hD0.self (sz := s.heap.size)
  generalize hAe : va_A [(x, .inr (11, [.ref tp, .ref hi, .ref sh, .ref g3, .ref g4, .ref g5, .ref g6, .ref g7, .ref g8, .ref g9, .int 0, .int 0])), (tp, .inr (8, [.ref i1, .ref i2, .int 0, .int 0, .int 0, .int 0, .int 0, .ref bt, .int 0, .int 0, .int 0]))] s.heap.size = A at hD hAm ⊢
  have hA : ∀ q : Nat, s.heap.size ≤ q → A q := fun q h => by rw [← hAe]; exact Or.inr h
  have hS : va_S A s.heap s.heap [] := va_S.rf
  have hP : va_P (dC, dI) vwCl [(x, .inr (11, [.ref tp, .ref hi, .ref sh, .ref g3, .ref g4, .ref g5, .ref g6, .ref g7, .ref g8, .ref g9, .int 0, .int 0])), (tp, .inr (8, [.ref i1, .ref i2, .int 0, .int 0, .int 0, .int 0, .int 0, .ref bt, .int 0, .int 0, .int 0]))] s.heap := hP
  have hl := lv_entry ([.ref x]) (n := 4) (Nat.le_of_ble_eq_true rfl)
  rw [lg_entry_eq]
  generalize (lg_sl ([.ref x]) ++ List.replicate (4 - (lg_sl ([.ref x])).length) Slot.unset).toArray = ls at hl ⊢
  have hl : lv_has ls 4 [(0, .ref x)] := hl
  refine lv_aload_n hx hb dX11_file_0 rfl (lv_at hl 0 rfl) ?_
  refine va_get (D := (dC, dI)) (ci := 11) (v := .ref tp) (C := RX11) (T := TX11) (N := 12) hx hb hts inlX11 hown hK hP 0 rfl rfl 0 (by decide) (hts _ qw_15) (fun _ h9 => h9) rfl dX11_file_1 ?_
  have hPc := hP.sub (ws' := [(tp, .inr (8, [.ref i1, .ref i2, .int 0, .int 0, .int 0, .int 0, .int 0, .ref bt, .int 0, .int 0, .int 0]))]) [1] rfl
  have hDc := hD.sub (ws' := [(tp, .inr (8, [.ref i1, .ref i2, .int 0, .int 0, .int 0, .int 0, .int 0, .ref bt, .int 0, .int 0, .int 0]))]) [1] (by decide) rfl
  have hKc := hK.sub (tys' := []) [] rfl
  have hFc := va_free (wc := [(tp, .inr (8, [.ref i1, .ref i2, .int 0, .int 0, .int 0, .int 0, .int 0, .ref bt, .int 0, .int 0, .int 0]))]) hD hS hA [1] rfl
  refine va_calli (va_runV (As := []) (rest := []) ⟨hx, hb, hml, hown, hts⟩ (c_X8_read l dC dI (tp) (i1) (i2) (bt) (sq) (sv) s.heap.size) (cwV 0 hts (kz_gV qw_223 qw_224 qw_225 qw_14 qw_226) rfl rfl rfl (by decide +kernel) ⟨Nat.le_of_ble_eq_true rfl, Nat.le_of_ble_eq_true rfl⟩) (⟨(kz_preU hPc hKc hDc hAm hS hFc).1, (va_recv hKc hPc (ci := 8) (q0 := 0) rfl rfl), (kz_preU hPc hKc hDc hAm hS hFc).2⟩) rfl rfl hl.1 rfl (lv_room (Nat.le_of_ble_eq_true rfl)) dX11_file_4 ⟨Nat.le_of_ble_eq_true rfl, Nat.le_of_ble_eq_true rfl⟩) hS (fun q _ h => hFc q h) hFc (fun r_1 u_2 t H1 locs ht hvm hw hB hz1 hk1 hS => ?_)
  try dsimp only at hw
  obtain ⟨hP1, hK1, hD1⟩ := hB
  rw [ht] at hP1
  have hK1 := va_K.moved hvm.symm hK1
  obtain ⟨hP, hD⟩ := va_join (wr := [(x, .inr (11, [.ref tp, .ref hi, .ref sh, .ref g3, .ref g4, .ref g5, .ref g6, .ref g7, .ref g8, .ref g9, .int 0, .int 0]))]) (w1 := [(tp, .inr (8, [.ref i1, .ref i2, .int 0, .int 0, .int 0, .int 0, .int 0, .ref bt, .int 0, .int 0, .int 1]))]) hP hD [1] [0] rfl rfl (by decide) (by decide) hk1 hFc hP1 hD1
  have hK := (hK.sub (tys' := []) [] rfl).app hK1
  generalize H1 = H at hP hS ⊢
  have hP : va_P (dC, dI) vwCl [(x, .inr (11, [.ref tp, .ref hi, .ref sh, .ref g3, .ref g4, .ref g5, .ref g6, .ref g7, .ref g8, .ref g9, .int 0, .int 0])), (tp, .inr (8, [.ref i1, .ref i2, .int 0, .int 0, .int 0, .int 0, .int 0, .ref bt, .int 0, .int 0, .int 1]))] H := hP
  have hD : va_D A [(x, .inr (11, [.ref tp, .ref hi, .ref sh, .ref g3, .ref g4, .ref g5, .ref g6, .ref g7, .ref g8, .ref g9, .int 0, .int 0])), (tp, .inr (8, [.ref i1, .ref i2, .int 0, .int 0, .int 0, .int 0, .int 0, .ref bt, .int 0, .int 0, .int 1]))] := hD
  have hK : va_K (dC, dI) vwCl [] s := hK
  obtain rfl : r_1 = 1 := hw
  refine lv_istore_n (lv' := [(1, .int 1), (0, .ref x)]) hx hb dX11_file_7 rfl hl (by decide) rfl (fun ls hl => ?_)
  refine lv_aload_n hx hb dX11_file_8 rfl (lv_at hl 1 rfl) ?_
  refine va_get (D := (dC, dI)) (ci := 11) (v := .ref tp) (C := RX11) (T := TX11) (N := 12) hx hb hts inlX11 hown hK hP 0 rfl rfl 0 (by decide) (hts _ qw_15) (fun _ h9 => h9) rfl dX11_file_9 ?_
  refine lv_iconst (v := 0) hx hb dX11_file_12 (by decide) ?_
  refine va_put (D := (dC, dI)) (ci := 8) (v := .int 0) (ty := .int) (C := RX8) (T := TX8) (N := 11) hx hb hts inlX8 tyX8 tyX8_ok nmX8 hown hK hP hD hS 1 rfl rfl 2 (by decide) (hts _ qw_186) (fun _ h9 => h9) rfl (by decide +kernel) rfl rfl (Nat.le_of_ble_eq_true rfl) dX11_file_13 (fun H locs hP hD hS => ?_)
  have hP : va_P (dC, dI) vwCl [(x, .inr (11, [.ref tp, .ref hi, .ref sh, .ref g3, .ref g4, .ref g5, .ref g6, .ref g7, .ref g8, .ref g9, .int 0, .int 0])), (tp, .inr (8, [.ref i1, .ref i2, .int 0, .int 0, .int 0, .int 0, .int 0, .ref bt, .int 0, .int 0, .int 1]))] H := hP
  have hD : va_D A [(x, .inr (11, [.ref tp, .ref hi, .ref sh, .ref g3, .ref g4, .ref g5, .ref g6, .ref g7, .ref g8, .ref g9, .int 0, .int 0])), (tp, .inr (8, [.ref i1, .ref i2, .int 0, .int 0, .int 0, .int 0, .int 0, .ref bt, .int 0, .int 0, .int 1]))] := hD
  refine lv_iload_n hx hb dX11_file_16 rfl (lv_at hl 0 rfl) ?_
  refine lv_if_eq (tgt := 25) hx hb dX11_file_17 (by decide) (fun c9 => absurd c9 (by decide)) (fun _ => ?_)
  refine lv_bipush (v := (-2)) hx hb dX11_file_20 (by decide) ?_
  refine lv_iload_n hx hb dX11_file_22 rfl (lv_at hl 0 rfl) ?_
  refine lv_isub hx hb dX11_file_23 ?_
  refine kz_topi (y := (-3)) (by decide) ?_
  exact W.iret (v := (-3)) hx hb hr (fun t ht hW => ⟨⟨(-3), (), rfl, rfl, trivial⟩, hS.F ht⟩) hS.2.2 dX11_file_24
set_option maxHeartbeats 4000000 in
set_option maxRecDepth 100000 in
theorem c_X12_isRight_y (l : Launch) (dC : Nat → ClassId) (dI : Nat → Nat → Nat) (z : Nat) (tm : Nat) (a9 : Nat) (nw : Nat) (a11 : Nat) (a12 : Nat) (a16 : Nat) (a17 : Nat) (a18 : Nat) (a19 : Nat) (a20 : Nat) (a21 : Nat) (a22 : Nat) (a23 : Nat) (a24 : Nat) (a25 : Nat) (a26 : Nat) (a28 : Nat) (a29 : Nat) (a30 : Nat) (a31 : Nat) (a32 : Nat) (a33 : Nat) (a35 : Nat) (a36 : Nat) (sz : Nat) : Met l yX12_isRight (Cond.code yX12_isRight cX12_isRight 1 (some .boolean) :: wsU) ({ frames := 0, cells := 0, slots := 0, locals := 0 }) (va_Pc [.ref z] (kz_B (dC, dI) sz [(z, .inr (12, [.ref tm, .int 0, .int 0, .int (-1), .int 0, .int 0, .int 0, .int 0, .int 0, .ref a9, .ref nw, .ref a11, .ref a12, .int 0, .int 0, .int 0, .ref a16, .ref a17, .ref a18, .ref a19, .ref a20, .ref a21, .ref a22, .ref a23, .ref a24, .ref a25, .ref a26, .int 0, .ref a28, .ref a29, .ref a30, .ref a31, .ref a32, .ref a33, .int 0, .ref a35, .ref a36]))] [])) (va_Qi (fun (r : Int32) (_ : Unit) => r = 1) (fun (_ : Unit) t => kz_E (dC, dI) (va_A [(z, .inr (12, [.ref tm, .int 0, .int 0, .int (-1), .int 0, .int 0, .int 0, .int 0, .int 0, .ref a9, .ref nw, .ref a11, .ref a12, .int 0, .int 0, .int 0, .ref a16, .ref a17, .ref a18, .ref a19, .ref a20, .ref a21, .ref a22, .ref a23, .ref a24, .ref a25, .ref a26, .int 0, .ref a28, .ref a29, .ref a30, .ref a31, .ref a32, .ref a33, .int 0, .ref a35, .ref a36]))] sz) [(z, .inr (12, [.ref tm, .int 0, .int 0, .int (-1), .int 0, .int 0, .int 0, .int 0, .int 0, .ref a9, .ref nw, .ref a11, .ref a12, .int 0, .int 0, .int 0, .ref a16, .ref a17, .ref a18, .ref a19, .ref a20, .ref a21, .ref a22, .ref a23, .ref a24, .ref a25, .ref a26, .int 0, .ref a28, .ref a29, .ref a30, .ref a31, .ref a32, .ref a33, .int 0, .ref a35, .ref a36]))] [] t) (va_A [(z, .inr (12, [.ref tm, .int 0, .int 0, .int (-1), .int 0, .int 0, .int 0, .int 0, .int 0, .ref a9, .ref nw, .ref a11, .ref a12, .int 0, .int 0, .int 0, .ref a16, .ref a17, .ref a18, .ref a19, .ref a20, .ref a21, .ref a22, .ref a23, .ref a24, .ref a25, .ref a26, .int 0, .ref a28, .ref a29, .ref a30, .ref a31, .ref a32, .ref a33, .int 0, .ref a35, .ref a36]))] sz)) 0 0 (va_A [(z, .inr (12, [.ref tm, .int 0, .int 0, .int (-1), .int 0, .int 0, .int 0, .int 0, .int 0, .ref a9, .ref nw, .ref a11, .ref a12, .int 0, .int 0, .int 0, .ref a16, .ref a17, .ref a18, .ref a19, .ref a20, .ref a21, .ref a22, .ref a23, .ref a24, .ref a25, .ref a26, .int 0, .ref a28, .ref a29, .ref a30, .ref a31, .ref a32, .ref a33, .int 0, .ref a35, .ref a36]))] sz) := by
  refine Met.ofW (cc := cX12_isRight) (maxL := 1) (ret := (some .boolean)) (by decide) rfl ?_
  intro p e s m args below meth c s₁ B hml hv
  obtain ⟨rfl, hsz, hP, hK, hD0⟩ := hv
  have hx := B.exec
  have hb := B.bytes
  have hr := B.returns
  have hts := atoms_spec (ws := (Cond.code yX12_isRight cX12_isRight 1 (some .boolean) :: wsU)) B.pre
  have hts : ∀ w ∈ wsU, w.before _ s = true := fun w h => hts w (List.mem_cons_of_mem _ h)
  have hown : s.vm.findClass RX12 = some m.cls := findClass_of_methodNamed B.named
  have hlocks := B.notSynchronized
  subst hsz
  have hD := hD0.self (sz := s.heap.size)
  generalize hAe : va_A [(z, .inr (12, [.ref tm, .int 0, .int 0, .int (-1), .int 0, .int 0, .int 0, .int 0, .int 0, .ref a9, .ref nw, .ref a11, .ref a12, .int 0, .int 0, .int 0, .ref a16, .ref a17, .ref a18, .ref a19, .ref a20, .ref a21, .ref a22, .ref a23, .ref a24, .ref a25, .ref a26, .int 0, .ref a28, .ref a29, .ref a30, .ref a31, .ref a32, .ref a33, .int 0, .ref a35, .ref a36]))] s.heap.size = A at hD ⊢
  have hA : ∀ q : Nat, s.heap.size ≤ q → A q := fun q h => by rw [← hAe]; exact Or.inr h
  have hS : va_S A s.heap s.heap [] := va_S.rf
  have hP : va_P (dC, dI) vwCl [(z, .inr (12, [.ref tm, .int 0, .int 0, .int (-1), .int 0, .int 0, .int 0, .int 0, .int 0, .ref a9, .ref nw, .ref a11, .ref a12, .int 0, .int 0, .int 0, .ref a16, .ref a17, .ref a18, .ref a19, .ref a20, .ref a21, .ref a22, .ref a23, .ref a24, .ref a25, .ref a26, .int 0, .ref a28, .ref a29, .ref a30, .ref a31, .ref a32, .ref a33, .int 0, .ref a35, .ref a36]))] s.heap := hP
  have hl := lv_entry ([.ref z]) (n := 1) (Nat.le_of_ble_eq_true rfl)
  rw [lg_entry_eq]
  generalize (lg_sl ([.ref z]) ++ List.replicate (1 - (lg_sl ([.ref z])).length) Slot.unset).toArray = ls at hl ⊢
  have hl : lv_has ls 1 [(0, .ref z)] := hl
  refine lv_aload_n hx hb dX12_isRight_0 rfl (lv_at hl 0 rfl) ?_
  refine va_get (D := (dC, dI)) (ci := 12) (v := .int (-1)) (C := RX12) (T := TX12) (N := 37) hx hb hts inlX12 hown hK hP 0 rfl rfl 3 (by decide) (hts _ qw_598) (fun _ h9 => h9) rfl dX12_isRight_1 ?_
  refine lv_iconst (v := (-1)) hx hb dX12_isRight_4 (by decide) ?_
  refine lv_icmp_ne (tgt := 12) hx hb dX12_isRight_5 (by decide) (fun c9 => absurd c9 (by decide)) (fun _ => ?_)
  refine lv_iconst (v := 1) hx hb dX12_isRight_8 (by decide) ?_
  refine lv_goto (tgt := 13) hx hb dX12_isRight_9 (by decide) ?_
  have hP9 := hP.sub (ws' := [(z, .inr (12, [.ref tm, .int 0, .int 0, .int (-1), .int 0, .int 0, .int 0, .int 0, .int 0, .ref a9, .ref nw, .ref a11, .ref a12, .int 0, .int 0, .int 0, .ref a16, .ref a17, .ref a18, .ref a19, .ref a20, .ref a21, .ref a22, .ref a23, .ref a24, .ref a25, .ref a26, .int 0, .ref a28, .ref a29, .ref a30, .ref a31, .ref a32, .ref a33, .int 0, .ref a35, .ref a36]))]) [0] rfl
  have hD9 := hD.sub (ws' := [(z, .inr (12, [.ref tm, .int 0, .int 0, .int (-1), .int 0, .int 0, .int 0, .int 0, .int 0, .ref a9, .ref nw, .ref a11, .ref a12, .int 0, .int 0, .int 0, .ref a16, .ref a17, .ref a18, .ref a19, .ref a20, .ref a21, .ref a22, .ref a23, .ref a24, .ref a25, .ref a26, .int 0, .ref a28, .ref a29, .ref a30, .ref a31, .ref a32, .ref a33, .int 0, .ref a35, .ref a36]))]) [0] (by decide) rfl
  have hK9 := hK.sub (tys' := []) [] rfl
  exact W.zret (v := 1) hx hb hr rfl (fun t ht hW => ⟨⟨1, (), rfl, rfl, ⟨by rw [ht]; exact hP9, va_K.moved hW.alike hK9, hD9⟩⟩, hS.F ht⟩) hS.2.2 dX12_isRight_13
set_option maxHeartbeats 4000000 in
set_option maxRecDepth 100000 in
theorem c_X12_isRight_n (l : Launch) (dC : Nat → ClassId) (dI : Nat → Nat → Nat) (z : Nat) (tm : Nat) (a9 : Nat) (nw : Nat) (a11 : Nat) (a12 : Nat) (a16 : Nat) (a17 : Nat) (a18 : Nat) (a19 : Nat) (a20 : Nat) (a21 : Nat) (a22 : Nat) (a23 : Nat) (a24 : Nat) (a25 : Nat) (a26 : Nat) (a28 : Nat) (a29 : Nat) (a30 : Nat) (a31 : Nat) (a32 : Nat) (a33 : Nat) (a35 : Nat) (a36 : Nat) (sz : Nat) : Met l yX12_isRight (Cond.code yX12_isRight cX12_isRight 1 (some .boolean) :: wsU) ({ frames := 0, cells := 0, slots := 0, locals := 0 }) (va_Pc [.ref z] (kz_B (dC, dI) sz [(z, .inr (12, [.ref tm, .int 0, .int 0, .int 1, .int 0, .int 0, .int 0, .int 0, .int 0, .ref a9, .ref nw, .ref a11, .ref a12, .int 0, .int 0, .int 0, .ref a16, .ref a17, .ref a18, .ref a19, .ref a20, .ref a21, .ref a22, .ref a23, .ref a24, .ref a25, .ref a26, .int 0, .ref a28, .ref a29, .ref a30, .ref a31, .ref a32, .ref a33, .int 0, .ref a35, .ref a36]))] [])) (va_Qi (fun (r : Int32) (_ : Unit) => r = 0) (fun (_ : Unit) t => kz_E (dC, dI) (va_A [(z, .inr (12, [.ref tm, .int 0, .int 0, .int 1, .int 0, .int 0, .int 0, .int 0, .int 0, .ref a9, .ref nw, .ref a11, .ref a12, .int 0, .int 0, .int 0, .ref a16, .ref a17, .ref a18, .ref a19, .ref a20, .ref a21, .ref a22, .ref a23, .ref a24, .ref a25, .ref a26, .int 0, .ref a28, .ref a29, .ref a30, .ref a31, .ref a32, .ref a33, .int 0, .ref a35, .ref a36]))] sz) [(z, .inr (12, [.ref tm, .int 0, .int 0, .int 1, .int 0, .int 0, .int 0, .int 0, .int 0, .ref a9, .ref nw, .ref a11, .ref a12, .int 0, .int 0, .int 0, .ref a16, .ref a17, .ref a18, .ref a19, .ref a20, .ref a21, .ref a22, .ref a23, .ref a24, .ref a25, .ref a26, .int 0, .ref a28, .ref a29, .ref a30, .ref a31, .ref a32, .ref a33, .int 0, .ref a35, .ref a36]))] [] t) (va_A [(z, .inr (12, [.ref tm, .int 0, .int 0, .int 1, .int 0, .int 0, .int 0, .int 0, .int 0, .ref a9, .ref nw, .ref a11, .ref a12, .int 0, .int 0, .int 0, .ref a16, .ref a17, .ref a18, .ref a19, .ref a20, .ref a21, .ref a22, .ref a23, .ref a24, .ref a25, .ref a26, .int 0, .ref a28, .ref a29, .ref a30, .ref a31, .ref a32, .ref a33, .int 0, .ref a35, .ref a36]))] sz)) 0 0 (va_A [(z, .inr (12, [.ref tm, .int 0, .int 0, .int 1, .int 0, .int 0, .int 0, .int 0, .int 0, .ref a9, .ref nw, .ref a11, .ref a12, .int 0, .int 0, .int 0, .ref a16, .ref a17, .ref a18, .ref a19, .ref a20, .ref a21, .ref a22, .ref a23, .ref a24, .ref a25, .ref a26, .int 0, .ref a28, .ref a29, .ref a30, .ref a31, .ref a32, .ref a33, .int 0, .ref a35, .ref a36]))] sz) := by
  refine Met.ofW (cc := cX12_isRight) (maxL := 1) (ret := (some .boolean)) (by decide) rfl ?_
  intro p e s m args below meth c s₁ B hml hv
  obtain ⟨rfl, hsz, hP, hK, hD0⟩ := hv
  have hx := B.exec
  have hb := B.bytes
  have hr := B.returns
  have hts := atoms_spec (ws := (Cond.code yX12_isRight cX12_isRight 1 (some .boolean) :: wsU)) B.pre
  have hts : ∀ w ∈ wsU, w.before _ s = true := fun w h => hts w (List.mem_cons_of_mem _ h)
  have hown : s.vm.findClass RX12 = some m.cls := findClass_of_methodNamed B.named
  have hlocks := B.notSynchronized
  subst hsz
  have hD := hD0.self (sz := s.heap.size)
  generalize hAe : va_A [(z, .inr (12, [.ref tm, .int 0, .int 0, .int 1, .int 0, .int 0, .int 0, .int 0, .int 0, .ref a9, .ref nw, .ref a11, .ref a12, .int 0, .int 0, .int 0, .ref a16, .ref a17, .ref a18, .ref a19, .ref a20, .ref a21, .ref a22, .ref a23, .ref a24, .ref a25, .ref a26, .int 0, .ref a28, .ref a29, .ref a30, .ref a31, .ref a32, .ref a33, .int 0, .ref a35, .ref a36]))] s.heap.size = A at hD ⊢
  have hA : ∀ q : Nat, s.heap.size ≤ q → A q := fun q h => by rw [← hAe]; exact Or.inr h
  have hS : va_S A s.heap s.heap [] := va_S.rf
  have hP : va_P (dC, dI) vwCl [(z, .inr (12, [.ref tm, .int 0, .int 0, .int 1, .int 0, .int 0, .int 0, .int 0, .int 0, .ref a9, .ref nw, .ref a11, .ref a12, .int 0, .int 0, .int 0, .ref a16, .ref a17, .ref a18, .ref a19, .ref a20, .ref a21, .ref a22, .ref a23, .ref a24, .ref a25, .ref a26, .int 0, .ref a28, .ref a29, .ref a30, .ref a31, .ref a32, .ref a33, .int 0, .ref a35, .ref a36]))] s.heap := hP
  have hl := lv_entry ([.ref z]) (n := 1) (Nat.le_of_ble_eq_true rfl)
  rw [lg_entry_eq]
  generalize (lg_sl ([.ref z]) ++ List.replicate (1 - (lg_sl ([.ref z])).length) Slot.unset).toArray = ls at hl ⊢
  have hl : lv_has ls 1 [(0, .ref z)] := hl
  refine lv_aload_n hx hb dX12_isRight_0 rfl (lv_at hl 0 rfl) ?_
  refine va_get (D := (dC, dI)) (ci := 12) (v := .int 1) (C := RX12) (T := TX12) (N := 37) hx hb hts inlX12 hown hK hP 0 rfl rfl 3 (by decide) (hts _ qw_598) (fun _ h9 => h9) rfl dX12_isRight_1 ?_
  refine lv_iconst (v := (-1)) hx hb dX12_isRight_4 (by decide) ?_
  refine lv_icmp_ne (tgt := 12) hx hb dX12_isRight_5 (by decide) (fun _ => ?_) (fun c9 => absurd c9 (by decide))
  refine lv_iconst (v := 0) hx hb dX12_isRight_12 (by decide) ?_
  have hP9 := hP.sub (ws' := [(z, .inr (12, [.ref tm, .int 0, .int 0, .int 1, .int 0, .int 0, .int 0, .int 0, .int 0, .ref a9, .ref nw, .ref a11, .ref a12, .int 0, .int 0, .int 0, .ref a16, .ref a17, .ref a18, .ref a19, .ref a20, .ref a21, .ref a22, .ref a23, .ref a24, .ref a25, .ref a26, .int 0, .ref a28, .ref a29, .ref a30, .ref a31, .ref a32, .ref a33, .int 0, .ref a35, .ref a36]))]) [0] rfl
  have hD9 := hD.sub (ws' := [(z, .inr (12, [.ref tm, .int 0, .int 0, .int 1, .int 0, .int 0, .int 0, .int 0, .int 0, .ref a9, .ref nw, .ref a11, .ref a12, .int 0, .int 0, .int 0, .ref a16, .ref a17, .ref a18, .ref a19, .ref a20, .ref a21, .ref a22, .ref a23, .ref a24, .ref a25, .ref a26, .int 0, .ref a28, .ref a29, .ref a30, .ref a31, .ref a32, .ref a33, .int 0, .ref a35, .ref a36]))]) [0] (by decide) rfl
  have hK9 := hK.sub (tys' := []) [] rfl
  exact W.zret (v := 0) hx hb hr rfl (fun t ht hW => ⟨⟨0, (), rfl, rfl, ⟨by rw [ht]; exact hP9, va_K.moved hW.alike hK9, hD9⟩⟩, hS.F ht⟩) hS.2.2 dX12_isRight_13
set_option maxHeartbeats 4000000 in
set_option maxRecDepth 100000 in
theorem c_X12_sign (l : Launch) (dC : Nat → ClassId) (dI : Nat → Nat → Nat) (z : Nat) (tm : Nat) (a9 : Nat) (nw : Nat) (a11 : Nat) (a12 : Nat) (a16 : Nat) (a17 : Nat) (a18 : Nat) (a19 : Nat) (a20 : Nat) (a21 : Nat) (a22 : Nat) (a23 : Nat) (a24 : Nat) (a25 : Nat) (a26 : Nat) (a28 : Nat) (a29 : Nat) (a30 : Nat) (a31 : Nat) (a32 : Nat) (a33 : Nat) (a35 : Nat) (a36 : Nat) (ft : Int32) (sz : Nat) : Met l yX12_sign (Cond.code yX12_sign cX12_sign 1 (some .int) :: wsU) ({ frames := 0, cells := 0, slots := 0, locals := 0 }) (va_Pc [.ref z] (kz_B (dC, dI) sz [(z, .inr (12, [.ref tm, .int 0, .int 0, .int ft, .int 0, .int 0, .int 0, .int 0, .int 0, .ref a9, .ref nw, .ref a11, .ref a12, .int 0, .int 0, .int 0, .ref a16, .ref a17, .ref a18, .ref a19, .ref a20, .ref a21, .ref a22, .ref a23, .ref a24, .ref a25, .ref a26, .int 0, .ref a28, .ref a29, .ref a30, .ref a31, .ref a32, .ref a33, .int 0, .ref a35, .ref a36]))] [])) (va_Qi (fun (r : Int32) (_ : Unit) => r = (-1)) (fun (_ : Unit) t => kz_E (dC, dI) (va_A [(z, .inr (12, [.ref tm, .int 0, .int 0, .int ft, .int 0, .int 0, .int 0, .int 0, .int 0, .ref a9, .ref nw, .ref a11, .ref a12, .int 0, .int 0, .int 0, .ref a16, .ref a17, .ref a18, .ref a19, .ref a20, .ref a21, .ref a22, .ref a23, .ref a24, .ref a25, .ref a26, .int 0, .ref a28, .ref a29, .ref a30, .ref a31, .ref a32, .ref a33, .int 0, .ref a35, .ref a36]))] sz) [(z, .inr (12, [.ref tm, .int 0, .int 0, .int ft, .int 0, .int 0, .int 0, .int 0, .int 0, .ref a9, .ref nw, .ref a11, .ref a12, .int 0, .int 0, .int 0, .ref a16, .ref a17, .ref a18, .ref a19, .ref a20, .ref a21, .ref a22, .ref a23, .ref a24, .ref a25, .ref a26, .int 0, .ref a28, .ref a29, .ref a30, .ref a31, .ref a32, .ref a33, .int 0, .ref a35, .ref a36]))] [] t) (va_A [(z, .inr (12, [.ref tm, .int 0, .int 0, .int ft, .int 0, .int 0, .int 0, .int 0, .int 0, .ref a9, .ref nw, .ref a11, .ref a12, .int 0, .int 0, .int 0, .ref a16, .ref a17, .ref a18, .ref a19, .ref a20, .ref a21, .ref a22, .ref a23, .ref a24, .ref a25, .ref a26, .int 0, .ref a28, .ref a29, .ref a30, .ref a31, .ref a32, .ref a33, .int 0, .ref a35, .ref a36]))] sz)) 0 0 (va_A [(z, .inr (12, [.ref tm, .int 0, .int 0, .int ft, .int 0, .int 0, .int 0, .int 0, .int 0, .ref a9, .ref nw, .ref a11, .ref a12, .int 0, .int 0, .int 0, .ref a16, .ref a17, .ref a18, .ref a19, .ref a20, .ref a21, .ref a22, .ref a23, .ref a24, .ref a25, .ref a26, .int 0, .ref a28, .ref a29, .ref a30, .ref a31, .ref a32, .ref a33, .int 0, .ref a35, .ref a36]))] sz) := by
  refine Met.ofW (cc := cX12_sign) (maxL := 1) (ret := (some .int)) (by decide) rfl ?_
  intro p e s m args below meth c s₁ B hml hv
  obtain ⟨rfl, hsz, hP, hK, hD0⟩ := hv
  have hx := B.exec
  have hb := B.bytes
  have hr := B.returns
  have hts := atoms_spec (ws := (Cond.code yX12_sign cX12_sign 1 (some .int) :: wsU)) B.pre
  have hts : ∀ w ∈ wsU, w.before _ s = true := fun w h => hts w (List.mem_cons_of_mem _ h)
  have hown : s.vm.findClass RX12 = some m.cls := findClass_of_methodNamed B.named
  have hlocks := B.notSynchronized
  subst hsz
  have hD := hD0.self (sz := s.heap.size)
  generalize hAe : va_A [(z, .inr (12, [.ref tm, .int 0, .int 0, .int ft, .int 0, .int 0, .int 0, .int 0, .int 0, .ref a9, .ref nw, .ref a11, .ref a12, .int 0, .int 0, .int 0, .ref a16, .ref a17, .ref a18, .ref a19, .ref a20, .ref a21, .ref a22, .ref a23, .ref a24, .ref a25, .ref a26, .int 0, .ref a28, .ref a29, .ref a30, .ref a31, .ref a32, .ref a33, .int 0, .ref a35, .ref a36]))] s.heap.size = A at hD ⊢
  have hA : ∀ q : Nat, s.heap.size ≤ q → A q := fun q h => by rw [← hAe]; exact Or.inr h
  have hS : va_S A s.heap s.heap [] := va_S.rf
  have hP : va_P (dC, dI) vwCl [(z, .inr (12, [.ref tm, .int 0, .int 0, .int ft, .int 0, .int 0, .int 0, .int 0, .int 0, .ref a9, .ref nw, .ref a11, .ref a12, .int 0, .int 0, .int 0, .ref a16, .ref a17, .ref a18, .ref a19, .ref a20, .ref a21, .ref a22, .ref a23, .ref a24, .ref a25, .ref a26, .int 0, .ref a28, .ref a29, .ref a30, .ref a31, .ref a32, .ref a33, .int 0, .ref a35, .ref a36]))] s.heap := hP
  have hl := lv_entry ([.ref z]) (n := 1) (Nat.le_of_ble_eq_true rfl)
  rw [lg_entry_eq]
  generalize (lg_sl ([.ref z]) ++ List.replicate (1 - (lg_sl ([.ref z])).length) Slot.unset).toArray = ls at hl ⊢
  have hl : lv_has ls 1 [(0, .ref z)] := hl
  refine lv_aload_n hx hb dX12_sign_0 rfl (lv_at hl 0 rfl) ?_
  refine va_get (D := (dC, dI)) (ci := 12) (v := .int 0) (C := RX12) (T := TX12) (N := 37) hx hb hts inlX12 hown hK hP 0 rfl rfl 2 (by decide) (hts _ qw_597) (fun _ h9 => h9) rfl dX12_sign_1 ?_
  refine lv_aload_n hx hb dX12_sign_4 rfl (lv_at hl 0 rfl) ?_
  refine va_get (D := (dC, dI)) (ci := 12) (v := .int 0) (C := RX12) (T := TX12) (N := 37) hx hb hts inlX12 hown hK hP 0 rfl rfl 1 (by decide) (hts _ qw_199) (fun _ h9 => h9) rfl dX12_sign_5 ?_
  refine lv_icmp_ge (tgt := 27) hx hb dX12_sign_8 (by decide) (fun _ => ?_) (fun c9 => absurd (by decide) c9)
  refine lv_iconst (v := (-1)) hx hb dX12_sign_27 (by decide) ?_
  have hP9 := hP.sub (ws' := [(z, .inr (12, [.ref tm, .int 0, .int 0, .int ft, .int 0, .int 0, .int 0, .int 0, .int 0, .ref a9, .ref nw, .ref a11, .ref a12, .int 0, .int 0, .int 0, .ref a16, .ref a17, .ref a18, .ref a19, .ref a20, .ref a21, .ref a22, .ref a23, .ref a24, .ref a25, .ref a26, .int 0, .ref a28, .ref a29, .ref a30, .ref a31, .ref a32, .ref a33, .int 0, .ref a35, .ref a36]))]) [0] rfl
  have hD9 := hD.sub (ws' := [(z, .inr (12, [.ref tm, .int 0, .int 0, .int ft, .int 0, .int 0, .int 0, .int 0, .int 0, .ref a9, .ref nw, .ref a11, .ref a12, .int 0, .int 0, .int 0, .ref a16, .ref a17, .ref a18, .ref a19, .ref a20, .ref a21, .ref a22, .ref a23, .ref a24, .ref a25, .ref a26, .int 0, .ref a28, .ref a29, .ref a30, .ref a31, .ref a32, .ref a33, .int 0, .ref a35, .ref a36]))]) [0] (by decide) rfl
  have hK9 := hK.sub (tys' := []) [] rfl
  exact W.iret (v := (-1)) hx hb hr (fun t ht hW => ⟨⟨(-1), (), rfl, rfl, ⟨by rw [ht]; exact hP9, va_K.moved hW.alike hK9, hD9⟩⟩, hS.F ht⟩) hS.2.2 dX12_sign_28
set_option maxHeartbeats 4000000 in
set_option maxRecDepth 100000 in
theorem c_X12_next (l : Launch) (dC : Nat → ClassId) (dI : Nat → Nat → Nat) (z : Nat) (tm : Nat) (a9 : Nat) (nw : Nat) (a11 : Nat) (a12 : Nat) (a16 : Nat) (a17 : Nat) (a18 : Nat) (a19 : Nat) (a20 : Nat) (a21 : Nat) (a22 : Nat) (a23 : Nat) (a24 : Nat) (a25 : Nat) (a26 : Nat) (a28 : Nat) (a29 : Nat) (a30 : Nat) (a31 : Nat) (a32 : Nat) (a33 : Nat) (a35 : Nat) (a36 : Nat) (ft : Int32) (sz : Nat) : Met l yX12_next (Cond.code yX12_next cX12_next 1 (some .int) :: wsU) ({ frames := 1, cells := 0, slots := 0, locals := 20 }) (va_Pc [.ref z] (kz_B (dC, dI) sz [(z, .inr (12, [.ref tm, .int 0, .int 0, .int ft, .int 0, .int 0, .int 0, .int 0, .int 0, .ref a9, .ref nw, .ref a11, .ref a12, .int 0, .int 0, .int 0, .ref a16, .ref a17, .ref a18, .ref a19, .ref a20, .ref a21, .ref a22, .ref a23, .ref a24, .ref a25, .ref a26, .int 0, .ref a28, .ref a29, .ref a30, .ref a31, .ref a32, .ref a33, .int 0, .ref a35, .ref a36]))] [])) (va_Qi (fun (r : Int32) (_ : Unit) => r = (-1)) (fun (_ : Unit) t => kz_E (dC, dI) (va_A [(z, .inr (12, [.ref tm, .int 0, .int 0, .int ft, .int 0, .int 0, .int 0, .int 0, .int 0, .ref a9, .ref nw, .ref a11, .ref a12, .int 0, .int 0, .int 0, .ref a16, .ref a17, .ref a18, .ref a19, .ref a20, .ref a21, .ref a22, .ref a23, .ref a24, .ref a25, .ref a26, .int 0, .ref a28, .ref a29, .ref a30, .ref a31, .ref a32, .ref a33, .int 0, .ref a35, .ref a36]))] sz) [(z, .inr (12, [.ref tm, .int 0, .int 0, .int ft, .int 0, .int 0, .int 0, .int 0, .int 0, .ref a9, .ref nw, .ref a11, .ref a12, .int 0, .int 0, .int 0, .ref a16, .ref a17, .ref a18, .ref a19, .ref a20, .ref a21, .ref a22, .ref a23, .ref a24, .ref a25, .ref a26, .int 0, .ref a28, .ref a29, .ref a30, .ref a31, .ref a32, .ref a33, .int 0, .ref a35, .ref a36]))] [] t) (va_A [(z, .inr (12, [.ref tm, .int 0, .int 0, .int ft, .int 0, .int 0, .int 0, .int 0, .int 0, .ref a9, .ref nw, .ref a11, .ref a12, .int 0, .int 0, .int 0, .ref a16, .ref a17, .ref a18, .ref a19, .ref a20, .ref a21, .ref a22, .ref a23, .ref a24, .ref a25, .ref a26, .int 0, .ref a28, .ref a29, .ref a30, .ref a31, .ref a32, .ref a33, .int 0, .ref a35, .ref a36]))] sz)) 0 0 (va_A [(z, .inr (12, [.ref tm, .int 0, .int 0, .int ft, .int 0, .int 0, .int 0, .int 0, .int 0, .ref a9, .ref nw, .ref a11, .ref a12, .int 0, .int 0, .int 0, .ref a16, .ref a17, .ref a18, .ref a19, .ref a20, .ref a21, .ref a22, .ref a23, .ref a24, .ref a25, .ref a26, .int 0, .ref a28, .ref a29, .ref a30, .ref a31, .ref a32, .ref a33, .int 0, .ref a35, .ref a36]))] sz) := by
  refine Met.ofW (cc := cX12_next) (maxL := 1) (ret := (some .int)) (by decide) rfl ?_
  intro p e s m args below meth c s₁ B hml hv
  obtain ⟨rfl, hsz, hP, hK, hD0⟩ := hv
  have hx := B.exec
  have hb := B.bytes
  have hr := B.returns
  have hts := atoms_spec (ws := (Cond.code yX12_next cX12_next 1 (some .int) :: wsU)) B.pre
  have hts : ∀ w ∈ wsU, w.before _ s = true := fun w h => hts w (List.mem_cons_of_mem _ h)
  have hown : s.vm.findClass RX12 = some m.cls := findClass_of_methodNamed B.named
  have hlocks := B.notSynchronized
  subst hsz
  have hD := hD0.self (sz := s.heap.size)
  generalize hAe : va_A [(z, .inr (12, [.ref tm, .int 0, .int 0, .int ft, .int 0, .int 0, .int 0, .int 0, .int 0, .ref a9, .ref nw, .ref a11, .ref a12, .int 0, .int 0, .int 0, .ref a16, .ref a17, .ref a18, .ref a19, .ref a20, .ref a21, .ref a22, .ref a23, .ref a24, .ref a25, .ref a26, .int 0, .ref a28, .ref a29, .ref a30, .ref a31, .ref a32, .ref a33, .int 0, .ref a35, .ref a36]))] s.heap.size = A at hD ⊢
  have hA : ∀ q : Nat, s.heap.size ≤ q → A q := fun q h => by rw [← hAe]; exact Or.inr h
  have hS : va_S A s.heap s.heap [] := va_S.rf
  have hP : va_P (dC, dI) vwCl [(z, .inr (12, [.ref tm, .int 0, .int 0, .int ft, .int 0, .int 0, .int 0, .int 0, .int 0, .ref a9, .ref nw, .ref a11, .ref a12, .int 0, .int 0, .int 0, .ref a16, .ref a17, .ref a18, .ref a19, .ref a20, .ref a21, .ref a22, .ref a23, .ref a24, .ref a25, .ref a26, .int 0, .ref a28, .ref a29, .ref a30, .ref a31, .ref a32, .ref a33, .int 0, .ref a35, .ref a36]))] s.heap := hP
  have hl := lv_entry ([.ref z]) (n := 1) (Nat.le_of_ble_eq_true rfl)
  rw [lg_entry_eq]
  generalize (lg_sl ([.ref z]) ++ List.replicate (1 - (lg_sl ([.ref z])).length) Slot.unset).toArray = ls at hl ⊢
  have hl : lv_has ls 1 [(0, .ref z)] := hl
  refine lv_aload_n hx hb dX12_next_0 rfl (lv_at hl 0 rfl) ?_
  have hPc := hP.sub (ws' := [(z, .inr (12, [.ref tm, .int 0, .int 0, .int ft, .int 0, .int 0, .int 0, .int 0, .int 0, .ref a9, .ref nw, .ref a11, .ref a12, .int 0, .int 0, .int 0, .ref a16, .ref a17, .ref a18, .ref a19, .ref a20, .ref a21, .ref a22, .ref a23, .ref a24, .ref a25, .ref a26, .int 0, .ref a28, .ref a29, .ref a30, .ref a31, .ref a32, .ref a33, .int 0, .ref a35, .ref a36]))]) [0] rfl
  have hDc := hD.sub (ws' := [(z, .inr (12, [.ref tm, .int 0, .int 0, .int ft, .int 0, .int 0, .int 0, .int 0, .int 0, .ref a9, .ref nw, .ref a11, .ref a12, .int 0, .int 0, .int 0, .ref a16, .ref a17, .ref a18, .ref a19, .ref a20, .ref a21, .ref a22, .ref a23, .ref a24, .ref a25, .ref a26, .int 0, .ref a28, .ref a29, .ref a30, .ref a31, .ref a32, .ref a33, .int 0, .ref a35, .ref a36]))]) [0] (by decide) rfl
  have hKc := hK.sub (tys' := []) [] rfl
  have hFc := va_free (wc := [(z, .inr (12, [.ref tm, .int 0, .int 0, .int ft, .int 0, .int 0, .int 0, .int 0, .int 0, .ref a9, .ref nw, .ref a11, .ref a12, .int 0, .int 0, .int 0, .ref a16, .ref a17, .ref a18, .ref a19, .ref a20, .ref a21, .ref a22, .ref a23, .ref a24, .ref a25, .ref a26, .int 0, .ref a28, .ref a29, .ref a30, .ref a31, .ref a32, .ref a33, .int 0, .ref a35, .ref a36]))]) hD hS hA [0] rfl
  refine va_calli (va_runV (As := []) (rest := []) ⟨hx, hb, hml, hown, hts⟩ (c_X12_sign l dC dI (z) (tm) (a9) (nw) (a11) (a12) (a16) (a17) (a18) (a19) (a20) (a21) (a22) (a23) (a24) (a25) (a26) (a28) (a29) (a30) (a31) (a32) (a33) (a35) (a36) (ft) s.heap.size) (cwV 0 hts (kz_gV qw_614 qw_615 qw_616 qw_5 qw_617) rfl rfl rfl (by decide +kernel) ⟨Nat.le_of_ble_eq_true rfl, Nat.le_of_ble_eq_true rfl⟩) (⟨(kz_preS hPc hKc hDc).1, (va_recv hKc hPc (ci := 12) (q0 := 0) rfl rfl), (kz_preS hPc hKc hDc).2⟩) rfl rfl hl.1 rfl (lv_room (Nat.le_of_ble_eq_true rfl)) dX12_next_1 ⟨Nat.le_of_ble_eq_true rfl, Nat.le_of_ble_eq_true rfl⟩) hS (fun q _ h => hFc q h) hFc (fun r_1 u_2 t H1 locs ht hvm hw hB hz1 hk1 hS => ?_)
  try dsimp only at hw
  obtain ⟨hP1, hK1, hD1⟩ := hB
  rw [ht] at hP1
  have hK1 := va_K.moved hvm.symm hK1
  obtain ⟨hP, hD⟩ := va_join (wr := []) (w1 := [(z, .inr (12, [.ref tm, .int 0, .int 0, .int ft, .int 0, .int 0, .int 0, .int 0, .int 0, .ref a9, .ref nw, .ref a11, .ref a12, .int 0, .int 0, .int 0, .ref a16, .ref a17, .ref a18, .ref a19, .ref a20, .ref a21, .ref a22, .ref a23, .ref a24, .ref a25, .ref a26, .int 0, .ref a28, .ref a29, .ref a30, .ref a31, .ref a32, .ref a33, .int 0, .ref a35, .ref a36]))]) hP hD [0] [] rfl rfl (by decide) (by decide) hk1 hFc hP1 hD1
  have hK := (hK.sub (tys' := []) [] rfl).app hK1
  generalize H1 = H at hP hS ⊢
  have hP : va_P (dC, dI) vwCl [(z, .inr (12, [.ref tm, .int 0, .int 0, .int ft, .int 0, .int 0, .int 0, .int 0, .int 0, .ref a9, .ref nw, .ref a11, .ref a12, .int 0, .int 0, .int 0, .ref a16, .ref a17, .ref a18, .ref a19, .ref a20, .ref a21, .ref a22, .ref a23, .ref a24, .ref a25, .ref a26, .int 0, .ref a28, .ref a29, .ref a30, .ref a31, .ref a32, .ref a33, .int 0, .ref a35, .ref a36]))] H := hP
  have hD : va_D A [(z, .inr (12, [.ref tm, .int 0, .int 0, .int ft, .int 0, .int 0, .int 0, .int 0, .int 0, .ref a9, .ref nw, .ref a11, .ref a12, .int 0, .int 0, .int 0, .ref a16, .ref a17, .ref a18, .ref a19, .ref a20, .ref a21, .ref a22, .ref a23, .ref a24, .ref a25, .ref a26, .int 0, .ref a28, .ref a29, .ref a30, .ref a31, .ref a32, .ref a33, .int 0, .ref a35, .ref a36]))] := hD
  have hK : va_K (dC, dI) vwCl [] s := hK
  obtain rfl : r_1 = (-1) := hw
  refine lv_bipush (v := 32) hx hb dX12_next_4 (by decide) ?_
  refine lv_icmp_ne (tgt := 22) hx hb dX12_next_6 (by decide) (fun _ => ?_) (fun c9 => absurd c9 (by decide))
  refine lv_aload_n hx hb dX12_next_22 rfl (lv_at hl 0 rfl) ?_
  have hPc := hP.sub (ws' := [(z, .inr (12, [.ref tm, .int 0, .int 0, .int ft, .int 0, .int 0, .int 0, .int 0, .int 0, .ref a9, .ref nw, .ref a11, .ref a12, .int 0, .int 0, .int 0, .ref a16, .ref a17, .ref a18, .ref a19, .ref a20, .ref a21, .ref a22, .ref a23, .ref a24, .ref a25, .ref a26, .int 0, .ref a28, .ref a29, .ref a30, .ref a31, .ref a32, .ref a33, .int 0, .ref a35, .ref a36]))]) [0] rfl
  have hDc := hD.sub (ws' := [(z, .inr (12, [.ref tm, .int 0, .int 0, .int ft, .int 0, .int 0, .int 0, .int 0, .int 0, .ref a9, .ref nw, .ref a11, .ref a12, .int 0, .int 0, .int 0, .ref a16, .ref a17, .ref a18, .ref a19, .ref a20, .ref a21, .ref a22, .ref a23, .ref a24, .ref a25, .ref a26, .int 0, .ref a28, .ref a29, .ref a30, .ref a31, .ref a32, .ref a33, .int 0, .ref a35, .ref a36]))]) [0] (by decide) rfl
  have hKc := hK.sub (tys' := []) [] rfl
  have hFc := va_free (wc := [(z, .inr (12, [.ref tm, .int 0, .int 0, .int ft, .int 0, .int 0, .int 0, .int 0, .int 0, .ref a9, .ref nw, .ref a11, .ref a12, .int 0, .int 0, .int 0, .ref a16, .ref a17, .ref a18, .ref a19, .ref a20, .ref a21, .ref a22, .ref a23, .ref a24, .ref a25, .ref a26, .int 0, .ref a28, .ref a29, .ref a30, .ref a31, .ref a32, .ref a33, .int 0, .ref a35, .ref a36]))]) hD hS hA [0] rfl
  refine va_calli (va_runV (As := []) (rest := []) ⟨hx, hb, hml, hown, hts⟩ (c_X12_sign l dC dI (z) (tm) (a9) (nw) (a11) (a12) (a16) (a17) (a18) (a19) (a20) (a21) (a22) (a23) (a24) (a25) (a26) (a28) (a29) (a30) (a31) (a32) (a33) (a35) (a36) (ft) H.size) (cwV 0 hts (kz_gV qw_614 qw_615 qw_616 qw_5 qw_617) rfl rfl rfl (by decide +kernel) ⟨Nat.le_of_ble_eq_true rfl, Nat.le_of_ble_eq_true rfl⟩) (⟨(kz_preS hPc hKc hDc).1, (va_recv hKc hPc (ci := 12) (q0 := 0) rfl rfl), (kz_preS hPc hKc hDc).2⟩) rfl rfl hl.1 rfl (lv_room (Nat.le_of_ble_eq_true rfl)) dX12_next_23 ⟨Nat.le_of_ble_eq_true rfl, Nat.le_of_ble_eq_true rfl⟩) hS (fun q _ h => hFc q h) hFc (fun r_3 u_4 t H1 locs ht hvm hw hB hz1 hk1 hS => ?_)
  try dsimp only at hw
  obtain ⟨hP1, hK1, hD1⟩ := hB
  rw [ht] at hP1
  have hK1 := va_K.moved hvm.symm hK1
  obtain ⟨hP, hD⟩ := va_join (wr := []) (w1 := [(z, .inr (12, [.ref tm, .int 0, .int 0, .int ft, .int 0, .int 0, .int 0, .int 0, .int 0, .ref a9, .ref nw, .ref a11, .ref a12, .int 0, .int 0, .int 0, .ref a16, .ref a17, .ref a18, .ref a19, .ref a20, .ref a21, .ref a22, .ref a23, .ref a24, .ref a25, .ref a26, .int 0, .ref a28, .ref a29, .ref a30, .ref a31, .ref a32, .ref a33, .int 0, .ref a35, .ref a36]))]) hP hD [0] [] rfl rfl (by decide) (by decide) hk1 hFc hP1 hD1
  have hK := (hK.sub (tys' := []) [] rfl).app hK1
  generalize H1 = H at hP hS ⊢
  have hP : va_P (dC, dI) vwCl [(z, .inr (12, [.ref tm, .int 0, .int 0, .int ft, .int 0, .int 0, .int 0, .int 0, .int 0, .ref a9, .ref nw, .ref a11, .ref a12, .int 0, .int 0, .int 0, .ref a16, .ref a17, .ref a18, .ref a19, .ref a20, .ref a21, .ref a22, .ref a23, .ref a24, .ref a25, .ref a26, .int 0, .ref a28, .ref a29, .ref a30, .ref a31, .ref a32, .ref a33, .int 0, .ref a35, .ref a36]))] H := hP
  have hD : va_D A [(z, .inr (12, [.ref tm, .int 0, .int 0, .int ft, .int 0, .int 0, .int 0, .int 0, .int 0, .ref a9, .ref nw, .ref a11, .ref a12, .int 0, .int 0, .int 0, .ref a16, .ref a17, .ref a18, .ref a19, .ref a20, .ref a21, .ref a22, .ref a23, .ref a24, .ref a25, .ref a26, .int 0, .ref a28, .ref a29, .ref a30, .ref a31, .ref a32, .ref a33, .int 0, .ref a35, .ref a36]))] := hD
  have hK : va_K (dC, dI) vwCl [] s := hK
  obtain rfl : r_3 = (-1) := hw
  have hP9 := hP.sub (ws' := [(z, .inr (12, [.ref tm, .int 0, .int 0, .int ft, .int 0, .int 0, .int 0, .int 0, .int 0, .ref a9, .ref nw, .ref a11, .ref a12, .int 0, .int 0, .int 0, .ref a16, .ref a17, .ref a18, .ref a19, .ref a20, .ref a21, .ref a22, .ref a23, .ref a24, .ref a25, .ref a26, .int 0, .ref a28, .ref a29, .ref a30, .ref a31, .ref a32, .ref a33, .int 0, .ref a35, .ref a36]))]) [0] rfl
  have hD9 := hD.sub (ws' := [(z, .inr (12, [.ref tm, .int 0, .int 0, .int ft, .int 0, .int 0, .int 0, .int 0, .int 0, .ref a9, .ref nw, .ref a11, .ref a12, .int 0, .int 0, .int 0, .ref a16, .ref a17, .ref a18, .ref a19, .ref a20, .ref a21, .ref a22, .ref a23, .ref a24, .ref a25, .ref a26, .int 0, .ref a28, .ref a29, .ref a30, .ref a31, .ref a32, .ref a33, .int 0, .ref a35, .ref a36]))]) [0] (by decide) rfl
  have hK9 := hK.sub (tys' := []) [] rfl
  exact W.iret (v := (-1)) hx hb hr (fun t ht hW => ⟨⟨(-1), (), rfl, rfl, ⟨by rw [ht]; exact hP9, va_K.moved hW.alike hK9, hD9⟩⟩, hS.F ht⟩) hS.2.2 dX12_next_26
set_option maxHeartbeats 4000000 in
set_option maxRecDepth 100000 in
theorem c_X12_truth (l : Launch) (dC : Nat → ClassId) (dI : Nat → Nat → Nat) (sz : Nat) : Met l yX12_truth (Cond.code yX12_truth cX12_truth 1 (some .int) :: wsU) ({ frames := 0, cells := 0, slots := 0, locals := 0 }) (va_Pc [.int 0] (kz_B (dC, dI) sz [] [])) (va_Qi (fun (r : Int32) (_ : Unit) => r = 0) (fun _ _ => True) (va_A [] sz)) 0 0 (va_A [] sz) := by
  refine Met.ofW (cc := cX12_truth) (maxL := 1) (ret := (some .int)) (by decide) rfl ?_
  intro p e s m args below meth c s₁ B hml hv
  obtain ⟨rfl, hsz, hP, hK, hD0⟩ := hv
  have hx := B.exec
  have hb := B.bytes
  have hr := B.returns
  have hts := atoms_spec (ws := (Cond.code yX12_truth cX12_truth 1 (some .int) :: wsU)) B.pre
  have hts : ∀ w ∈ wsU, w.before _ s = true := fun w h => hts w (List.mem_cons_of_mem _ h)
  have hown : s.vm.findClass RX12 = some m.cls := findClass_of_methodNamed B.named
  have hlocks := B.notSynchronized
  subst hsz
  have hD := hD0.self (sz := s.heap.size)
  generalize hAe : va_A [] s.heap.size = A at hD ⊢
  have hA : ∀ q : Nat, s.heap.size ≤ q → A q := fun q h => by rw [← hAe]; exact Or.inr h
  have hS : va_S A s.heap s.heap [] := va_S.rf
  have hP : va_P (dC, dI) vwCl [] s.heap := hP
  have hl := lv_entry ([.int 0]) (n := 1) (Nat.le_of_ble_eq_true rfl)
  rw [lg_entry_eq]
  generalize (lg_sl ([.int 0]) ++ List.replicate (1 - (lg_sl ([.int 0])).length) Slot.unset).toArray = ls at hl ⊢
  have hl : lv_has ls 1 [(0, .int 0)] := hl
  refine lv_iload_n hx hb dX12_truth_0 rfl (lv_at hl 0 rfl) ?_
  refine lv_if_eq (tgt := 8) hx hb dX12_truth_1 (by decide) (fun _ => ?_) (fun c9 => absurd (by decide) c9)
  refine lv_iconst (v := 0) hx hb dX12_truth_8 (by decide) ?_
  exact W.iret (v := 0) hx hb hr (fun t ht hW => ⟨⟨0, (), rfl, rfl, trivial⟩, hS.F ht⟩) hS.2.2 dX12_truth_9
set_option maxHeartbeats 4000000 in
set_option maxRecDepth 100000 in
theorem c_X12_fails (l : Launch) (dC : Nat → ClassId) (dI : Nat → Nat → Nat) (z : Nat) (tm : Nat) (a9 : Nat) (nw : Nat) (a11 : Nat) (a12 : Nat) (a16 : Nat) (a17 : Nat) (a18 : Nat) (a19 : Nat) (a20 : Nat) (a21 : Nat) (a22 : Nat) (a23 : Nat) (a24 : Nat) (a25 : Nat) (a26 : Nat) (a28 : Nat) (a29 : Nat) (a30 : Nat) (a31 : Nat) (a32 : Nat) (a33 : Nat) (a35 : Nat) (a36 : Nat) (sz : Nat) : Met l yX12_fails (Cond.code yX12_fails cX12_fails 3 none :: wsU) ({ frames := 0, cells := 0, slots := 0, locals := 0 }) (va_Pc [.ref z, .int 1, .int 0] (kz_B (dC, dI) sz [(z, .inr (12, [.ref tm, .int 0, .int 0, .int (-1), .int 0, .int 0, .int 0, .int 0, .int 0, .ref a9, .ref nw, .ref a11, .ref a12, .int 0, .int 0, .int 0, .ref a16, .ref a17, .ref a18, .ref a19, .ref a20, .ref a21, .ref a22, .ref a23, .ref a24, .ref a25, .ref a26, .int 0, .ref a28, .ref a29, .ref a30, .ref a31, .ref a32, .ref a33, .int 0, .ref a35, .ref a36]))] [])) (va_Qv (fun (_ : Unit) => True) (fun (_ : Unit) t => kz_E (dC, dI) (va_A [(z, .inr (12, [.ref tm, .int 0, .int 0, .int (-1), .int 0, .int 0, .int 0, .int 0, .int 0, .ref a9, .ref nw, .ref a11, .ref a12, .int 0, .int 0, .int 0, .ref a16, .ref a17, .ref a18, .ref a19, .ref a20, .ref a21, .ref a22, .ref a23, .ref a24, .ref a25, .ref a26, .int 0, .ref a28, .ref a29, .ref a30, .ref a31, .ref a32, .ref a33, .int 0, .ref a35, .ref a36]))] sz) [(z, .inr (12, [.ref tm, .int 0, .int 0, .int 1, .int 0, .int 0, .int 0, .int 0, .int 0, .ref a9, .ref nw, .ref a11, .ref a12, .int 0, .int 0, .int 0, .ref a16, .ref a17, .ref a18, .ref a19, .ref a20, .ref a21, .ref a22, .ref a23, .ref a24, .ref a25, .ref a26, .int 0, .ref a28, .ref a29, .ref a30, .ref a31, .ref a32, .ref a33, .int 0, .ref a35, .ref a36]))] [] t) (va_A [(z, .inr (12, [.ref tm, .int 0, .int 0, .int (-1), .int 0, .int 0, .int 0, .int 0, .int 0, .ref a9, .ref nw, .ref a11, .ref a12, .int 0, .int 0, .int 0, .ref a16, .ref a17, .ref a18, .ref a19, .ref a20, .ref a21, .ref a22, .ref a23, .ref a24, .ref a25, .ref a26, .int 0, .ref a28, .ref a29, .ref a30, .ref a31, .ref a32, .ref a33, .int 0, .ref a35, .ref a36]))] sz)) 0 0 (va_A [(z, .inr (12, [.ref tm, .int 0, .int 0, .int (-1), .int 0, .int 0, .int 0, .int 0, .int 0, .ref a9, .ref nw, .ref a11, .ref a12, .int 0, .int 0, .int 0, .ref a16, .ref a17, .ref a18, .ref a19, .ref a20, .ref a21, .ref a22, .ref a23, .ref a24, .ref a25, .ref a26, .int 0, .ref a28, .ref a29, .ref a30, .ref a31, .ref a32, .ref a33, .int 0, .ref a35, .ref a36]))] sz) := by
  refine Met.ofW (cc := cX12_fails) (maxL := 3) (ret := none) (by decide) rfl ?_
  intro p e s m args below meth c s₁ B hml hv
  obtain ⟨rfl, hsz, hP, hK, hD0⟩ := hv
  have hx := B.exec
  have hb := B.bytes
  have hr := B.returns
  have hts := atoms_spec (ws := (Cond.code yX12_fails cX12_fails 3 none :: wsU)) B.pre
  have hts : ∀ w ∈ wsU, w.before _ s = true := fun w h => hts w (List.mem_cons_of_mem _ h)
  have hown : s.vm.findClass RX12 = some m.cls := findClass_of_methodNamed B.named
  have hlocks := B.notSynchronized
  subst hsz
  have hD := hD0.self (sz := s.heap.size)
  generalize hAe : va_A [(z, .inr (12, [.ref tm, .int 0, .int 0, .int (-1), .int 0, .int 0, .int 0, .int 0, .int 0, .ref a9, .ref nw, .ref a11, .ref a12, .int 0, .int 0, .int 0, .ref a16, .ref a17, .ref a18, .ref a19, .ref a20, .ref a21, .ref a22, .ref a23, .ref a24, .ref a25, .ref a26, .int 0, .ref a28, .ref a29, .ref a30, .ref a31, .ref a32, .ref a33, .int 0, .ref a35, .ref a36]))] s.heap.size = A at hD ⊢
  have hA : ∀ q : Nat, s.heap.size ≤ q → A q := fun q h => by rw [← hAe]; exact Or.inr h
  have hS : va_S A s.heap s.heap [] := va_S.rf
  have hP : va_P (dC, dI) vwCl [(z, .inr (12, [.ref tm, .int 0, .int 0, .int (-1), .int 0, .int 0, .int 0, .int 0, .int 0, .ref a9, .ref nw, .ref a11, .ref a12, .int 0, .int 0, .int 0, .ref a16, .ref a17, .ref a18, .ref a19, .ref a20, .ref a21, .ref a22, .ref a23, .ref a24, .ref a25, .ref a26, .int 0, .ref a28, .ref a29, .ref a30, .ref a31, .ref a32, .ref a33, .int 0, .ref a35, .ref a36]))] s.heap := hP
  have hl := lv_entry ([.ref z, .int 1, .int 0]) (n := 3) (Nat.le_of_ble_eq_true rfl)
  rw [lg_entry_eq]
  generalize (lg_sl ([.ref z, .int 1, .int 0]) ++ List.replicate (3 - (lg_sl ([.ref z, .int 1, .int 0])).length) Slot.unset).toArray = ls at hl ⊢
  have hl : lv_has ls 3 [(0, .ref z), (1, .int 1), (2, .int 0)] := hl
  refine lv_aload_n hx hb dX12_fails_0 rfl (lv_at hl 0 rfl) ?_
  refine va_get (D := (dC, dI)) (ci := 12) (v := .int (-1)) (C := RX12) (T := TX12) (N := 37) hx hb hts inlX12 hown hK hP 0 rfl rfl 3 (by decide) (hts _ qw_598) (fun _ h9 => h9) rfl dX12_fails_1 ?_
  refine lv_iconst (v := (-1)) hx hb dX12_fails_4 (by decide) ?_
  refine lv_icmp_ne (tgt := 18) hx hb dX12_fails_5 (by decide) (fun c9 => absurd c9 (by decide)) (fun _ => ?_)
  refine lv_aload_n hx hb dX12_fails_8 rfl (lv_at hl 0 rfl) ?_
  refine lv_bipush (v := 8) hx hb dX12_fails_9 (by decide) ?_
  refine lv_iload_n hx hb dX12_fails_11 rfl (lv_at hl 2 rfl) ?_
  refine lv_imul hx hb dX12_fails_12 ?_
  refine kz_topi (y := 0) (by decide) ?_
  refine lv_iload_n hx hb dX12_fails_13 rfl (lv_at hl 1 rfl) ?_
  refine lv_iadd hx hb dX12_fails_14 ?_
  refine kz_topi (y := 1) (by decide) ?_
  refine va_put (D := (dC, dI)) (ci := 12) (v := .int 1) (ty := .int) (C := RX12) (T := TX12) (N := 37) hx hb hts inlX12 tyX12 tyX12_ok nmX12 hown hK hP hD hS 0 rfl rfl 3 (by decide) (hts _ qw_598) (fun _ h9 => h9) rfl (by decide +kernel) rfl rfl (Nat.le_of_ble_eq_true rfl) dX12_fails_15 (fun H locs hP hD hS => ?_)
  have hP : va_P (dC, dI) vwCl [(z, .inr (12, [.ref tm, .int 0, .int 0, .int 1, .int 0, .int 0, .int 0, .int 0, .int 0, .ref a9, .ref nw, .ref a11, .ref a12, .int 0, .int 0, .int 0, .ref a16, .ref a17, .ref a18, .ref a19, .ref a20, .ref a21, .ref a22, .ref a23, .ref a24, .ref a25, .ref a26, .int 0, .ref a28, .ref a29, .ref a30, .ref a31, .ref a32, .ref a33, .int 0, .ref a35, .ref a36]))] H := hP
  have hD : va_D A [(z, .inr (12, [.ref tm, .int 0, .int 0, .int 1, .int 0, .int 0, .int 0, .int 0, .int 0, .ref a9, .ref nw, .ref a11, .ref a12, .int 0, .int 0, .int 0, .ref a16, .ref a17, .ref a18, .ref a19, .ref a20, .ref a21, .ref a22, .ref a23, .ref a24, .ref a25, .ref a26, .int 0, .ref a28, .ref a29, .ref a30, .ref a31, .ref a32, .ref a33, .int 0, .ref a35, .ref a36]))] := hD
  have hP9 := hP.sub (ws' := [(z, .inr (12, [.ref tm, .int 0, .int 0, .int 1, .int 0, .int 0, .int 0, .int 0, .int 0, .ref a9, .ref nw, .ref a11, .ref a12, .int 0, .int 0, .int 0, .ref a16, .ref a17, .ref a18, .ref a19, .ref a20, .ref a21, .ref a22, .ref a23, .ref a24, .ref a25, .ref a26, .int 0, .ref a28, .ref a29, .ref a30, .ref a31, .ref a32, .ref a33, .int 0, .ref a35, .ref a36]))]) [0] rfl
  have hD9 := hD.sub (ws' := [(z, .inr (12, [.ref tm, .int 0, .int 0, .int 1, .int 0, .int 0, .int 0, .int 0, .int 0, .ref a9, .ref nw, .ref a11, .ref a12, .int 0, .int 0, .int 0, .ref a16, .ref a17, .ref a18, .ref a19, .ref a20, .ref a21, .ref a22, .ref a23, .ref a24, .ref a25, .ref a26, .int 0, .ref a28, .ref a29, .ref a30, .ref a31, .ref a32, .ref a33, .int 0, .ref a35, .ref a36]))]) [0] (by decide) rfl
  have hK9 := hK.sub (tys' := []) [] rfl
  exact W.vret hx hb hr (fun t ht hW => ⟨⟨(), rfl, trivial, ⟨by rw [ht]; exact hP9, va_K.moved hW.alike hK9, hD9⟩⟩, hS.F ht⟩) hS.2.2 dX12_fails_18
set_option maxHeartbeats 4000000 in
set_option maxRecDepth 100000 in
theorem c_X12_number (l : Launch) (dC : Nat → ClassId) (dI : Nat → Nat → Nat) (z : Nat) (tm : Nat) (a9 : Nat) (nw : Nat) (a11 : Nat) (a12 : Nat) (a16 : Nat) (a17 : Nat) (a18 : Nat) (a19 : Nat) (a20 : Nat) (a21 : Nat) (a22 : Nat) (a23 : Nat) (a24 : Nat) (a25 : Nat) (a26 : Nat) (a28 : Nat) (a29 : Nat) (a30 : Nat) (a31 : Nat) (a32 : Nat) (a33 : Nat) (a35 : Nat) (a36 : Nat) (p1 : Int32) (p2 : Int32) (p3 : Int32) (sz : Nat) : Met l yX12_number (Cond.code yX12_number cX12_number 6 (some .int) :: wsU) ({ frames := 2, cells := 0, slots := 0, locals := 40 }) (va_Pc [.ref z, .int p1, .int p2, .int p3] (kz_B (dC, dI) sz [(z, .inr (12, [.ref tm, .int 0, .int 0, .int 1, .int 0, .int 0, .int 0, .int 0, .int 0, .ref a9, .ref nw, .ref a11, .ref a12, .int 0, .int 0, .int 0, .ref a16, .ref a17, .ref a18, .ref a19, .ref a20, .ref a21, .ref a22, .ref a23, .ref a24, .ref a25, .ref a26, .int 0, .ref a28, .ref a29, .ref a30, .ref a31, .ref a32, .ref a33, .int 0, .ref a35, .ref a36]))] [])) (va_Qi (fun (r : Int32) (_ : Unit) => r = 0) (fun (_ : Unit) t => kz_E (dC, dI) (va_A [(z, .inr (12, [.ref tm, .int 0, .int 0, .int 1, .int 0, .int 0, .int 0, .int 0, .int 0, .ref a9, .ref nw, .ref a11, .ref a12, .int 0, .int 0, .int 0, .ref a16, .ref a17, .ref a18, .ref a19, .ref a20, .ref a21, .ref a22, .ref a23, .ref a24, .ref a25, .ref a26, .int 0, .ref a28, .ref a29, .ref a30, .ref a31, .ref a32, .ref a33, .int 0, .ref a35, .ref a36]))] sz) [(z, .inr (12, [.ref tm, .int 0, .int 0, .int 1, .int 0, .int 0, .int 0, .int 0, .int 0, .ref a9, .ref nw, .ref a11, .ref a12, .int 0, .int 0, .int 0, .ref a16, .ref a17, .ref a18, .ref a19, .ref a20, .ref a21, .ref a22, .ref a23, .ref a24, .ref a25, .ref a26, .int 0, .ref a28, .ref a29, .ref a30, .ref a31, .ref a32, .ref a33, .int 0, .ref a35, .ref a36]))] [] t) (va_A [(z, .inr (12, [.ref tm, .int 0, .int 0, .int 1, .int 0, .int 0, .int 0, .int 0, .int 0, .ref a9, .ref nw, .ref a11, .ref a12, .int 0, .int 0, .int 0, .ref a16, .ref a17, .ref a18, .ref a19, .ref a20, .ref a21, .ref a22, .ref a23, .ref a24, .ref a25, .ref a26, .int 0, .ref a28, .ref a29, .ref a30, .ref a31, .ref a32, .ref a33, .int 0, .ref a35, .ref a36]))] sz)) 0 0 (va_A [(z, .inr (12, [.ref tm, .int 0, .int 0, .int 1, .int 0, .int 0, .int 0, .int 0, .int 0, .ref a9, .ref nw, .ref a11, .ref a12, .int 0, .int 0, .int 0, .ref a16, .ref a17, .ref a18, .ref a19, .ref a20, .ref a21, .ref a22, .ref a23, .ref a24, .ref a25, .ref a26, .int 0, .ref a28, .ref a29, .ref a30, .ref a31, .ref a32, .ref a33, .int 0, .ref a35, .ref a36]))] sz) := by
  refine Met.ofW (cc := cX12_number) (maxL := 6) (ret := (some .int)) (by decide) rfl ?_
  intro p e s m args below meth c s₁ B hml hv
  obtain ⟨rfl, hsz, hP, hK, hD0⟩ := hv
  have hx := B.exec
  have hb := B.bytes
  have hr := B.returns
  have hts := atoms_spec (ws := (Cond.code yX12_number cX12_number 6 (some .int) :: wsU)) B.pre
  have hts : ∀ w ∈ wsU, w.before _ s = true := fun w h => hts w (List.mem_cons_of_mem _ h)
  have hown : s.vm.findClass RX12 = some m.cls := findClass_of_methodNamed B.named
  have hlocks := B.notSynchronized
  subst hsz
  have hD := hD0.self (sz := s.heap.size)
  generalize hAe : va_A [(z, .inr (12, [.ref tm, .int 0, .int 0, .int 1, .int 0, .int 0, .int 0, .int 0, .int 0, .ref a9, .ref nw, .ref a11, .ref a12, .int 0, .int 0, .int 0, .ref a16, .ref a17, .ref a18, .ref a19, .ref a20, .ref a21, .ref a22, .ref a23, .ref a24, .ref a25, .ref a26, .int 0, .ref a28, .ref a29, .ref a30, .ref a31, .ref a32, .ref a33, .int 0, .ref a35, .ref a36]))] s.heap.size = A at hD ⊢
  have hA : ∀ q : Nat, s.heap.size ≤ q → A q := fun q h => by rw [← hAe]; exact Or.inr h
  have hS : va_S A s.heap s.heap [] := va_S.rf
  have hP : va_P (dC, dI) vwCl [(z, .inr (12, [.ref tm, .int 0, .int 0, .int 1, .int 0, .int 0, .int 0, .int 0, .int 0, .ref a9, .ref nw, .ref a11, .ref a12, .int 0, .int 0, .int 0, .ref a16, .ref a17, .ref a18, .ref a19, .ref a20, .ref a21, .ref a22, .ref a23, .ref a24, .ref a25, .ref a26, .int 0, .ref a28, .ref a29, .ref a30, .ref a31, .ref a32, .ref a33, .int 0, .ref a35, .ref a36]))] s.heap := hP
  have hl := lv_entry ([.ref z, .int p1, .int p2, .int p3]) (n := 6) (Nat.le_of_ble_eq_true rfl)
  rw [lg_entry_eq]
  generalize (lg_sl ([.ref z, .int p1, .int p2, .int p3]) ++ List.replicate (6 - (lg_sl ([.ref z, .int p1, .int p2, .int p3])).length) Slot.unset).toArray = ls at hl ⊢
  have hl : lv_has ls 6 [(0, .ref z), (1, .int p1), (2, .int p2), (3, .int p3)] := hl
  refine lv_aload_n hx hb dX12_number_0 rfl (lv_at hl 0 rfl) ?_
  have hPc := hP.sub (ws' := [(z, .inr (12, [.ref tm, .int 0, .int 0, .int 1, .int 0, .int 0, .int 0, .int 0, .int 0, .ref a9, .ref nw, .ref a11, .ref a12, .int 0, .int 0, .int 0, .ref a16, .ref a17, .ref a18, .ref a19, .ref a20, .ref a21, .ref a22, .ref a23, .ref a24, .ref a25, .ref a26, .int 0, .ref a28, .ref a29, .ref a30, .ref a31, .ref a32, .ref a33, .int 0, .ref a35, .ref a36]))]) [0] rfl
  have hDc := hD.sub (ws' := [(z, .inr (12, [.ref tm, .int 0, .int 0, .int 1, .int 0, .int 0, .int 0, .int 0, .int 0, .ref a9, .ref nw, .ref a11, .ref a12, .int 0, .int 0, .int 0, .ref a16, .ref a17, .ref a18, .ref a19, .ref a20, .ref a21, .ref a22, .ref a23, .ref a24, .ref a25, .ref a26, .int 0, .ref a28, .ref a29, .ref a30, .ref a31, .ref a32, .ref a33, .int 0, .ref a35, .ref a36]))]) [0] (by decide) rfl
  have hKc := hK.sub (tys' := []) [] rfl
  have hFc := va_free (wc := [(z, .inr (12, [.ref tm, .int 0, .int 0, .int 1, .int 0, .int 0, .int 0, .int 0, .int 0, .ref a9, .ref nw, .ref a11, .ref a12, .int 0, .int 0, .int 0, .ref a16, .ref a17, .ref a18, .ref a19, .ref a20, .ref a21, .ref a22, .ref a23, .ref a24, .ref a25, .ref a26, .int 0, .ref a28, .ref a29, .ref a30, .ref a31, .ref a32, .ref a33, .int 0, .ref a35, .ref a36]))]) hD hS hA [0] rfl
  refine va_calli (va_runV (As := []) (rest := []) ⟨hx, hb, hml, hown, hts⟩ (c_X12_next l dC dI (z) (tm) (a9) (nw) (a11) (a12) (a16) (a17) (a18) (a19) (a20) (a21) (a22) (a23) (a24) (a25) (a26) (a28) (a29) (a30) (a31) (a32) (a33) (a35) (a36) (1) s.heap.size) (cwV 0 hts (kz_gV qw_610 qw_611 qw_612 qw_5 qw_613) rfl rfl rfl (by decide +kernel) ⟨Nat.le_of_ble_eq_true rfl, Nat.le_of_ble_eq_true rfl⟩) (⟨(kz_preS hPc hKc hDc).1, (va_recv hKc hPc (ci := 12) (q0 := 0) rfl rfl), (kz_preS hPc hKc hDc).2⟩) rfl rfl hl.1 rfl (lv_room (Nat.le_of_ble_eq_true rfl)) dX12_number_1 ⟨Nat.le_of_ble_eq_true rfl, Nat.le_of_ble_eq_true rfl⟩) hS (fun q _ h => hFc q h) hFc (fun r_1 u_2 t H1 locs ht hvm hw hB hz1 hk1 hS => ?_)
  try dsimp only at hw
  obtain ⟨hP1, hK1, hD1⟩ := hB
  rw [ht] at hP1
  have hK1 := va_K.moved hvm.symm hK1
  obtain ⟨hP, hD⟩ := va_join (wr := []) (w1 := [(z, .inr (12, [.ref tm, .int 0, .int 0, .int 1, .int 0, .int 0, .int 0, .int 0, .int 0, .ref a9, .ref nw, .ref a11, .ref a12, .int 0, .int 0, .int 0, .ref a16, .ref a17, .ref a18, .ref a19, .ref a20, .ref a21, .ref a22, .ref a23, .ref a24, .ref a25, .ref a26, .int 0, .ref a28, .ref a29, .ref a30, .ref a31, .ref a32, .ref a33, .int 0, .ref a35, .ref a36]))]) hP hD [0] [] rfl rfl (by decide) (by decide) hk1 hFc hP1 hD1
  have hK := (hK.sub (tys' := []) [] rfl).app hK1
  generalize H1 = H at hP hS ⊢
  have hP : va_P (dC, dI) vwCl [(z, .inr (12, [.ref tm, .int 0, .int 0, .int 1, .int 0, .int 0, .int 0, .int 0, .int 0, .ref a9, .ref nw, .ref a11, .ref a12, .int 0, .int 0, .int 0, .ref a16, .ref a17, .ref a18, .ref a19, .ref a20, .ref a21, .ref a22, .ref a23, .ref a24, .ref a25, .ref a26, .int 0, .ref a28, .ref a29, .ref a30, .ref a31, .ref a32, .ref a33, .int 0, .ref a35, .ref a36]))] H := hP
  have hD : va_D A [(z, .inr (12, [.ref tm, .int 0, .int 0, .int 1, .int 0, .int 0, .int 0, .int 0, .int 0, .ref a9, .ref nw, .ref a11, .ref a12, .int 0, .int 0, .int 0, .ref a16, .ref a17, .ref a18, .ref a19, .ref a20, .ref a21, .ref a22, .ref a23, .ref a24, .ref a25, .ref a26, .int 0, .ref a28, .ref a29, .ref a30, .ref a31, .ref a32, .ref a33, .int 0, .ref a35, .ref a36]))] := hD
  have hK : va_K (dC, dI) vwCl [] s := hK
  obtain rfl : r_1 = (-1) := hw
  refine lv_pop hx hb dX12_number_4 rfl ?_
  refine lv_aload_n hx hb dX12_number_5 rfl (lv_at hl 0 rfl) ?_
  refine lv_aload_n hx hb dX12_number_6 rfl (lv_at hl 0 rfl) ?_
  refine va_get (D := (dC, dI)) (ci := 12) (v := .int 0) (C := RX12) (T := TX12) (N := 37) hx hb hts inlX12 hown hK hP 0 rfl rfl 2 (by decide) (hts _ qw_597) (fun _ h9 => h9) rfl dX12_number_7 ?_
  refine va_put (D := (dC, dI)) (ci := 12) (v := .int 0) (ty := .int) (C := RX12) (T := TX12) (N := 37) hx hb hts inlX12 tyX12 tyX12_ok nmX12 hown hK hP hD hS 0 rfl rfl 4 (by decide) (hts _ qw_641) (fun _ h9 => h9) rfl (by decide +kernel) rfl rfl (Nat.le_of_ble_eq_true rfl) dX12_number_10 (fun H locs hP hD hS => ?_)
  have hP : va_P (dC, dI) vwCl [(z, .inr (12, [.ref tm, .int 0, .int 0, .int 1, .int 0, .int 0, .int 0, .int 0, .int 0, .ref a9, .ref nw, .ref a11, .ref a12, .int 0, .int 0, .int 0, .ref a16, .ref a17, .ref a18, .ref a19, .ref a20, .ref a21, .ref a22, .ref a23, .ref a24, .ref a25, .ref a26, .int 0, .ref a28, .ref a29, .ref a30, .ref a31, .ref a32, .ref a33, .int 0, .ref a35, .ref a36]))] H := hP
  have hD : va_D A [(z, .inr (12, [.ref tm, .int 0, .int 0, .int 1, .int 0, .int 0, .int 0, .int 0, .int 0, .ref a9, .ref nw, .ref a11, .ref a12, .int 0, .int 0, .int 0, .ref a16, .ref a17, .ref a18, .ref a19, .ref a20, .ref a21, .ref a22, .ref a23, .ref a24, .ref a25, .ref a26, .int 0, .ref a28, .ref a29, .ref a30, .ref a31, .ref a32, .ref a33, .int 0, .ref a35, .ref a36]))] := hD
  refine lv_aload_n hx hb dX12_number_13 rfl (lv_at hl 0 rfl) ?_
  have hPc := hP.sub (ws' := [(z, .inr (12, [.ref tm, .int 0, .int 0, .int 1, .int 0, .int 0, .int 0, .int 0, .int 0, .ref a9, .ref nw, .ref a11, .ref a12, .int 0, .int 0, .int 0, .ref a16, .ref a17, .ref a18, .ref a19, .ref a20, .ref a21, .ref a22, .ref a23, .ref a24, .ref a25, .ref a26, .int 0, .ref a28, .ref a29, .ref a30, .ref a31, .ref a32, .ref a33, .int 0, .ref a35, .ref a36]))]) [0] rfl
  have hDc := hD.sub (ws' := [(z, .inr (12, [.ref tm, .int 0, .int 0, .int 1, .int 0, .int 0, .int 0, .int 0, .int 0, .ref a9, .ref nw, .ref a11, .ref a12, .int 0, .int 0, .int 0, .ref a16, .ref a17, .ref a18, .ref a19, .ref a20, .ref a21, .ref a22, .ref a23, .ref a24, .ref a25, .ref a26, .int 0, .ref a28, .ref a29, .ref a30, .ref a31, .ref a32, .ref a33, .int 0, .ref a35, .ref a36]))]) [0] (by decide) rfl
  have hKc := hK.sub (tys' := []) [] rfl
  have hFc := va_free (wc := [(z, .inr (12, [.ref tm, .int 0, .int 0, .int 1, .int 0, .int 0, .int 0, .int 0, .int 0, .ref a9, .ref nw, .ref a11, .ref a12, .int 0, .int 0, .int 0, .ref a16, .ref a17, .ref a18, .ref a19, .ref a20, .ref a21, .ref a22, .ref a23, .ref a24, .ref a25, .ref a26, .int 0, .ref a28, .ref a29, .ref a30, .ref a31, .ref a32, .ref a33, .int 0, .ref a35, .ref a36]))]) hD hS hA [0] rfl
  refine va_calli (va_runV (As := []) (rest := []) ⟨hx, hb, hml, hown, hts⟩ (c_X12_isRight_n l dC dI (z) (tm) (a9) (nw) (a11) (a12) (a16) (a17) (a18) (a19) (a20) (a21) (a22) (a23) (a24) (a25) (a26) (a28) (a29) (a30) (a31) (a32) (a33) (a35) (a36) H.size) (cwV 0 hts (kz_gV qw_627 qw_628 qw_629 qw_5 qw_630) rfl rfl rfl (by decide +kernel) ⟨Nat.le_of_ble_eq_true rfl, Nat.le_of_ble_eq_true rfl⟩) (⟨(kz_preS hPc hKc hDc).1, (va_recv hKc hPc (ci := 12) (q0 := 0) rfl rfl), (kz_preS hPc hKc hDc).2⟩) rfl rfl hl.1 rfl (lv_room (Nat.le_of_ble_eq_true rfl)) dX12_number_14 ⟨Nat.le_of_ble_eq_true rfl, Nat.le_of_ble_eq_true rfl⟩) hS (fun q _ h => hFc q h) hFc (fun r_3 u_4 t H1 locs ht hvm hw hB hz1 hk1 hS => ?_)
  try dsimp only at hw
  obtain ⟨hP1, hK1, hD1⟩ := hB
  rw [ht] at hP1
  have hK1 := va_K.moved hvm.symm hK1
  obtain ⟨hP, hD⟩ := va_join (wr := []) (w1 := [(z, .inr (12, [.ref tm, .int 0, .int 0, .int 1, .int 0, .int 0, .int 0, .int 0, .int 0, .ref a9, .ref nw, .ref a11, .ref a12, .int 0, .int 0, .int 0, .ref a16, .ref a17, .ref a18, .ref a19, .ref a20, .ref a21, .ref a22, .ref a23, .ref a24, .ref a25, .ref a26, .int 0, .ref a28, .ref a29, .ref a30, .ref a31, .ref a32, .ref a33, .int 0, .ref a35, .ref a36]))]) hP hD [0] [] rfl rfl (by decide) (by decide) hk1 hFc hP1 hD1
  have hK := (hK.sub (tys' := []) [] rfl).app hK1
  generalize H1 = H at hP hS ⊢
  have hP : va_P (dC, dI) vwCl [(z, .inr (12, [.ref tm, .int 0, .int 0, .int 1, .int 0, .int 0, .int 0, .int 0, .int 0, .ref a9, .ref nw, .ref a11, .ref a12, .int 0, .int 0, .int 0, .ref a16, .ref a17, .ref a18, .ref a19, .ref a20, .ref a21, .ref a22, .ref a23, .ref a24, .ref a25, .ref a26, .int 0, .ref a28, .ref a29, .ref a30, .ref a31, .ref a32, .ref a33, .int 0, .ref a35, .ref a36]))] H := hP
  have hD : va_D A [(z, .inr (12, [.ref tm, .int 0, .int 0, .int 1, .int 0, .int 0, .int 0, .int 0, .int 0, .ref a9, .ref nw, .ref a11, .ref a12, .int 0, .int 0, .int 0, .ref a16, .ref a17, .ref a18, .ref a19, .ref a20, .ref a21, .ref a22, .ref a23, .ref a24, .ref a25, .ref a26, .int 0, .ref a28, .ref a29, .ref a30, .ref a31, .ref a32, .ref a33, .int 0, .ref a35, .ref a36]))] := hD
  have hK : va_K (dC, dI) vwCl [] s := hK
  obtain rfl : r_3 = 0 := hw
  refine lv_if_eq (tgt := 37) hx hb dX12_number_17 (by decide) (fun _ => ?_) (fun c9 => absurd (by decide) c9)
  refine lv_iconst (v := 0) hx hb dX12_number_37 (by decide) ?_
  refine lv_istore (lv' := [(4, .int 0), (0, .ref z), (1, .int p1), (2, .int p2), (3, .int p3)]) hx hb dX12_number_38 hl (by decide) rfl (fun ls hl => ?_)
  refine lv_aload_n hx hb dX12_number_40 rfl (lv_at hl 1 rfl) ?_
  refine lv_dup hx hb dX12_number_41 rfl ?_
  refine va_get (D := (dC, dI)) (ci := 12) (v := .int 0) (C := RX12) (T := TX12) (N := 37) hx hb hts inlX12 hown hK hP 0 rfl rfl 2 (by decide) (hts _ qw_597) (fun _ h9 => h9) rfl dX12_number_42 ?_
  refine lv_iload hx hb dX12_number_45 (lv_at hl 0 rfl) ?_
  have hPc := hP.sub (ws' := []) [] rfl
  have hDc := hD.sub (ws' := []) [] (by decide) rfl
  have hKc := hK.sub (tys' := []) [] rfl
  have hFc := va_free (wc := []) hD hS hA [] rfl
  refine va_calli (va_runS (As := [.int 0]) (rest := [.int 0, .ref z]) ⟨hx, hb, hml, hown, hts⟩ (c_X12_truth l dC dI  H.size) (va_cwS 1 hts (kz_gS qw_645 qw_646 qw_5 qw_647) rfl rfl rfl (by decide +kernel) ⟨Nat.le_of_ble_eq_true rfl, Nat.le_of_ble_eq_true rfl⟩) (kz_preS hPc hKc hDc) rfl rfl hl.1 rfl (lv_room (Nat.le_of_ble_eq_true rfl)) dX12_number_47 ⟨Nat.le_of_ble_eq_true rfl, Nat.le_of_ble_eq_true rfl⟩) hS (fun q _ h => hFc q h) hFc (fun r_5 u_6 t H1 locs ht hvm hw hB hz1 hk1 hS => ?_)
  try dsimp only at hw
  have hP1 : va_P (dC, dI) vwCl [] H1 := kz_P0
  have hD1 : va_D (va_A [] H.size) [] := kz_D0
  have hK1 : va_K (dC, dI) vwCl [] s := hK.sub [] rfl
  obtain ⟨hP, hD⟩ := va_join (wr := [(z, .inr (12, [.ref tm, .int 0, .int 0, .int 1, .int 0, .int 0, .int 0, .int 0, .int 0, .ref a9, .ref nw, .ref a11, .ref a12, .int 0, .int 0, .int 0, .ref a16, .ref a17, .ref a18, .ref a19, .ref a20, .ref a21, .ref a22, .ref a23, .ref a24, .ref a25, .ref a26, .int 0, .ref a28, .ref a29, .ref a30, .ref a31, .ref a32, .ref a33, .int 0, .ref a35, .ref a36]))]) (w1 := []) hP hD [] [0] rfl rfl (by decide) (by decide) hk1 hFc hP1 hD1
  have hK := (hK.sub (tys' := []) [] rfl).app hK1
  generalize H1 = H at hP hS ⊢
  have hP : va_P (dC, dI) vwCl [(z, .inr (12, [.ref tm, .int 0, .int 0, .int 1, .int 0, .int 0, .int 0, .int 0, .int 0, .ref a9, .ref nw, .ref a11, .ref a12, .int 0, .int 0, .int 0, .ref a16, .ref a17, .ref a18, .ref a19, .ref a20, .ref a21, .ref a22, .ref a23, .ref a24, .ref a25, .ref a26, .int 0, .ref a28, .ref a29, .ref a30, .ref a31, .ref a32, .ref a33, .int 0, .ref a35, .ref a36]))] H := hP
  have hD : va_D A [(z, .inr (12, [.ref tm, .int 0, .int 0, .int 1, .int 0, .int 0, .int 0, .int 0, .int 0, .ref a9, .ref nw, .ref a11, .ref a12, .int 0, .int 0, .int 0, .ref a16, .ref a17, .ref a18, .ref a19, .ref a20, .ref a21, .ref a22, .ref a23, .ref a24, .ref a25, .ref a26, .int 0, .ref a28, .ref a29, .ref a30, .ref a31, .ref a32, .ref a33, .int 0, .ref a35, .ref a36]))] := hD
  have hK : va_K (dC, dI) vwCl [] s := hK
  obtain rfl : r_5 = 0 := hw
  refine lv_iadd hx hb dX12_number_50 ?_
  refine kz_topi (y := 0) (by decide) ?_
  refine va_put (D := (dC, dI)) (ci := 12) (v := .int 0) (ty := .int) (C := RX12) (T := TX12) (N := 37) hx hb hts inlX12 tyX12 tyX12_ok nmX12 hown hK hP hD hS 0 rfl rfl 2 (by decide) (hts _ qw_597) (fun _ h9 => h9) rfl (by decide +kernel) rfl rfl (Nat.le_of_ble_eq_true rfl) dX12_number_51 (fun H locs hP hD hS => ?_)
  have hP : va_P (dC, dI) vwCl [(z, .inr (12, [.ref tm, .int 0, .int 0, .int 1, .int 0, .int 0, .int 0, .int 0, .int 0, .ref a9, .ref nw, .ref a11, .ref a12, .int 0, .int 0, .int 0, .ref a16, .ref a17, .ref a18, .ref a19, .ref a20, .ref a21, .ref a22, .ref a23, .ref a24, .ref a25, .ref a26, .int 0, .ref a28, .ref a29, .ref a30, .ref a31, .ref a32, .ref a33, .int 0, .ref a35, .ref a36]))] H := hP
  have hD : va_D A [(z, .inr (12, [.ref tm, .int 0, .int 0, .int 1, .int 0, .int 0, .int 0, .int 0, .int 0, .ref a9, .ref nw, .ref a11, .ref a12, .int 0, .int 0, .int 0, .ref a16, .ref a17, .ref a18, .ref a19, .ref a20, .ref a21, .ref a22, .ref a23, .ref a24, .ref a25, .ref a26, .int 0, .ref a28, .ref a29, .ref a30, .ref a31, .ref a32, .ref a33, .int 0, .ref a35, .ref a36]))] := hD
  refine lv_aload_n hx hb dX12_number_54 rfl (lv_at hl 1 rfl) ?_
  have hPc := hP.sub (ws' := [(z, .inr (12, [.ref tm, .int 0, .int 0, .int 1, .int 0, .int 0, .int 0, .int 0, .int 0, .ref a9, .ref nw, .ref a11, .ref a12, .int 0, .int 0, .int 0, .ref a16, .ref a17, .ref a18, .ref a19, .ref a20, .ref a21, .ref a22, .ref a23, .ref a24, .ref a25, .ref a26, .int 0, .ref a28, .ref a29, .ref a30, .ref a31, .ref a32, .ref a33, .int 0, .ref a35, .ref a36]))]) [0] rfl
  have hDc := hD.sub (ws' := [(z, .inr (12, [.ref tm, .int 0, .int 0, .int 1, .int 0, .int 0, .int 0, .int 0, .int 0, .ref a9, .ref nw, .ref a11, .ref a12, .int 0, .int 0, .int 0, .ref a16, .ref a17, .ref a18, .ref a19, .ref a20, .ref a21, .ref a22, .ref a23, .ref a24, .ref a25, .ref a26, .int 0, .ref a28, .ref a29, .ref a30, .ref a31, .ref a32, .ref a33, .int 0, .ref a35, .ref a36]))]) [0] (by decide) rfl
  have hKc := hK.sub (tys' := []) [] rfl
  have hFc := va_free (wc := [(z, .inr (12, [.ref tm, .int 0, .int 0, .int 1, .int 0, .int 0, .int 0, .int 0, .int 0, .ref a9, .ref nw, .ref a11, .ref a12, .int 0, .int 0, .int 0, .ref a16, .ref a17, .ref a18, .ref a19, .ref a20, .ref a21, .ref a22, .ref a23, .ref a24, .ref a25, .ref a26, .int 0, .ref a28, .ref a29, .ref a30, .ref a31, .ref a32, .ref a33, .int 0, .ref a35, .ref a36]))]) hD hS hA [0] rfl
  refine va_calli (va_runV (As := []) (rest := []) ⟨hx, hb, hml, hown, hts⟩ (c_X12_isRight_n l dC dI (z) (tm) (a9) (nw) (a11) (a12) (a16) (a17) (a18) (a19) (a20) (a21) (a22) (a23) (a24) (a25) (a26) (a28) (a29) (a30) (a31) (a32) (a33) (a35) (a36) H.size) (cwV 0 hts (kz_gV qw_627 qw_628 qw_629 qw_5 qw_630) rfl rfl rfl (by decide +kernel) ⟨Nat.le_of_ble_eq_true rfl, Nat.le_of_ble_eq_true rfl⟩) (⟨(kz_preS hPc hKc hDc).1, (va_recv hKc hPc (ci := 12) (q0 := 0) rfl rfl), (kz_preS hPc hKc hDc).2⟩) rfl rfl hl.1 rfl (lv_room (Nat.le_of_ble_eq_true rfl)) dX12_number_55 ⟨Nat.le_of_ble_eq_true rfl, Nat.le_of_ble_eq_true rfl⟩) hS (fun q _ h => hFc q h) hFc (fun r_7 u_8 t H1 locs ht hvm hw hB hz1 hk1 hS => ?_)
  try dsimp only at hw
  obtain ⟨hP1, hK1, hD1⟩ := hB
  rw [ht] at hP1
  have hK1 := va_K.moved hvm.symm hK1
  obtain ⟨hP, hD⟩ := va_join (wr := []) (w1 := [(z, .inr (12, [.ref tm, .int 0, .int 0, .int 1, .int 0, .int 0, .int 0, .int 0, .int 0, .ref a9, .ref nw, .ref a11, .ref a12, .int 0, .int 0, .int 0, .ref a16, .ref a17, .ref a18, .ref a19, .ref a20, .ref a21, .ref a22, .ref a23, .ref a24, .ref a25, .ref a26, .int 0, .ref a28, .ref a29, .ref a30, .ref a31, .ref a32, .ref a33, .int 0, .ref a35, .ref a36]))]) hP hD [0] [] rfl rfl (by decide) (by decide) hk1 hFc hP1 hD1
  have hK := (hK.sub (tys' := []) [] rfl).app hK1
  generalize H1 = H at hP hS ⊢
  have hP : va_P (dC, dI) vwCl [(z, .inr (12, [.ref tm, .int 0, .int 0, .int 1, .int 0, .int 0, .int 0, .int 0, .int 0, .ref a9, .ref nw, .ref a11, .ref a12, .int 0, .int 0, .int 0, .ref a16, .ref a17, .ref a18, .ref a19, .ref a20, .ref a21, .ref a22, .ref a23, .ref a24, .ref a25, .ref a26, .int 0, .ref a28, .ref a29, .ref a30, .ref a31, .ref a32, .ref a33, .int 0, .ref a35, .ref a36]))] H := hP
  have hD : va_D A [(z, .inr (12, [.ref tm, .int 0, .int 0, .int 1, .int 0, .int 0, .int 0, .int 0, .int 0, .ref a9, .ref nw, .ref a11, .ref a12, .int 0, .int 0, .int 0, .ref a16, .ref a17, .ref a18, .ref a19, .ref a20, .ref a21, .ref a22, .ref a23, .ref a24, .ref a25, .ref a26, .int 0, .ref a28, .ref a29, .ref a30, .ref a31, .ref a32, .ref a33, .int 0, .ref a35, .ref a36]))] := hD
  have hK : va_K (dC, dI) vwCl [] s := hK
  obtain rfl : r_7 = 0 := hw
  refine lv_if_eq (tgt := 87) hx hb dX12_number_58 (by decide) (fun _ => ?_) (fun c9 => absurd (by decide) c9)
  refine lv_iconst (v := 0) hx hb dX12_number_87 (by decide) ?_
  refine lv_istore (lv' := [(5, .int 0), (4, .int 0), (0, .ref z), (1, .int p1), (2, .int p2), (3, .int p3)]) hx hb dX12_number_88 hl (by decide) rfl (fun ls hl => ?_)
  refine lv_aload_n hx hb dX12_number_90 rfl (lv_at hl 2 rfl) ?_
  have hPc := hP.sub (ws' := [(z, .inr (12, [.ref tm, .int 0, .int 0, .int 1, .int 0, .int 0, .int 0, .int 0, .int 0, .ref a9, .ref nw, .ref a11, .ref a12, .int 0, .int 0, .int 0, .ref a16, .ref a17, .ref a18, .ref a19, .ref a20, .ref a21, .ref a22, .ref a23, .ref a24, .ref a25, .ref a26, .int 0, .ref a28, .ref a29, .ref a30, .ref a31, .ref a32, .ref a33, .int 0, .ref a35, .ref a36]))]) [0] rfl
  have hDc := hD.sub (ws' := [(z, .inr (12, [.ref tm, .int 0, .int 0, .int 1, .int 0, .int 0, .int 0, .int 0, .int 0, .ref a9, .ref nw, .ref a11, .ref a12, .int 0, .int 0, .int 0, .ref a16, .ref a17, .ref a18, .ref a19, .ref a20, .ref a21, .ref a22, .ref a23, .ref a24, .ref a25, .ref a26, .int 0, .ref a28, .ref a29, .ref a30, .ref a31, .ref a32, .ref a33, .int 0, .ref a35, .ref a36]))]) [0] (by decide) rfl
  have hKc := hK.sub (tys' := []) [] rfl
  have hFc := va_free (wc := [(z, .inr (12, [.ref tm, .int 0, .int 0, .int 1, .int 0, .int 0, .int 0, .int 0, .int 0, .ref a9, .ref nw, .ref a11, .ref a12, .int 0, .int 0, .int 0, .ref a16, .ref a17, .ref a18, .ref a19, .ref a20, .ref a21, .ref a22, .ref a23, .ref a24, .ref a25, .ref a26, .int 0, .ref a28, .ref a29, .ref a30, .ref a31, .ref a32, .ref a33, .int 0, .ref a35, .ref a36]))]) hD hS hA [0] rfl
  refine va_calli (va_runV (As := []) (rest := []) ⟨hx, hb, hml, hown, hts⟩ (c_X12_isRight_n l dC dI (z) (tm) (a9) (nw) (a11) (a12) (a16) (a17) (a18) (a19) (a20) (a21) (a22) (a23) (a24) (a25) (a26) (a28) (a29) (a30) (a31) (a32) (a33) (a35) (a36) H.size) (cwV 0 hts (kz_gV qw_627 qw_628 qw_629 qw_5 qw_630) rfl rfl rfl (by decide +kernel) ⟨Nat.le_of_ble_eq_true rfl, Nat.le_of_ble_eq_true rfl⟩) (⟨(kz_preS hPc hKc hDc).1, (va_recv hKc hPc (ci := 12) (q0 := 0) rfl rfl), (kz_preS hPc hKc hDc).2⟩) rfl rfl hl.1 rfl (lv_room (Nat.le_of_ble_eq_true rfl)) dX12_number_91 ⟨Nat.le_of_ble_eq_true rfl, Nat.le_of_ble_eq_true rfl⟩) hS (fun q _ h => hFc q h) hFc (fun r_9 u_10 t H1 locs ht hvm hw hB hz1 hk1 hS => ?_)
  try dsimp only at hw
  obtain ⟨hP1, hK1, hD1⟩ := hB
  rw [ht] at hP1
  have hK1 := va_K.moved hvm.symm hK1
  obtain ⟨hP, hD⟩ := va_join (wr := []) (w1 := [(z, .inr (12, [.ref tm, .int 0, .int 0, .int 1, .int 0, .int 0, .int 0, .int 0, .int 0, .ref a9, .ref nw, .ref a11, .ref a12, .int 0, .int 0, .int 0, .ref a16, .ref a17, .ref a18, .ref a19, .ref a20, .ref a21, .ref a22, .ref a23, .ref a24, .ref a25, .ref a26, .int 0, .ref a28, .ref a29, .ref a30, .ref a31, .ref a32, .ref a33, .int 0, .ref a35, .ref a36]))]) hP hD [0] [] rfl rfl (by decide) (by decide) hk1 hFc hP1 hD1
  have hK := (hK.sub (tys' := []) [] rfl).app hK1
  generalize H1 = H at hP hS ⊢
  have hP : va_P (dC, dI) vwCl [(z, .inr (12, [.ref tm, .int 0, .int 0, .int 1, .int 0, .int 0, .int 0, .int 0, .int 0, .ref a9, .ref nw, .ref a11, .ref a12, .int 0, .int 0, .int 0, .ref a16, .ref a17, .ref a18, .ref a19, .ref a20, .ref a21, .ref a22, .ref a23, .ref a24, .ref a25, .ref a26, .int 0, .ref a28, .ref a29, .ref a30, .ref a31, .ref a32, .ref a33, .int 0, .ref a35, .ref a36]))] H := hP
  have hD : va_D A [(z, .inr (12, [.ref tm, .int 0, .int 0, .int 1, .int 0, .int 0, .int 0, .int 0, .int 0, .ref a9, .ref nw, .ref a11, .ref a12, .int 0, .int 0, .int 0, .ref a16, .ref a17, .ref a18, .ref a19, .ref a20, .ref a21, .ref a22, .ref a23, .ref a24, .ref a25, .ref a26, .int 0, .ref a28, .ref a29, .ref a30, .ref a31, .ref a32, .ref a33, .int 0, .ref a35, .ref a36]))] := hD
  have hK : va_K (dC, dI) vwCl [] s := hK
  obtain rfl : r_9 = 0 := hw
  refine lv_if_eq (tgt := 147) hx hb dX12_number_94 (by decide) (fun _ => ?_) (fun c9 => absurd (by decide) c9)
  refine lv_iload hx hb dX12_number_147 (lv_at hl 1 rfl) ?_
  refine lv_if_eq (tgt := 158) hx hb dX12_number_149 (by decide) (fun _ => ?_) (fun c9 => absurd (by decide) c9)
  refine lv_iload hx hb dX12_number_158 (lv_at hl 0 rfl) ?_
  refine lv_istore (lv' := [(5, .int 0), (4, .int 0), (0, .ref z), (1, .int p1), (2, .int p2), (3, .int p3)]) hx hb dX12_number_160 hl (by decide) rfl (fun ls hl => ?_)
  refine lv_aload_n hx hb dX12_number_162 rfl (lv_at hl 2 rfl) ?_
  have hPc := hP.sub (ws' := [(z, .inr (12, [.ref tm, .int 0, .int 0, .int 1, .int 0, .int 0, .int 0, .int 0, .int 0, .ref a9, .ref nw, .ref a11, .ref a12, .int 0, .int 0, .int 0, .ref a16, .ref a17, .ref a18, .ref a19, .ref a20, .ref a21, .ref a22, .ref a23, .ref a24, .ref a25, .ref a26, .int 0, .ref a28, .ref a29, .ref a30, .ref a31, .ref a32, .ref a33, .int 0, .ref a35, .ref a36]))]) [0] rfl
  have hDc := hD.sub (ws' := [(z, .inr (12, [.ref tm, .int 0, .int 0, .int 1, .int 0, .int 0, .int 0, .int 0, .int 0, .ref a9, .ref nw, .ref a11, .ref a12, .int 0, .int 0, .int 0, .ref a16, .ref a17, .ref a18, .ref a19, .ref a20, .ref a21, .ref a22, .ref a23, .ref a24, .ref a25, .ref a26, .int 0, .ref a28, .ref a29, .ref a30, .ref a31, .ref a32, .ref a33, .int 0, .ref a35, .ref a36]))]) [0] (by decide) rfl
  have hKc := hK.sub (tys' := []) [] rfl
  have hFc := va_free (wc := [(z, .inr (12, [.ref tm, .int 0, .int 0, .int 1, .int 0, .int 0, .int 0, .int 0, .int 0, .ref a9, .ref nw, .ref a11, .ref a12, .int 0, .int 0, .int 0, .ref a16, .ref a17, .ref a18, .ref a19, .ref a20, .ref a21, .ref a22, .ref a23, .ref a24, .ref a25, .ref a26, .int 0, .ref a28, .ref a29, .ref a30, .ref a31, .ref a32, .ref a33, .int 0, .ref a35, .ref a36]))]) hD hS hA [0] rfl
  refine va_calli (va_runV (As := []) (rest := []) ⟨hx, hb, hml, hown, hts⟩ (c_X12_isRight_n l dC dI (z) (tm) (a9) (nw) (a11) (a12) (a16) (a17) (a18) (a19) (a20) (a21) (a22) (a23) (a24) (a25) (a26) (a28) (a29) (a30) (a31) (a32) (a33) (a35) (a36) H.size) (cwV 0 hts (kz_gV qw_627 qw_628 qw_629 qw_5 qw_630) rfl rfl rfl (by decide +kernel) ⟨Nat.le_of_ble_eq_true rfl, Nat.le_of_ble_eq_true rfl⟩) (⟨(kz_preS hPc hKc hDc).1, (va_recv hKc hPc (ci := 12) (q0 := 0) rfl rfl), (kz_preS hPc hKc hDc).2⟩) rfl rfl hl.1 rfl (lv_room (Nat.le_of_ble_eq_true rfl)) dX12_number_163 ⟨Nat.le_of_ble_eq_true rfl, Nat.le_of_ble_eq_true rfl⟩) hS (fun q _ h => hFc q h) hFc (fun r_11 u_12 t H1 locs ht hvm hw hB hz1 hk1 hS => ?_)
  try dsimp only at hw
  obtain ⟨hP1, hK1, hD1⟩ := hB
  rw [ht] at hP1
  have hK1 := va_K.moved hvm.symm hK1
  obtain ⟨hP, hD⟩ := va_join (wr := []) (w1 := [(z, .inr (12, [.ref tm, .int 0, .int 0, .int 1, .int 0, .int 0, .int 0, .int 0, .int 0, .ref a9, .ref nw, .ref a11, .ref a12, .int 0, .int 0, .int 0, .ref a16, .ref a17, .ref a18, .ref a19, .ref a20, .ref a21, .ref a22, .ref a23, .ref a24, .ref a25, .ref a26, .int 0, .ref a28, .ref a29, .ref a30, .ref a31, .ref a32, .ref a33, .int 0, .ref a35, .ref a36]))]) hP hD [0] [] rfl rfl (by decide) (by decide) hk1 hFc hP1 hD1
  have hK := (hK.sub (tys' := []) [] rfl).app hK1
  generalize H1 = H at hP hS ⊢
  have hP : va_P (dC, dI) vwCl [(z, .inr (12, [.ref tm, .int 0, .int 0, .int 1, .int 0, .int 0, .int 0, .int 0, .int 0, .ref a9, .ref nw, .ref a11, .ref a12, .int 0, .int 0, .int 0, .ref a16, .ref a17, .ref a18, .ref a19, .ref a20, .ref a21, .ref a22, .ref a23, .ref a24, .ref a25, .ref a26, .int 0, .ref a28, .ref a29, .ref a30, .ref a31, .ref a32, .ref a33, .int 0, .ref a35, .ref a36]))] H := hP
  have hD : va_D A [(z, .inr (12, [.ref tm, .int 0, .int 0, .int 1, .int 0, .int 0, .int 0, .int 0, .int 0, .ref a9, .ref nw, .ref a11, .ref a12, .int 0, .int 0, .int 0, .ref a16, .ref a17, .ref a18, .ref a19, .ref a20, .ref a21, .ref a22, .ref a23, .ref a24, .ref a25, .ref a26, .int 0, .ref a28, .ref a29, .ref a30, .ref a31, .ref a32, .ref a33, .int 0, .ref a35, .ref a36]))] := hD
  have hK : va_K (dC, dI) vwCl [] s := hK
  obtain rfl : r_11 = 0 := hw
  refine lv_if_eq (tgt := 191) hx hb dX12_number_166 (by decide) (fun _ => ?_) (fun c9 => absurd (by decide) c9)
  refine lv_iload hx hb dX12_number_191 (lv_at hl 0 rfl) ?_
  have hP9 := hP.sub (ws' := [(z, .inr (12, [.ref tm, .int 0, .int 0, .int 1, .int 0, .int 0, .int 0, .int 0, .int 0, .ref a9, .ref nw, .ref a11, .ref a12, .int 0, .int 0, .int 0, .ref a16, .ref a17, .ref a18, .ref a19, .ref a20, .ref a21, .ref a22, .ref a23, .ref a24, .ref a25, .ref a26, .int 0, .ref a28, .ref a29, .ref a30, .ref a31, .ref a32, .ref a33, .int 0, .ref a35, .ref a36]))]) [0] rfl
  have hD9 := hD.sub (ws' := [(z, .inr (12, [.ref tm, .int 0, .int 0, .int 1, .int 0, .int 0, .int 0, .int 0, .int 0, .ref a9, .ref nw, .ref a11, .ref a12, .int 0, .int 0, .int 0, .ref a16, .ref a17, .ref a18, .ref a19, .ref a20, .ref a21, .ref a22, .ref a23, .ref a24, .ref a25, .ref a26, .int 0, .ref a28, .ref a29, .ref a30, .ref a31, .ref a32, .ref a33, .int 0, .ref a35, .ref a36]))]) [0] (by decide) rfl
  have hK9 := hK.sub (tys' := []) [] rfl
  exact W.iret (v := 0) hx hb hr (fun t ht hW => ⟨⟨0, (), rfl, rfl, ⟨by rw [ht]; exact hP9, va_K.moved hW.alike hK9, hD9⟩⟩, hS.F ht⟩) hS.2.2 dX12_number_193
set_option maxHeartbeats 4000000 in
set_option maxRecDepth 100000 in
theorem c_X12_takes (l : Launch) (dC : Nat → ClassId) (dI : Nat → Nat → Nat) (z : Nat) (tm : Nat) (a9 : Nat) (nw : Nat) (a11 : Nat) (a12 : Nat) (a16 : Nat) (a17 : Nat) (a18 : Nat) (a19 : Nat) (a20 : Nat) (a21 : Nat) (a22 : Nat) (a23 : Nat) (a24 : Nat) (a25 : Nat) (a26 : Nat) (a28 : Nat) (a29 : Nat) (a30 : Nat) (a31 : Nat) (a32 : Nat) (a33 : Nat) (a35 : Nat) (a36 : Nat) (sq : Nat) (sv : Nat) (sz : Nat) : Met l yX12_takes (Cond.code yX12_takes cX12_takes 5 (some .boolean) :: wsU) ({ frames := 2, cells := 0, slots := 0, locals := 40 }) (va_Pc [.ref z, .ref sq] (fun U => kz_B (dC, dI) sz [(z, .inr (12, [.ref tm, .int 0, .int 0, .int (-1), .int 0, .int 0, .int 0, .int 0, .int 0, .ref a9, .ref nw, .ref a11, .ref a12, .int 0, .int 0, .int 0, .ref a16, .ref a17, .ref a18, .ref a19, .ref a20, .ref a21, .ref a22, .ref a23, .ref a24, .ref a25, .ref a26, .int 0, .ref a28, .ref a29, .ref a30, .ref a31, .ref a32, .ref a33, .int 0, .ref a35, .ref a36]))] [] U ∧ kz_Ss sq sv (va_A [(z, .inr (12, [.ref tm, .int 0, .int 0, .int (-1), .int 0, .int 0, .int 0, .int 0, .int 0, .ref a9, .ref nw, .ref a11, .ref a12, .int 0, .int 0, .int 0, .ref a16, .ref a17, .ref a18, .ref a19, .ref a20, .ref a21, .ref a22, .ref a23, .ref a24, .ref a25, .ref a26, .int 0, .ref a28, .ref a29, .ref a30, .ref a31, .ref a32, .ref a33, .int 0, .ref a35, .ref a36]))] sz) U U.heap)) (va_Qi (fun (r : Int32) (_ : Unit) => r = 0) (fun (_ : Unit) t => kz_E (dC, dI) (va_A [(z, .inr (12, [.ref tm, .int 0, .int 0, .int (-1), .int 0, .int 0, .int 0, .int 0, .int 0, .ref a9, .ref nw, .ref a11, .ref a12, .int 0, .int 0, .int 0, .ref a16, .ref a17, .ref a18, .ref a19, .ref a20, .ref a21, .ref a22, .ref a23, .ref a24, .ref a25, .ref a26, .int 0, .ref a28, .ref a29, .ref a30, .ref a31, .ref a32, .ref a33, .int 0, .ref a35, .ref a36]))] sz) [(z, .inr (12, [.ref tm, .int 0, .int 0, .int (-1), .int 0, .int 0, .int 0, .int 0, .int 0, .ref a9, .ref nw, .ref a11, .ref a12, .int 0, .int 0, .int 0, .ref a16, .ref a17, .ref a18, .ref a19, .ref a20, .ref a21, .ref a22, .ref a23, .ref a24, .ref a25, .ref a26, .int 0, .ref a28, .ref a29, .ref a30, .ref a31, .ref a32, .ref a33, .int 0, .ref a35, .ref a36]))] [] t) (va_A [(z, .inr (12, [.ref tm, .int 0, .int 0, .int (-1), .int 0, .int 0, .int 0, .int 0, .int 0, .ref a9, .ref nw, .ref a11, .ref a12, .int 0, .int 0, .int 0, .ref a16, .ref a17, .ref a18, .ref a19, .ref a20, .ref a21, .ref a22, .ref a23, .ref a24, .ref a25, .ref a26, .int 0, .ref a28, .ref a29, .ref a30, .ref a31, .ref a32, .ref a33, .int 0, .ref a35, .ref a36]))] sz)) 0 0 (va_A [(z, .inr (12, [.ref tm, .int 0, .int 0, .int (-1), .int 0, .int 0, .int 0, .int 0, .int 0, .ref a9, .ref nw, .ref a11, .ref a12, .int 0, .int 0, .int 0, .ref a16, .ref a17, .ref a18, .ref a19, .ref a20, .ref a21, .ref a22, .ref a23, .ref a24, .ref a25, .ref a26, .int 0, .ref a28, .ref a29, .ref a30, .ref a31, .ref a32, .ref a33, .int 0, .ref a35, .ref a36]))] sz) := by
  refine Met.ofW (cc := cX12_takes) (maxL := 5) (ret := (some .boolean)) (by decide) rfl ?_
  intro p e s m args below meth c s₁ B hml hv
  obtain ⟨rfl, ⟨hsz, hP, hK, hD0⟩, hAm⟩ := hv
  have hx := B.exec
  have hb := B.bytes
  have hr := B.returns
  have hts := atoms_spec (ws := (Cond.code yX12_takes cX12_takes 5 (some .boolean) :: wsU)) B.pre
  have hts : ∀ w ∈ wsU, w.before _ s = true := fun w h => hts w (List.mem_cons_of_mem _ h)
  have hown : s.vm.findClass RX12 = some m.cls := findClass_of_methodNamed B.named
  have hlocks := B.notSynchronized
  subst hsz
  have hD := hD0.self (sz := s.heap.size)
  generalize hAe : va_A [(z, .inr (12, [.ref tm, .int 0, .int 0, .int (-1), .int 0, .int 0, .int 0, .int 0, .int 0, .ref a9, .ref nw, .ref a11, .ref a12, .int 0, .int 0, .int 0, .ref a16, .ref a17, .ref a18, .ref a19, .ref a20, .ref a21, .ref a22, .ref a23, .ref a24, .ref a25, .ref a26, .int 0, .ref a28, .ref a29, .ref a30, .ref a31, .ref a32, .ref a33, .int 0, .ref a35, .ref a36]))] s.heap.size = A at hD hAm ⊢
  have hA : ∀ q : Nat, s.heap.size ≤ q → A q := fun q h => by rw [← hAe]; exact Or.inr h
  have hS : va_S A s.heap s.heap [] := va_S.rf
  have hP : va_P (dC, dI) vwCl [(z, .inr (12, [.ref tm, .int 0, .int 0, .int (-1), .int 0, .int 0, .int 0, .int 0, .int 0, .ref a9, .ref nw, .ref a11, .ref a12, .int 0, .int 0, .int 0, .ref a16, .ref a17, .ref a18, .ref a19, .ref a20, .ref a21, .ref a22, .ref a23, .ref a24, .ref a25, .ref a26, .int 0, .ref a28, .ref a29, .ref a30, .ref a31, .ref a32, .ref a33, .int 0, .ref a35, .ref a36]))] s.heap := hP
  have hl := lv_entry ([.ref z, .ref sq]) (n := 5) (Nat.le_of_ble_eq_true rfl)
  rw [lg_entry_eq]
  generalize (lg_sl ([.ref z, .ref sq]) ++ List.replicate (5 - (lg_sl ([.ref z, .ref sq])).length) Slot.unset).toArray = ls at hl ⊢
  have hl : lv_has ls 5 [(0, .ref z), (1, .ref sq)] := hl
  refine lv_aload_n hx hb dX12_takes_0 rfl (lv_at hl 0 rfl) ?_
  have hPc := hP.sub (ws' := [(z, .inr (12, [.ref tm, .int 0, .int 0, .int (-1), .int 0, .int 0, .int 0, .int 0, .int 0, .ref a9, .ref nw, .ref a11, .ref a12, .int 0, .int 0, .int 0, .ref a16, .ref a17, .ref a18, .ref a19, .ref a20, .ref a21, .ref a22, .ref a23, .ref a24, .ref a25, .ref a26, .int 0, .ref a28, .ref a29, .ref a30, .ref a31, .ref a32, .ref a33, .int 0, .ref a35, .ref a36]))]) [0] rfl
  have hDc := hD.sub (ws' := [(z, .inr (12, [.ref tm, .int 0, .int 0, .int (-1), .int 0, .int 0, .int 0, .int 0, .int 0, .ref a9, .ref nw, .ref a11, .ref a12, .int 0, .int 0, .int 0, .ref a16, .ref a17, .ref a18, .ref a19, .ref a20, .ref a21, .ref a22, .ref a23, .ref a24, .ref a25, .ref a26, .int 0, .ref a28, .ref a29, .ref a30, .ref a31, .ref a32, .ref a33, .int 0, .ref a35, .ref a36]))]) [0] (by decide) rfl
  have hKc := hK.sub (tys' := []) [] rfl
  have hFc := va_free (wc := [(z, .inr (12, [.ref tm, .int 0, .int 0, .int (-1), .int 0, .int 0, .int 0, .int 0, .int 0, .ref a9, .ref nw, .ref a11, .ref a12, .int 0, .int 0, .int 0, .ref a16, .ref a17, .ref a18, .ref a19, .ref a20, .ref a21, .ref a22, .ref a23, .ref a24, .ref a25, .ref a26, .int 0, .ref a28, .ref a29, .ref a30, .ref a31, .ref a32, .ref a33, .int 0, .ref a35, .ref a36]))]) hD hS hA [0] rfl
  refine va_calli (va_runV (As := []) (rest := []) ⟨hx, hb, hml, hown, hts⟩ (c_X12_next l dC dI (z) (tm) (a9) (nw) (a11) (a12) (a16) (a17) (a18) (a19) (a20) (a21) (a22) (a23) (a24) (a25) (a26) (a28) (a29) (a30) (a31) (a32) (a33) (a35) (a36) ((-1)) s.heap.size) (cwV 0 hts (kz_gV qw_610 qw_611 qw_612 qw_5 qw_613) rfl rfl rfl (by decide +kernel) ⟨Nat.le_of_ble_eq_true rfl, Nat.le_of_ble_eq_true rfl⟩) (⟨(kz_preS hPc hKc hDc).1, (va_recv hKc hPc (ci := 12) (q0 := 0) rfl rfl), (kz_preS hPc hKc hDc).2⟩) rfl rfl hl.1 rfl (lv_room (Nat.le_of_ble_eq_true rfl)) dX12_takes_1 ⟨Nat.le_of_ble_eq_true rfl, Nat.le_of_ble_eq_true rfl⟩) hS (fun q _ h => hFc q h) hFc (fun r_1 u_2 t H1 locs ht hvm hw hB hz1 hk1 hS => ?_)
  try dsimp only at hw
  obtain ⟨hP1, hK1, hD1⟩ := hB
  rw [ht] at hP1
  have hK1 := va_K.moved hvm.symm hK1
  obtain ⟨hP, hD⟩ := va_join (wr := []) (w1 := [(z, .inr (12, [.ref tm, .int 0, .int 0, .int (-1), .int 0, .int 0, .int 0, .int 0, .int 0, .ref a9, .ref nw, .ref a11, .ref a12, .int 0, .int 0, .int 0, .ref a16, .ref a17, .ref a18, .ref a19, .ref a20, .ref a21, .ref a22, .ref a23, .ref a24, .ref a25, .ref a26, .int 0, .ref a28, .ref a29, .ref a30, .ref a31, .ref a32, .ref a33, .int 0, .ref a35, .ref a36]))]) hP hD [0] [] rfl rfl (by decide) (by decide) hk1 hFc hP1 hD1
  have hK := (hK.sub (tys' := []) [] rfl).app hK1
  generalize H1 = H at hP hS ⊢
  have hP : va_P (dC, dI) vwCl [(z, .inr (12, [.ref tm, .int 0, .int 0, .int (-1), .int 0, .int 0, .int 0, .int 0, .int 0, .ref a9, .ref nw, .ref a11, .ref a12, .int 0, .int 0, .int 0, .ref a16, .ref a17, .ref a18, .ref a19, .ref a20, .ref a21, .ref a22, .ref a23, .ref a24, .ref a25, .ref a26, .int 0, .ref a28, .ref a29, .ref a30, .ref a31, .ref a32, .ref a33, .int 0, .ref a35, .ref a36]))] H := hP
  have hD : va_D A [(z, .inr (12, [.ref tm, .int 0, .int 0, .int (-1), .int 0, .int 0, .int 0, .int 0, .int 0, .ref a9, .ref nw, .ref a11, .ref a12, .int 0, .int 0, .int 0, .ref a16, .ref a17, .ref a18, .ref a19, .ref a20, .ref a21, .ref a22, .ref a23, .ref a24, .ref a25, .ref a26, .int 0, .ref a28, .ref a29, .ref a30, .ref a31, .ref a32, .ref a33, .int 0, .ref a35, .ref a36]))] := hD
  have hK : va_K (dC, dI) vwCl [] s := hK
  obtain rfl : r_1 = (-1) := hw
  refine lv_pop hx hb dX12_takes_4 rfl ?_
  refine lv_iconst (v := 0) hx hb dX12_takes_5 (by decide) ?_
  refine lv_istore_n (lv' := [(2, .int 0), (0, .ref z), (1, .ref sq)]) hx hb dX12_takes_6 rfl hl (by decide) rfl (fun ls hl => ?_)
  refine lv_aload_n hx hb dX12_takes_7 rfl (lv_at hl 1 rfl) ?_
  refine va_get (D := (dC, dI)) (ci := 12) (v := .int 0) (C := RX12) (T := TX12) (N := 37) hx hb hts inlX12 hown hK hP 0 rfl rfl 2 (by decide) (hts _ qw_597) (fun _ h9 => h9) rfl dX12_takes_8 ?_
  refine lv_iload_n hx hb dX12_takes_11 rfl (lv_at hl 0 rfl) ?_
  refine lv_iadd hx hb dX12_takes_12 ?_
  refine kz_topi (y := 0) (by decide) ?_
  refine lv_aload_n hx hb dX12_takes_13 rfl (lv_at hl 1 rfl) ?_
  refine va_get (D := (dC, dI)) (ci := 12) (v := .int 0) (C := RX12) (T := TX12) (N := 37) hx hb hts inlX12 hown hK hP 0 rfl rfl 1 (by decide) (hts _ qw_199) (fun _ h9 => h9) rfl dX12_takes_14 ?_
  refine lv_icmp_ge (tgt := 50) hx hb dX12_takes_17 (by decide) (fun _ => ?_) (fun c9 => absurd (by decide) c9)
  refine lv_aload_n hx hb dX12_takes_50 rfl (lv_at hl 1 rfl) ?_
  have hPc := hP.sub (ws' := [(z, .inr (12, [.ref tm, .int 0, .int 0, .int (-1), .int 0, .int 0, .int 0, .int 0, .int 0, .ref a9, .ref nw, .ref a11, .ref a12, .int 0, .int 0, .int 0, .ref a16, .ref a17, .ref a18, .ref a19, .ref a20, .ref a21, .ref a22, .ref a23, .ref a24, .ref a25, .ref a26, .int 0, .ref a28, .ref a29, .ref a30, .ref a31, .ref a32, .ref a33, .int 0, .ref a35, .ref a36]))]) [0] rfl
  have hDc := hD.sub (ws' := [(z, .inr (12, [.ref tm, .int 0, .int 0, .int (-1), .int 0, .int 0, .int 0, .int 0, .int 0, .ref a9, .ref nw, .ref a11, .ref a12, .int 0, .int 0, .int 0, .ref a16, .ref a17, .ref a18, .ref a19, .ref a20, .ref a21, .ref a22, .ref a23, .ref a24, .ref a25, .ref a26, .int 0, .ref a28, .ref a29, .ref a30, .ref a31, .ref a32, .ref a33, .int 0, .ref a35, .ref a36]))]) [0] (by decide) rfl
  have hKc := hK.sub (tys' := []) [] rfl
  have hFc := va_free (wc := [(z, .inr (12, [.ref tm, .int 0, .int 0, .int (-1), .int 0, .int 0, .int 0, .int 0, .int 0, .ref a9, .ref nw, .ref a11, .ref a12, .int 0, .int 0, .int 0, .ref a16, .ref a17, .ref a18, .ref a19, .ref a20, .ref a21, .ref a22, .ref a23, .ref a24, .ref a25, .ref a26, .int 0, .ref a28, .ref a29, .ref a30, .ref a31, .ref a32, .ref a33, .int 0, .ref a35, .ref a36]))]) hD hS hA [0] rfl
  refine va_calli (va_runV (As := []) (rest := []) ⟨hx, hb, hml, hown, hts⟩ (c_X12_isRight_y l dC dI (z) (tm) (a9) (nw) (a11) (a12) (a16) (a17) (a18) (a19) (a20) (a21) (a22) (a23) (a24) (a25) (a26) (a28) (a29) (a30) (a31) (a32) (a33) (a35) (a36) H.size) (cwV 0 hts (kz_gV qw_627 qw_628 qw_629 qw_5 qw_630) rfl rfl rfl (by decide +kernel) ⟨Nat.le_of_ble_eq_true rfl, Nat.le_of_ble_eq_true rfl⟩) (⟨(kz_preS hPc hKc hDc).1, (va_recv hKc hPc (ci := 12) (q0 := 0) rfl rfl), (kz_preS hPc hKc hDc).2⟩) rfl rfl hl.1 rfl (lv_room (Nat.le_of_ble_eq_true rfl)) dX12_takes_51 ⟨Nat.le_of_ble_eq_true rfl, Nat.le_of_ble_eq_true rfl⟩) hS (fun q _ h => hFc q h) hFc (fun r_3 u_4 t H1 locs ht hvm hw hB hz1 hk1 hS => ?_)
  try dsimp only at hw
  obtain ⟨hP1, hK1, hD1⟩ := hB
  rw [ht] at hP1
  have hK1 := va_K.moved hvm.symm hK1
  obtain ⟨hP, hD⟩ := va_join (wr := []) (w1 := [(z, .inr (12, [.ref tm, .int 0, .int 0, .int (-1), .int 0, .int 0, .int 0, .int 0, .int 0, .ref a9, .ref nw, .ref a11, .ref a12, .int 0, .int 0, .int 0, .ref a16, .ref a17, .ref a18, .ref a19, .ref a20, .ref a21, .ref a22, .ref a23, .ref a24, .ref a25, .ref a26, .int 0, .ref a28, .ref a29, .ref a30, .ref a31, .ref a32, .ref a33, .int 0, .ref a35, .ref a36]))]) hP hD [0] [] rfl rfl (by decide) (by decide) hk1 hFc hP1 hD1
  have hK := (hK.sub (tys' := []) [] rfl).app hK1
  generalize H1 = H at hP hS ⊢
  have hP : va_P (dC, dI) vwCl [(z, .inr (12, [.ref tm, .int 0, .int 0, .int (-1), .int 0, .int 0, .int 0, .int 0, .int 0, .ref a9, .ref nw, .ref a11, .ref a12, .int 0, .int 0, .int 0, .ref a16, .ref a17, .ref a18, .ref a19, .ref a20, .ref a21, .ref a22, .ref a23, .ref a24, .ref a25, .ref a26, .int 0, .ref a28, .ref a29, .ref a30, .ref a31, .ref a32, .ref a33, .int 0, .ref a35, .ref a36]))] H := hP
  have hD : va_D A [(z, .inr (12, [.ref tm, .int 0, .int 0, .int (-1), .int 0, .int 0, .int 0, .int 0, .int 0, .ref a9, .ref nw, .ref a11, .ref a12, .int 0, .int 0, .int 0, .ref a16, .ref a17, .ref a18, .ref a19, .ref a20, .ref a21, .ref a22, .ref a23, .ref a24, .ref a25, .ref a26, .int 0, .ref a28, .ref a29, .ref a30, .ref a31, .ref a32, .ref a33, .int 0, .ref a35, .ref a36]))] := hD
  have hK : va_K (dC, dI) vwCl [] s := hK
  obtain rfl : r_3 = 1 := hw
  refine lv_if_eq (tgt := 69) hx hb dX12_takes_54 (by decide) (fun c9 => absurd c9 (by decide)) (fun _ => ?_)
  refine lv_iload_n hx hb dX12_takes_57 rfl (lv_at hl 0 rfl) ?_
  refine lv_aload_n hx hb dX12_takes_58 rfl (lv_at hl 2 rfl) ?_
  have hPc := hP.sub (ws' := []) [] rfl
  have hDc := hD.sub (ws' := []) [] (by decide) rfl
  have hKc := hK.sub (tys' := []) [] rfl
  have hFc := va_free (wc := []) hD hS hA [] rfl
  refine va_calli (va_runV (As := []) (rest := [.int 0]) ⟨hx, hb, hml, hown, hts⟩ (c_J0_length_8abf5 l dC dI (sq) (sv) H.size) (cwV 0 hts (kz_gV qw_631 qw_254 qw_255 qw_256 qw_257) rfl rfl rfl (by decide +kernel) ⟨Nat.le_of_ble_eq_true rfl, Nat.le_of_ble_eq_true rfl⟩) (⟨(kz_preT hPc hKc hDc hAm hS hFc).1, (kz_recvT hAm hS), (kz_preT hPc hKc hDc hAm hS hFc).2⟩) rfl rfl hl.1 rfl (lv_room (Nat.le_of_ble_eq_true rfl)) dX12_takes_59 ⟨Nat.le_of_ble_eq_true rfl, Nat.le_of_ble_eq_true rfl⟩) hS (fun q _ h => hFc q h) hFc (fun r_5 u_6 t H1 locs ht hvm hw hB hz1 hk1 hS => ?_)
  try dsimp only at hw
  have hP1 : va_P (dC, dI) vwCl [] H1 := kz_P0
  have hD1 : va_D (va_A [] H.size) [] := kz_D0
  have hK1 : va_K (dC, dI) vwCl [] s := hK.sub [] rfl
  obtain ⟨hP, hD⟩ := va_join (wr := [(z, .inr (12, [.ref tm, .int 0, .int 0, .int (-1), .int 0, .int 0, .int 0, .int 0, .int 0, .ref a9, .ref nw, .ref a11, .ref a12, .int 0, .int 0, .int 0, .ref a16, .ref a17, .ref a18, .ref a19, .ref a20, .ref a21, .ref a22, .ref a23, .ref a24, .ref a25, .ref a26, .int 0, .ref a28, .ref a29, .ref a30, .ref a31, .ref a32, .ref a33, .int 0, .ref a35, .ref a36]))]) (w1 := []) hP hD [] [0] rfl rfl (by decide) (by decide) hk1 hFc hP1 hD1
  have hK := (hK.sub (tys' := []) [] rfl).app hK1
  generalize H1 = H at hP hS ⊢
  have hP : va_P (dC, dI) vwCl [(z, .inr (12, [.ref tm, .int 0, .int 0, .int (-1), .int 0, .int 0, .int 0, .int 0, .int 0, .ref a9, .ref nw, .ref a11, .ref a12, .int 0, .int 0, .int 0, .ref a16, .ref a17, .ref a18, .ref a19, .ref a20, .ref a21, .ref a22, .ref a23, .ref a24, .ref a25, .ref a26, .int 0, .ref a28, .ref a29, .ref a30, .ref a31, .ref a32, .ref a33, .int 0, .ref a35, .ref a36]))] H := hP
  have hD : va_D A [(z, .inr (12, [.ref tm, .int 0, .int 0, .int (-1), .int 0, .int 0, .int 0, .int 0, .int 0, .ref a9, .ref nw, .ref a11, .ref a12, .int 0, .int 0, .int 0, .ref a16, .ref a17, .ref a18, .ref a19, .ref a20, .ref a21, .ref a22, .ref a23, .ref a24, .ref a25, .ref a26, .int 0, .ref a28, .ref a29, .ref a30, .ref a31, .ref a32, .ref a33, .int 0, .ref a35, .ref a36]))] := hD
  have hK : va_K (dC, dI) vwCl [] s := hK
  obtain rfl : r_5 = 4 := hw
  refine lv_icmp_ne (tgt := 69) hx hb dX12_takes_62 (by decide) (fun _ => ?_) (fun c9 => absurd c9 (by decide))
  refine lv_iconst (v := 0) hx hb dX12_takes_69 (by decide) ?_
  refine lv_istore_n (lv' := [(3, .int 0), (2, .int 0), (0, .ref z), (1, .ref sq)]) hx hb dX12_takes_70 rfl hl (by decide) rfl (fun ls hl => ?_)
  refine lv_iconst (v := 0) hx hb dX12_takes_71 (by decide) ?_
  refine lv_istore (lv' := [(4, .int 0), (3, .int 0), (2, .int 0), (0, .ref z), (1, .ref sq)]) hx hb dX12_takes_72 hl (by decide) rfl (fun ls hl => ?_)
  refine lv_iload hx hb dX12_takes_74 (lv_at hl 0 rfl) ?_
  refine lv_aload_n hx hb dX12_takes_76 rfl (lv_at hl 4 rfl) ?_
  have hPc := hP.sub (ws' := []) [] rfl
  have hDc := hD.sub (ws' := []) [] (by decide) rfl
  have hKc := hK.sub (tys' := []) [] rfl
  have hFc := va_free (wc := []) hD hS hA [] rfl
  refine va_calli (va_runV (As := []) (rest := [.int 0]) ⟨hx, hb, hml, hown, hts⟩ (c_J0_length_8abf5 l dC dI (sq) (sv) H.size) (cwV 0 hts (kz_gV qw_631 qw_254 qw_255 qw_256 qw_257) rfl rfl rfl (by decide +kernel) ⟨Nat.le_of_ble_eq_true rfl, Nat.le_of_ble_eq_true rfl⟩) (⟨(kz_preT hPc hKc hDc hAm hS hFc).1, (kz_recvT hAm hS), (kz_preT hPc hKc hDc hAm hS hFc).2⟩) rfl rfl hl.1 rfl (lv_room (Nat.le_of_ble_eq_true rfl)) dX12_takes_77 ⟨Nat.le_of_ble_eq_true rfl, Nat.le_of_ble_eq_true rfl⟩) hS (fun q _ h => hFc q h) hFc (fun r_7 u_8 t H1 locs ht hvm hw hB hz1 hk1 hS => ?_)
  try dsimp only at hw
  have hP1 : va_P (dC, dI) vwCl [] H1 := kz_P0
  have hD1 : va_D (va_A [] H.size) [] := kz_D0
  have hK1 : va_K (dC, dI) vwCl [] s := hK.sub [] rfl
  obtain ⟨hP, hD⟩ := va_join (wr := [(z, .inr (12, [.ref tm, .int 0, .int 0, .int (-1), .int 0, .int 0, .int 0, .int 0, .int 0, .ref a9, .ref nw, .ref a11, .ref a12, .int 0, .int 0, .int 0, .ref a16, .ref a17, .ref a18, .ref a19, .ref a20, .ref a21, .ref a22, .ref a23, .ref a24, .ref a25, .ref a26, .int 0, .ref a28, .ref a29, .ref a30, .ref a31, .ref a32, .ref a33, .int 0, .ref a35, .ref a36]))]) (w1 := []) hP hD [] [0] rfl rfl (by decide) (by decide) hk1 hFc hP1 hD1
  have hK := (hK.sub (tys' := []) [] rfl).app hK1
  generalize H1 = H at hP hS ⊢
  have hP : va_P (dC, dI) vwCl [(z, .inr (12, [.ref tm, .int 0, .int 0, .int (-1), .int 0, .int 0, .int 0, .int 0, .int 0, .ref a9, .ref nw, .ref a11, .ref a12, .int 0, .int 0, .int 0, .ref a16, .ref a17, .ref a18, .ref a19, .ref a20, .ref a21, .ref a22, .ref a23, .ref a24, .ref a25, .ref a26, .int 0, .ref a28, .ref a29, .ref a30, .ref a31, .ref a32, .ref a33, .int 0, .ref a35, .ref a36]))] H := hP
  have hD : va_D A [(z, .inr (12, [.ref tm, .int 0, .int 0, .int (-1), .int 0, .int 0, .int 0, .int 0, .int 0, .ref a9, .ref nw, .ref a11, .ref a12, .int 0, .int 0, .int 0, .ref a16, .ref a17, .ref a18, .ref a19, .ref a20, .ref a21, .ref a22, .ref a23, .ref a24, .ref a25, .ref a26, .int 0, .ref a28, .ref a29, .ref a30, .ref a31, .ref a32, .ref a33, .int 0, .ref a35, .ref a36]))] := hD
  have hK : va_K (dC, dI) vwCl [] s := hK
  obtain rfl : r_7 = 4 := hw
  refine lv_icmp_ge (tgt := 120) hx hb dX12_takes_80 (by decide) (fun c9 => absurd c9 (by decide)) (fun _ => ?_)
  refine lv_iload_n hx hb dX12_takes_83 rfl (lv_at hl 1 rfl) ?_
  refine lv_if_eq (tgt := 120) hx hb dX12_takes_84 (by decide) (fun _ => ?_) (fun c9 => absurd (by decide) c9)
  refine lv_aload_n hx hb dX12_takes_120 rfl (lv_at hl 3 rfl) ?_
  refine lv_dup hx hb dX12_takes_121 rfl ?_
  refine va_get (D := (dC, dI)) (ci := 12) (v := .int 0) (C := RX12) (T := TX12) (N := 37) hx hb hts inlX12 hown hK hP 0 rfl rfl 2 (by decide) (hts _ qw_597) (fun _ h9 => h9) rfl dX12_takes_122 ?_
  refine lv_iload_n hx hb dX12_takes_125 rfl (lv_at hl 1 rfl) ?_
  refine lv_if_eq (tgt := 133) hx hb dX12_takes_126 (by decide) (fun _ => ?_) (fun c9 => absurd (by decide) c9)
  refine lv_iconst (v := 0) hx hb dX12_takes_133 (by decide) ?_
  refine lv_iadd hx hb dX12_takes_134 ?_
  refine kz_topi (y := 0) (by decide) ?_
  refine va_put (D := (dC, dI)) (ci := 12) (v := .int 0) (ty := .int) (C := RX12) (T := TX12) (N := 37) hx hb hts inlX12 tyX12 tyX12_ok nmX12 hown hK hP hD hS 0 rfl rfl 2 (by decide) (hts _ qw_597) (fun _ h9 => h9) rfl (by decide +kernel) rfl rfl (Nat.le_of_ble_eq_true rfl) dX12_takes_135 (fun H locs hP hD hS => ?_)
  have hP : va_P (dC, dI) vwCl [(z, .inr (12, [.ref tm, .int 0, .int 0, .int (-1), .int 0, .int 0, .int 0, .int 0, .int 0, .ref a9, .ref nw, .ref a11, .ref a12, .int 0, .int 0, .int 0, .ref a16, .ref a17, .ref a18, .ref a19, .ref a20, .ref a21, .ref a22, .ref a23, .ref a24, .ref a25, .ref a26, .int 0, .ref a28, .ref a29, .ref a30, .ref a31, .ref a32, .ref a33, .int 0, .ref a35, .ref a36]))] H := hP
  have hD : va_D A [(z, .inr (12, [.ref tm, .int 0, .int 0, .int (-1), .int 0, .int 0, .int 0, .int 0, .int 0, .ref a9, .ref nw, .ref a11, .ref a12, .int 0, .int 0, .int 0, .ref a16, .ref a17, .ref a18, .ref a19, .ref a20, .ref a21, .ref a22, .ref a23, .ref a24, .ref a25, .ref a26, .int 0, .ref a28, .ref a29, .ref a30, .ref a31, .ref a32, .ref a33, .int 0, .ref a35, .ref a36]))] := hD
  refine lv_iload_n hx hb dX12_takes_138 rfl (lv_at hl 1 rfl) ?_
  have hP9 := hP.sub (ws' := [(z, .inr (12, [.ref tm, .int 0, .int 0, .int (-1), .int 0, .int 0, .int 0, .int 0, .int 0, .ref a9, .ref nw, .ref a11, .ref a12, .int 0, .int 0, .int 0, .ref a16, .ref a17, .ref a18, .ref a19, .ref a20, .ref a21, .ref a22, .ref a23, .ref a24, .ref a25, .ref a26, .int 0, .ref a28, .ref a29, .ref a30, .ref a31, .ref a32, .ref a33, .int 0, .ref a35, .ref a36]))]) [0] rfl
  have hD9 := hD.sub (ws' := [(z, .inr (12, [.ref tm, .int 0, .int 0, .int (-1), .int 0, .int 0, .int 0, .int 0, .int 0, .ref a9, .ref nw, .ref a11, .ref a12, .int 0, .int 0, .int 0, .ref a16, .ref a17, .ref a18, .ref a19, .ref a20, .ref a21, .ref a22, .ref a23, .ref a24, .ref a25, .ref a26, .int 0, .ref a28, .ref a29, .ref a30, .ref a31, .ref a32, .ref a33, .int 0, .ref a35, .ref a36]))]) [0] (by decide) rfl
  have hK9 := hK.sub (tys' := []) [] rfl
  exact W.zret (v := 0) hx hb hr rfl (fun t ht hW => ⟨⟨0, (), rfl, rfl, ⟨by rw [ht]; exact hP9, va_K.moved hW.alike hK9, hD9⟩⟩, hS.F ht⟩) hS.2.2 dX12_takes_139
set_option maxHeartbeats 4000000 in
set_option maxRecDepth 100000 in
theorem c_X12_readsFile (l : Launch) (dC : Nat → ClassId) (dI : Nat → Nat → Nat) (z : Nat) (tm : Nat) (a9 : Nat) (nw : Nat) (a11 : Nat) (a12 : Nat) (a16 : Nat) (a17 : Nat) (a18 : Nat) (a19 : Nat) (a20 : Nat) (a21 : Nat) (a22 : Nat) (a23 : Nat) (a24 : Nat) (a25 : Nat) (a26 : Nat) (a28 : Nat) (a29 : Nat) (a30 : Nat) (a31 : Nat) (a32 : Nat) (a33 : Nat) (a35 : Nat) (a36 : Nat) (sq : Nat) (sv : Nat) (sz : Nat) : Met l yX12_readsFile (Cond.code yX12_readsFile cX12_readsFile 2 none :: wsU) ({ frames := 3, cells := 0, slots := 0, locals := 65 }) (va_Pc [.ref z] (fun U => kz_B (dC, dI) sz [(z, .inr (12, [.ref tm, .int 0, .int 0, .int (-1), .int 0, .int 0, .int 0, .int 0, .int 0, .ref a9, .ref nw, .ref a11, .ref a12, .int 0, .int 0, .int 0, .ref a16, .ref a17, .ref a18, .ref a19, .ref a20, .ref a21, .ref a22, .ref a23, .ref a24, .ref a25, .ref a26, .int 0, .ref a28, .ref a29, .ref a30, .ref a31, .ref a32, .ref a33, .int 0, .ref a35, .ref a36]))] [] U ∧ kz_St RX12 164 sq sv (va_A [(z, .inr (12, [.ref tm, .int 0, .int 0, .int (-1), .int 0, .int 0, .int 0, .int 0, .int 0, .ref a9, .ref nw, .ref a11, .ref a12, .int 0, .int 0, .int 0, .ref a16, .ref a17, .ref a18, .ref a19, .ref a20, .ref a21, .ref a22, .ref a23, .ref a24, .ref a25, .ref a26, .int 0, .ref a28, .ref a29, .ref a30, .ref a31, .ref a32, .ref a33, .int 0, .ref a35, .ref a36]))] sz) U)) (va_Qv (fun (_ : Unit) => True) (fun (_ : Unit) t => kz_E (dC, dI) (va_A [(z, .inr (12, [.ref tm, .int 0, .int 0, .int (-1), .int 0, .int 0, .int 0, .int 0, .int 0, .ref a9, .ref nw, .ref a11, .ref a12, .int 0, .int 0, .int 0, .ref a16, .ref a17, .ref a18, .ref a19, .ref a20, .ref a21, .ref a22, .ref a23, .ref a24, .ref a25, .ref a26, .int 0, .ref a28, .ref a29, .ref a30, .ref a31, .ref a32, .ref a33, .int 0, .ref a35, .ref a36]))] sz) [(z, .inr (12, [.ref tm, .int 0, .int 0, .int 1, .int 0, .int 0, .int 0, .int 0, .int 0, .ref a9, .ref nw, .ref a11, .ref a12, .int 0, .int 0, .int 0, .ref a16, .ref a17, .ref a18, .ref a19, .ref a20, .ref a21, .ref a22, .ref a23, .ref a24, .ref a25, .ref a26, .int 0, .ref a28, .ref a29, .ref a30, .ref a31, .ref a32, .ref a33, .int 0, .ref a35, .ref a36]))] [] t) (va_A [(z, .inr (12, [.ref tm, .int 0, .int 0, .int (-1), .int 0, .int 0, .int 0, .int 0, .int 0, .ref a9, .ref nw, .ref a11, .ref a12, .int 0, .int 0, .int 0, .ref a16, .ref a17, .ref a18, .ref a19, .ref a20, .ref a21, .ref a22, .ref a23, .ref a24, .ref a25, .ref a26, .int 0, .ref a28, .ref a29, .ref a30, .ref a31, .ref a32, .ref a33, .int 0, .ref a35, .ref a36]))] sz)) 0 0 (va_A [(z, .inr (12, [.ref tm, .int 0, .int 0, .int (-1), .int 0, .int 0, .int 0, .int 0, .int 0, .ref a9, .ref nw, .ref a11, .ref a12, .int 0, .int 0, .int 0, .ref a16, .ref a17, .ref a18, .ref a19, .ref a20, .ref a21, .ref a22, .ref a23, .ref a24, .ref a25, .ref a26, .int 0, .ref a28, .ref a29, .ref a30, .ref a31, .ref a32, .ref a33, .int 0, .ref a35, .ref a36]))] sz) := by
  refine Met.ofW (cc := cX12_readsFile) (maxL := 2) (ret := none) (by decide) rfl ?_
  intro p e s m args below meth c s₁ B hml hv
  obtain ⟨rfl, ⟨hsz, hP, hK, hD0⟩, hAm⟩ := hv
  have hx := B.exec
  have hb := B.bytes
  have hr := B.returns
  have hts := atoms_spec (ws := (Cond.code yX12_readsFile cX12_readsFile 2 none :: wsU)) B.pre
  have hts : ∀ w ∈ wsU, w.before _ s = true := fun w h => hts w (List.mem_cons_of_mem _ h)
  have hown : s.vm.findClass RX12 = some m.cls := findClass_of_methodNamed B.named
  have hlocks := B.notSynchronized
  subst hsz
  have hD := hD0.self (sz := s.heap.size)
  generalize hAe : va_A [(z, .inr (12, [.ref tm, .int 0, .int 0, .int (-1), .int 0, .int 0, .int 0, .int 0, .int 0, .ref a9, .ref nw, .ref a11, .ref a12, .int 0, .int 0, .int 0, .ref a16, .ref a17, .ref a18, .ref a19, .ref a20, .ref a21, .ref a22, .ref a23, .ref a24, .ref a25, .ref a26, .int 0, .ref a28, .ref a29, .ref a30, .ref a31, .ref a32, .ref a33, .int 0, .ref a35, .ref a36]))] s.heap.size = A at hD hAm ⊢
  have hA : ∀ q : Nat, s.heap.size ≤ q → A q := fun q h => by rw [← hAe]; exact Or.inr h
  have hS : va_S A s.heap s.heap [] := va_S.rf
  have hP : va_P (dC, dI) vwCl [(z, .inr (12, [.ref tm, .int 0, .int 0, .int (-1), .int 0, .int 0, .int 0, .int 0, .int 0, .ref a9, .ref nw, .ref a11, .ref a12, .int 0, .int 0, .int 0, .ref a16, .ref a17, .ref a18, .ref a19, .ref a20, .ref a21, .ref a22, .ref a23, .ref a24, .ref a25, .ref a26, .int 0, .ref a28, .ref a29, .ref a30, .ref a31, .ref a32, .ref a33, .int 0, .ref a35, .ref a36]))] s.heap := hP
  have hl := lv_entry ([.ref z]) (n := 2) (Nat.le_of_ble_eq_true rfl)
  rw [lg_entry_eq]
  generalize (lg_sl ([.ref z]) ++ List.replicate (2 - (lg_sl ([.ref z])).length) Slot.unset).toArray = ls at hl ⊢
  have hl : lv_has ls 2 [(0, .ref z)] := hl
  refine lv_aload_n hx hb dX12_readsFile_0 rfl (lv_at hl 0 rfl) ?_
  have hPc := hP.sub (ws' := [(z, .inr (12, [.ref tm, .int 0, .int 0, .int (-1), .int 0, .int 0, .int 0, .int 0, .int 0, .ref a9, .ref nw, .ref a11, .ref a12, .int 0, .int 0, .int 0, .ref a16, .ref a17, .ref a18, .ref a19, .ref a20, .ref a21, .ref a22, .ref a23, .ref a24, .ref a25, .ref a26, .int 0, .ref a28, .ref a29, .ref a30, .ref a31, .ref a32, .ref a33, .int 0, .ref a35, .ref a36]))]) [0] rfl
  have hDc := hD.sub (ws' := [(z, .inr (12, [.ref tm, .int 0, .int 0, .int (-1), .int 0, .int 0, .int 0, .int 0, .int 0, .ref a9, .ref nw, .ref a11, .ref a12, .int 0, .int 0, .int 0, .ref a16, .ref a17, .ref a18, .ref a19, .ref a20, .ref a21, .ref a22, .ref a23, .ref a24, .ref a25, .ref a26, .int 0, .ref a28, .ref a29, .ref a30, .ref a31, .ref a32, .ref a33, .int 0, .ref a35, .ref a36]))]) [0] (by decide) rfl
  have hKc := hK.sub (tys' := []) [] rfl
  have hFc := va_free (wc := [(z, .inr (12, [.ref tm, .int 0, .int 0, .int (-1), .int 0, .int 0, .int 0, .int 0, .int 0, .ref a9, .ref nw, .ref a11, .ref a12, .int 0, .int 0, .int 0, .ref a16, .ref a17, .ref a18, .ref a19, .ref a20, .ref a21, .ref a22, .ref a23, .ref a24, .ref a25, .ref a26, .int 0, .ref a28, .ref a29, .ref a30, .ref a31, .ref a32, .ref a33, .int 0, .ref a35, .ref a36]))]) hD hS hA [0] rfl
  refine va_calli (va_runV (As := []) (rest := []) ⟨hx, hb, hml, hown, hts⟩ (c_X12_next l dC dI (z) (tm) (a9) (nw) (a11) (a12) (a16) (a17) (a18) (a19) (a20) (a21) (a22) (a23) (a24) (a25) (a26) (a28) (a29) (a30) (a31) (a32) (a33) (a35) (a36) ((-1)) s.heap.size) (cwV 0 hts (kz_gV qw_610 qw_611 qw_612 qw_5 qw_613) rfl rfl rfl (by decide +kernel) ⟨Nat.le_of_ble_eq_true rfl, Nat.le_of_ble_eq_true rfl⟩) (⟨(kz_preS hPc hKc hDc).1, (va_recv hKc hPc (ci := 12) (q0 := 0) rfl rfl), (kz_preS hPc hKc hDc).2⟩) rfl rfl hl.1 rfl (lv_room (Nat.le_of_ble_eq_true rfl)) dX12_readsFile_1 ⟨Nat.le_of_ble_eq_true rfl, Nat.le_of_ble_eq_true rfl⟩) hS (fun q _ h => hFc q h) hFc (fun r_1 u_2 t H1 locs ht hvm hw hB hz1 hk1 hS => ?_)
  try dsimp only at hw
  obtain ⟨hP1, hK1, hD1⟩ := hB
  rw [ht] at hP1
  have hK1 := va_K.moved hvm.symm hK1
  obtain ⟨hP, hD⟩ := va_join (wr := []) (w1 := [(z, .inr (12, [.ref tm, .int 0, .int 0, .int (-1), .int 0, .int 0, .int 0, .int 0, .int 0, .ref a9, .ref nw, .ref a11, .ref a12, .int 0, .int 0, .int 0, .ref a16, .ref a17, .ref a18, .ref a19, .ref a20, .ref a21, .ref a22, .ref a23, .ref a24, .ref a25, .ref a26, .int 0, .ref a28, .ref a29, .ref a30, .ref a31, .ref a32, .ref a33, .int 0, .ref a35, .ref a36]))]) hP hD [0] [] rfl rfl (by decide) (by decide) hk1 hFc hP1 hD1
  have hK := (hK.sub (tys' := []) [] rfl).app hK1
  generalize H1 = H at hP hS ⊢
  have hP : va_P (dC, dI) vwCl [(z, .inr (12, [.ref tm, .int 0, .int 0, .int (-1), .int 0, .int 0, .int 0, .int 0, .int 0, .ref a9, .ref nw, .ref a11, .ref a12, .int 0, .int 0, .int 0, .ref a16, .ref a17, .ref a18, .ref a19, .ref a20, .ref a21, .ref a22, .ref a23, .ref a24, .ref a25, .ref a26, .int 0, .ref a28, .ref a29, .ref a30, .ref a31, .ref a32, .ref a33, .int 0, .ref a35, .ref a36]))] H := hP
  have hD : va_D A [(z, .inr (12, [.ref tm, .int 0, .int 0, .int (-1), .int 0, .int 0, .int 0, .int 0, .int 0, .ref a9, .ref nw, .ref a11, .ref a12, .int 0, .int 0, .int 0, .ref a16, .ref a17, .ref a18, .ref a19, .ref a20, .ref a21, .ref a22, .ref a23, .ref a24, .ref a25, .ref a26, .int 0, .ref a28, .ref a29, .ref a30, .ref a31, .ref a32, .ref a33, .int 0, .ref a35, .ref a36]))] := hD
  have hK : va_K (dC, dI) vwCl [] s := hK
  obtain rfl : r_1 = (-1) := hw
  refine lv_pop hx hb dX12_readsFile_4 rfl ?_
  refine lv_aload_n hx hb dX12_readsFile_5 rfl (lv_at hl 0 rfl) ?_
  refine va_get (D := (dC, dI)) (ci := 12) (v := .int 0) (C := RX12) (T := TX12) (N := 37) hx hb hts inlX12 hown hK hP 0 rfl rfl 2 (by decide) (hts _ qw_597) (fun _ h9 => h9) rfl dX12_readsFile_6 ?_
  refine lv_istore_n (lv' := [(1, .int 0), (0, .ref z)]) hx hb dX12_readsFile_9 rfl hl (by decide) rfl (fun ls hl => ?_)
  refine lv_aload_n hx hb dX12_readsFile_10 rfl (lv_at hl 1 rfl) ?_
  refine va_ldcS hx hb hown hAm.1 dX12_readsFile_11 ?_
  have hPc := hP.sub (ws' := [(z, .inr (12, [.ref tm, .int 0, .int 0, .int (-1), .int 0, .int 0, .int 0, .int 0, .int 0, .ref a9, .ref nw, .ref a11, .ref a12, .int 0, .int 0, .int 0, .ref a16, .ref a17, .ref a18, .ref a19, .ref a20, .ref a21, .ref a22, .ref a23, .ref a24, .ref a25, .ref a26, .int 0, .ref a28, .ref a29, .ref a30, .ref a31, .ref a32, .ref a33, .int 0, .ref a35, .ref a36]))]) [0] rfl
  have hDc := hD.sub (ws' := [(z, .inr (12, [.ref tm, .int 0, .int 0, .int (-1), .int 0, .int 0, .int 0, .int 0, .int 0, .ref a9, .ref nw, .ref a11, .ref a12, .int 0, .int 0, .int 0, .ref a16, .ref a17, .ref a18, .ref a19, .ref a20, .ref a21, .ref a22, .ref a23, .ref a24, .ref a25, .ref a26, .int 0, .ref a28, .ref a29, .ref a30, .ref a31, .ref a32, .ref a33, .int 0, .ref a35, .ref a36]))]) [0] (by decide) rfl
  have hKc := hK.sub (tys' := []) [] rfl
  have hFc := va_free (wc := [(z, .inr (12, [.ref tm, .int 0, .int 0, .int (-1), .int 0, .int 0, .int 0, .int 0, .int 0, .ref a9, .ref nw, .ref a11, .ref a12, .int 0, .int 0, .int 0, .ref a16, .ref a17, .ref a18, .ref a19, .ref a20, .ref a21, .ref a22, .ref a23, .ref a24, .ref a25, .ref a26, .int 0, .ref a28, .ref a29, .ref a30, .ref a31, .ref a32, .ref a33, .int 0, .ref a35, .ref a36]))]) hD hS hA [0] rfl
  refine va_calli (va_runV (As := [.ref sq]) (rest := []) ⟨hx, hb, hml, hown, hts⟩ (c_X12_takes l dC dI (z) (tm) (a9) (nw) (a11) (a12) (a16) (a17) (a18) (a19) (a20) (a21) (a22) (a23) (a24) (a25) (a26) (a28) (a29) (a30) (a31) (a32) (a33) (a35) (a36) (sq) (sv) H.size) (cwV 1 hts (kz_gV qw_618 qw_619 qw_620 qw_5 qw_621) rfl rfl rfl (by decide +kernel) ⟨Nat.le_of_ble_eq_true rfl, Nat.le_of_ble_eq_true rfl⟩) (⟨(kz_preT hPc hKc hDc hAm.2 hS hFc).1, (va_recv hKc hPc (ci := 12) (q0 := 0) rfl rfl), (kz_preT hPc hKc hDc hAm.2 hS hFc).2⟩) rfl rfl hl.1 rfl (lv_room (Nat.le_of_ble_eq_true rfl)) dX12_readsFile_13 ⟨Nat.le_of_ble_eq_true rfl, Nat.le_of_ble_eq_true rfl⟩) hS (fun q _ h => hFc q h) hFc (fun r_3 u_4 t H1 locs ht hvm hw hB hz1 hk1 hS => ?_)
  try dsimp only at hw
  obtain ⟨hP1, hK1, hD1⟩ := hB
  rw [ht] at hP1
  have hK1 := va_K.moved hvm.symm hK1
  obtain ⟨hP, hD⟩ := va_join (wr := []) (w1 := [(z, .inr (12, [.ref tm, .int 0, .int 0, .int (-1), .int 0, .int 0, .int 0, .int 0, .int 0, .ref a9, .ref nw, .ref a11, .ref a12, .int 0, .int 0, .int 0, .ref a16, .ref a17, .ref a18, .ref a19, .ref a20, .ref a21, .ref a22, .ref a23, .ref a24, .ref a25, .ref a26, .int 0, .ref a28, .ref a29, .ref a30, .ref a31, .ref a32, .ref a33, .int 0, .ref a35, .ref a36]))]) hP hD [0] [] rfl rfl (by decide) (by decide) hk1 hFc hP1 hD1
  have hK := (hK.sub (tys' := []) [] rfl).app hK1
  generalize H1 = H at hP hS ⊢
  have hP : va_P (dC, dI) vwCl [(z, .inr (12, [.ref tm, .int 0, .int 0, .int (-1), .int 0, .int 0, .int 0, .int 0, .int 0, .ref a9, .ref nw, .ref a11, .ref a12, .int 0, .int 0, .int 0, .ref a16, .ref a17, .ref a18, .ref a19, .ref a20, .ref a21, .ref a22, .ref a23, .ref a24, .ref a25, .ref a26, .int 0, .ref a28, .ref a29, .ref a30, .ref a31, .ref a32, .ref a33, .int 0, .ref a35, .ref a36]))] H := hP
  have hD : va_D A [(z, .inr (12, [.ref tm, .int 0, .int 0, .int (-1), .int 0, .int 0, .int 0, .int 0, .int 0, .ref a9, .ref nw, .ref a11, .ref a12, .int 0, .int 0, .int 0, .ref a16, .ref a17, .ref a18, .ref a19, .ref a20, .ref a21, .ref a22, .ref a23, .ref a24, .ref a25, .ref a26, .int 0, .ref a28, .ref a29, .ref a30, .ref a31, .ref a32, .ref a33, .int 0, .ref a35, .ref a36]))] := hD
  have hK : va_K (dC, dI) vwCl [] s := hK
  obtain rfl : r_3 = 0 := hw
  refine lv_if_ne (tgt := 25) hx hb dX12_readsFile_16 (by decide) (fun c9 => absurd c9 (by decide)) (fun _ => ?_)
  refine lv_aload_n hx hb dX12_readsFile_19 rfl (lv_at hl 1 rfl) ?_
  refine lv_iconst (v := 1) hx hb dX12_readsFile_20 (by decide) ?_
  refine lv_iload_n hx hb dX12_readsFile_21 rfl (lv_at hl 0 rfl) ?_
  have hPc := hP.sub (ws' := [(z, .inr (12, [.ref tm, .int 0, .int 0, .int (-1), .int 0, .int 0, .int 0, .int 0, .int 0, .ref a9, .ref nw, .ref a11, .ref a12, .int 0, .int 0, .int 0, .ref a16, .ref a17, .ref a18, .ref a19, .ref a20, .ref a21, .ref a22, .ref a23, .ref a24, .ref a25, .ref a26, .int 0, .ref a28, .ref a29, .ref a30, .ref a31, .ref a32, .ref a33, .int 0, .ref a35, .ref a36]))]) [0] rfl
  have hDc := hD.sub (ws' := [(z, .inr (12, [.ref tm, .int 0, .int 0, .int (-1), .int 0, .int 0, .int 0, .int 0, .int 0, .ref a9, .ref nw, .ref a11, .ref a12, .int 0, .int 0, .int 0, .ref a16, .ref a17, .ref a18, .ref a19, .ref a20, .ref a21, .ref a22, .ref a23, .ref a24, .ref a25, .ref a26, .int 0, .ref a28, .ref a29, .ref a30, .ref a31, .ref a32, .ref a33, .int 0, .ref a35, .ref a36]))]) [0] (by decide) rfl
  have hKc := hK.sub (tys' := []) [] rfl
  have hFc := va_free (wc := [(z, .inr (12, [.ref tm, .int 0, .int 0, .int (-1), .int 0, .int 0, .int 0, .int 0, .int 0, .ref a9, .ref nw, .ref a11, .ref a12, .int 0, .int 0, .int 0, .ref a16, .ref a17, .ref a18, .ref a19, .ref a20, .ref a21, .ref a22, .ref a23, .ref a24, .ref a25, .ref a26, .int 0, .ref a28, .ref a29, .ref a30, .ref a31, .ref a32, .ref a33, .int 0, .ref a35, .ref a36]))]) hD hS hA [0] rfl
  refine va_callv (va_runV (As := [.int 1, .int 0]) (rest := []) ⟨hx, hb, hml, hown, hts⟩ (c_X12_fails l dC dI (z) (tm) (a9) (nw) (a11) (a12) (a16) (a17) (a18) (a19) (a20) (a21) (a22) (a23) (a24) (a25) (a26) (a28) (a29) (a30) (a31) (a32) (a33) (a35) (a36) H.size) (cwV 2 hts (kz_gV qw_633 qw_634 qw_635 qw_5 qw_636) rfl rfl rfl (by decide +kernel) ⟨Nat.le_of_ble_eq_true rfl, Nat.le_of_ble_eq_true rfl⟩) (⟨(kz_preS hPc hKc hDc).1, (va_recv hKc hPc (ci := 12) (q0 := 0) rfl rfl), (kz_preS hPc hKc hDc).2⟩) rfl rfl hl.1 rfl (lv_room (Nat.le_of_ble_eq_true rfl)) dX12_readsFile_22 ⟨Nat.le_of_ble_eq_true rfl, Nat.le_of_ble_eq_true rfl⟩) hS (fun q _ h => hFc q h) hFc (fun u_6 t H1 locs ht hvm hw hB hz1 hk1 hS => ?_)
  try dsimp only at hw
  obtain ⟨hP1, hK1, hD1⟩ := hB
  rw [ht] at hP1
  have hK1 := va_K.moved hvm.symm hK1
  obtain ⟨hP, hD⟩ := va_join (wr := []) (w1 := [(z, .inr (12, [.ref tm, .int 0, .int 0, .int 1, .int 0, .int 0, .int 0, .int 0, .int 0, .ref a9, .ref nw, .ref a11, .ref a12, .int 0, .int 0, .int 0, .ref a16, .ref a17, .ref a18, .ref a19, .ref a20, .ref a21, .ref a22, .ref a23, .ref a24, .ref a25, .ref a26, .int 0, .ref a28, .ref a29, .ref a30, .ref a31, .ref a32, .ref a33, .int 0, .ref a35, .ref a36]))]) hP hD [0] [] rfl rfl (by decide) (by decide) hk1 hFc hP1 hD1
  have hK := (hK.sub (tys' := []) [] rfl).app hK1
  generalize H1 = H at hP hS ⊢
  have hP : va_P (dC, dI) vwCl [(z, .inr (12, [.ref tm, .int 0, .int 0, .int 1, .int 0, .int 0, .int 0, .int 0, .int 0, .ref a9, .ref nw, .ref a11, .ref a12, .int 0, .int 0, .int 0, .ref a16, .ref a17, .ref a18, .ref a19, .ref a20, .ref a21, .ref a22, .ref a23, .ref a24, .ref a25, .ref a26, .int 0, .ref a28, .ref a29, .ref a30, .ref a31, .ref a32, .ref a33, .int 0, .ref a35, .ref a36]))] H := hP
  have hD : va_D A [(z, .inr (12, [.ref tm, .int 0, .int 0, .int 1, .int 0, .int 0, .int 0, .int 0, .int 0, .ref a9, .ref nw, .ref a11, .ref a12, .int 0, .int 0, .int 0, .ref a16, .ref a17, .ref a18, .ref a19, .ref a20, .ref a21, .ref a22, .ref a23, .ref a24, .ref a25, .ref a26, .int 0, .ref a28, .ref a29, .ref a30, .ref a31, .ref a32, .ref a33, .int 0, .ref a35, .ref a36]))] := hD
  have hK : va_K (dC, dI) vwCl [] s := hK
  refine lv_aload_n hx hb dX12_readsFile_25 rfl (lv_at hl 1 rfl) ?_
  refine lv_aload_n hx hb dX12_readsFile_26 rfl (lv_at hl 1 rfl) ?_
  refine lv_iconst (v := 3) hx hb dX12_readsFile_27 (by decide) ?_
  refine lv_bipush (v := 8) hx hb dX12_readsFile_28 (by decide) ?_
  refine lv_iconst (v := 0) hx hb dX12_readsFile_30 (by decide) ?_
  have hPc := hP.sub (ws' := [(z, .inr (12, [.ref tm, .int 0, .int 0, .int 1, .int 0, .int 0, .int 0, .int 0, .int 0, .ref a9, .ref nw, .ref a11, .ref a12, .int 0, .int 0, .int 0, .ref a16, .ref a17, .ref a18, .ref a19, .ref a20, .ref a21, .ref a22, .ref a23, .ref a24, .ref a25, .ref a26, .int 0, .ref a28, .ref a29, .ref a30, .ref a31, .ref a32, .ref a33, .int 0, .ref a35, .ref a36]))]) [0] rfl
  have hDc := hD.sub (ws' := [(z, .inr (12, [.ref tm, .int 0, .int 0, .int 1, .int 0, .int 0, .int 0, .int 0, .int 0, .ref a9, .ref nw, .ref a11, .ref a12, .int 0, .int 0, .int 0, .ref a16, .ref a17, .ref a18, .ref a19, .ref a20, .ref a21, .ref a22, .ref a23, .ref a24, .ref a25, .ref a26, .int 0, .ref a28, .ref a29, .ref a30, .ref a31, .ref a32, .ref a33, .int 0, .ref a35, .ref a36]))]) [0] (by decide) rfl
  have hKc := hK.sub (tys' := []) [] rfl
  have hFc := va_free (wc := [(z, .inr (12, [.ref tm, .int 0, .int 0, .int 1, .int 0, .int 0, .int 0, .int 0, .int 0, .ref a9, .ref nw, .ref a11, .ref a12, .int 0, .int 0, .int 0, .ref a16, .ref a17, .ref a18, .ref a19, .ref a20, .ref a21, .ref a22, .ref a23, .ref a24, .ref a25, .ref a26, .int 0, .ref a28, .ref a29, .ref a30, .ref a31, .ref a32, .ref a33, .int 0, .ref a35, .ref a36]))]) hD hS hA [0] rfl
  refine va_calli (va_runV (As := [.int 3, .int 8, .int 0]) (rest := [.ref z]) ⟨hx, hb, hml, hown, hts⟩ (c_X12_number l dC dI (z) (tm) (a9) (nw) (a11) (a12) (a16) (a17) (a18) (a19) (a20) (a21) (a22) (a23) (a24) (a25) (a26) (a28) (a29) (a30) (a31) (a32) (a33) (a35) (a36) (3) (8) (0) H.size) (cwV 3 hts (kz_gV qw_637 qw_638 qw_639 qw_5 qw_640) rfl rfl rfl (by decide +kernel) ⟨Nat.le_of_ble_eq_true rfl, Nat.le_of_ble_eq_true rfl⟩) (⟨(kz_preS hPc hKc hDc).1, (va_recv hKc hPc (ci := 12) (q0 := 0) rfl rfl), (kz_preS hPc hKc hDc).2⟩) rfl rfl hl.1 rfl (lv_room (Nat.le_of_ble_eq_true rfl)) dX12_readsFile_31 ⟨Nat.le_of_ble_eq_true rfl, Nat.le_of_ble_eq_true rfl⟩) hS (fun q _ h => hFc q h) hFc (fun r_7 u_8 t H1 locs ht hvm hw hB hz1 hk1 hS => ?_)
  try dsimp only at hw
  obtain ⟨hP1, hK1, hD1⟩ := hB
  rw [ht] at hP1
  have hK1 := va_K.moved hvm.symm hK1
  obtain ⟨hP, hD⟩ := va_join (wr := []) (w1 := [(z, .inr (12, [.ref tm, .int 0, .int 0, .int 1, .int 0, .int 0, .int 0, .int 0, .int 0, .ref a9, .ref nw, .ref a11, .ref a12, .int 0, .int 0, .int 0, .ref a16, .ref a17, .ref a18, .ref a19, .ref a20, .ref a21, .ref a22, .ref a23, .ref a24, .ref a25, .ref a26, .int 0, .ref a28, .ref a29, .ref a30, .ref a31, .ref a32, .ref a33, .int 0, .ref a35, .ref a36]))]) hP hD [0] [] rfl rfl (by decide) (by decide) hk1 hFc hP1 hD1
  have hK := (hK.sub (tys' := []) [] rfl).app hK1
  generalize H1 = H at hP hS ⊢
  have hP : va_P (dC, dI) vwCl [(z, .inr (12, [.ref tm, .int 0, .int 0, .int 1, .int 0, .int 0, .int 0, .int 0, .int 0, .ref a9, .ref nw, .ref a11, .ref a12, .int 0, .int 0, .int 0, .ref a16, .ref a17, .ref a18, .ref a19, .ref a20, .ref a21, .ref a22, .ref a23, .ref a24, .ref a25, .ref a26, .int 0, .ref a28, .ref a29, .ref a30, .ref a31, .ref a32, .ref a33, .int 0, .ref a35, .ref a36]))] H := hP
  have hD : va_D A [(z, .inr (12, [.ref tm, .int 0, .int 0, .int 1, .int 0, .int 0, .int 0, .int 0, .int 0, .ref a9, .ref nw, .ref a11, .ref a12, .int 0, .int 0, .int 0, .ref a16, .ref a17, .ref a18, .ref a19, .ref a20, .ref a21, .ref a22, .ref a23, .ref a24, .ref a25, .ref a26, .int 0, .ref a28, .ref a29, .ref a30, .ref a31, .ref a32, .ref a33, .int 0, .ref a35, .ref a36]))] := hD
  have hK : va_K (dC, dI) vwCl [] s := hK
  obtain rfl : r_7 = 0 := hw
  refine va_put (D := (dC, dI)) (ci := 12) (v := .int 0) (ty := .int) (C := RX12) (T := TX12) (N := 37) hx hb hts inlX12 tyX12 tyX12_ok nmX12 hown hK hP hD hS 0 rfl rfl 5 (by decide) (hts _ qw_599) (fun _ h9 => h9) rfl (by decide +kernel) rfl rfl (Nat.le_of_ble_eq_true rfl) dX12_readsFile_34 (fun H locs hP hD hS => ?_)
  have hP : va_P (dC, dI) vwCl [(z, .inr (12, [.ref tm, .int 0, .int 0, .int 1, .int 0, .int 0, .int 0, .int 0, .int 0, .ref a9, .ref nw, .ref a11, .ref a12, .int 0, .int 0, .int 0, .ref a16, .ref a17, .ref a18, .ref a19, .ref a20, .ref a21, .ref a22, .ref a23, .ref a24, .ref a25, .ref a26, .int 0, .ref a28, .ref a29, .ref a30, .ref a31, .ref a32, .ref a33, .int 0, .ref a35, .ref a36]))] H := hP
  have hD : va_D A [(z, .inr (12, [.ref tm, .int 0, .int 0, .int 1, .int 0, .int 0, .int 0, .int 0, .int 0, .ref a9, .ref nw, .ref a11, .ref a12, .int 0, .int 0, .int 0, .ref a16, .ref a17, .ref a18, .ref a19, .ref a20, .ref a21, .ref a22, .ref a23, .ref a24, .ref a25, .ref a26, .int 0, .ref a28, .ref a29, .ref a30, .ref a31, .ref a32, .ref a33, .int 0, .ref a35, .ref a36]))] := hD
  refine lv_aload_n hx hb dX12_readsFile_37 rfl (lv_at hl 1 rfl) ?_
  refine lv_aload_n hx hb dX12_readsFile_38 rfl (lv_at hl 1 rfl) ?_
  refine lv_iconst (v := 1) hx hb dX12_readsFile_39 (by decide) ?_
  refine lv_iconst (v := 4) hx hb dX12_readsFile_40 (by decide) ?_
  refine lv_aload_n hx hb dX12_readsFile_41 rfl (lv_at hl 1 rfl) ?_
  refine va_get (D := (dC, dI)) (ci := 12) (v := .int 0) (C := RX12) (T := TX12) (N := 37) hx hb hts inlX12 hown hK hP 0 rfl rfl 5 (by decide) (hts _ qw_599) (fun _ h9 => h9) rfl dX12_readsFile_42 ?_
  refine lv_iconst (v := 2) hx hb dX12_readsFile_45 (by decide) ?_
  refine lv_idiv hx hb dX12_readsFile_46 (by decide) ?_
  refine kz_topi (y := 0) (by decide) ?_
  refine va_mmin hx hb (by rw [hml]; exact hl.1.symm) hown (hts _ qw_609) (hts _ qw_233) (hts _ qw_234) (hts _ qw_235) (Nat.le_of_ble_eq_true rfl) (Nat.le_of_ble_eq_true rfl) (Nat.le_of_ble_eq_true rfl) (Nat.le_of_ble_eq_true rfl) dX12_readsFile_47 ?_
  refine kz_topi (y := 0) (by decide) ?_
  refine lv_iconst (v := 0) hx hb dX12_readsFile_50 (by decide) ?_
  have hPc := hP.sub (ws' := [(z, .inr (12, [.ref tm, .int 0, .int 0, .int 1, .int 0, .int 0, .int 0, .int 0, .int 0, .ref a9, .ref nw, .ref a11, .ref a12, .int 0, .int 0, .int 0, .ref a16, .ref a17, .ref a18, .ref a19, .ref a20, .ref a21, .ref a22, .ref a23, .ref a24, .ref a25, .ref a26, .int 0, .ref a28, .ref a29, .ref a30, .ref a31, .ref a32, .ref a33, .int 0, .ref a35, .ref a36]))]) [0] rfl
  have hDc := hD.sub (ws' := [(z, .inr (12, [.ref tm, .int 0, .int 0, .int 1, .int 0, .int 0, .int 0, .int 0, .int 0, .ref a9, .ref nw, .ref a11, .ref a12, .int 0, .int 0, .int 0, .ref a16, .ref a17, .ref a18, .ref a19, .ref a20, .ref a21, .ref a22, .ref a23, .ref a24, .ref a25, .ref a26, .int 0, .ref a28, .ref a29, .ref a30, .ref a31, .ref a32, .ref a33, .int 0, .ref a35, .ref a36]))]) [0] (by decide) rfl
  have hKc := hK.sub (tys' := []) [] rfl
  have hFc := va_free (wc := [(z, .inr (12, [.ref tm, .int 0, .int 0, .int 1, .int 0, .int 0, .int 0, .int 0, .int 0, .ref a9, .ref nw, .ref a11, .ref a12, .int 0, .int 0, .int 0, .ref a16, .ref a17, .ref a18, .ref a19, .ref a20, .ref a21, .ref a22, .ref a23, .ref a24, .ref a25, .ref a26, .int 0, .ref a28, .ref a29, .ref a30, .ref a31, .ref a32, .ref a33, .int 0, .ref a35, .ref a36]))]) hD hS hA [0] rfl
  refine va_calli (va_runV (As := [.int 1, .int 0, .int 0]) (rest := [.ref z]) ⟨hx, hb, hml, hown, hts⟩ (c_X12_number l dC dI (z) (tm) (a9) (nw) (a11) (a12) (a16) (a17) (a18) (a19) (a20) (a21) (a22) (a23) (a24) (a25) (a26) (a28) (a29) (a30) (a31) (a32) (a33) (a35) (a36) (1) (0) (0) H.size) (cwV 3 hts (kz_gV qw_637 qw_638 qw_639 qw_5 qw_640) rfl rfl rfl (by decide +kernel) ⟨Nat.le_of_ble_eq_true rfl, Nat.le_of_ble_eq_true rfl⟩) (⟨(kz_preS hPc hKc hDc).1, (va_recv hKc hPc (ci := 12) (q0 := 0) rfl rfl), (kz_preS hPc hKc hDc).2⟩) rfl rfl hl.1 rfl (lv_room (Nat.le_of_ble_eq_true rfl)) dX12_readsFile_51 ⟨Nat.le_of_ble_eq_true rfl, Nat.le_of_ble_eq_true rfl⟩) hS (fun q _ h => hFc q h) hFc (fun r_9 u_10 t H1 locs ht hvm hw hB hz1 hk1 hS => ?_)
  try dsimp only at hw
  obtain ⟨hP1, hK1, hD1⟩ := hB
  rw [ht] at hP1
  have hK1 := va_K.moved hvm.symm hK1
  obtain ⟨hP, hD⟩ := va_join (wr := []) (w1 := [(z, .inr (12, [.ref tm, .int 0, .int 0, .int 1, .int 0, .int 0, .int 0, .int 0, .int 0, .ref a9, .ref nw, .ref a11, .ref a12, .int 0, .int 0, .int 0, .ref a16, .ref a17, .ref a18, .ref a19, .ref a20, .ref a21, .ref a22, .ref a23, .ref a24, .ref a25, .ref a26, .int 0, .ref a28, .ref a29, .ref a30, .ref a31, .ref a32, .ref a33, .int 0, .ref a35, .ref a36]))]) hP hD [0] [] rfl rfl (by decide) (by decide) hk1 hFc hP1 hD1
  have hK := (hK.sub (tys' := []) [] rfl).app hK1
  generalize H1 = H at hP hS ⊢
  have hP : va_P (dC, dI) vwCl [(z, .inr (12, [.ref tm, .int 0, .int 0, .int 1, .int 0, .int 0, .int 0, .int 0, .int 0, .ref a9, .ref nw, .ref a11, .ref a12, .int 0, .int 0, .int 0, .ref a16, .ref a17, .ref a18, .ref a19, .ref a20, .ref a21, .ref a22, .ref a23, .ref a24, .ref a25, .ref a26, .int 0, .ref a28, .ref a29, .ref a30, .ref a31, .ref a32, .ref a33, .int 0, .ref a35, .ref a36]))] H := hP
  have hD : va_D A [(z, .inr (12, [.ref tm, .int 0, .int 0, .int 1, .int 0, .int 0, .int 0, .int 0, .int 0, .ref a9, .ref nw, .ref a11, .ref a12, .int 0, .int 0, .int 0, .ref a16, .ref a17, .ref a18, .ref a19, .ref a20, .ref a21, .ref a22, .ref a23, .ref a24, .ref a25, .ref a26, .int 0, .ref a28, .ref a29, .ref a30, .ref a31, .ref a32, .ref a33, .int 0, .ref a35, .ref a36]))] := hD
  have hK : va_K (dC, dI) vwCl [] s := hK
  obtain rfl : r_9 = 0 := hw
  refine va_put (D := (dC, dI)) (ci := 12) (v := .int 0) (ty := .int) (C := RX12) (T := TX12) (N := 37) hx hb hts inlX12 tyX12 tyX12_ok nmX12 hown hK hP hD hS 0 rfl rfl 6 (by decide) (hts _ qw_600) (fun _ h9 => h9) rfl (by decide +kernel) rfl rfl (Nat.le_of_ble_eq_true rfl) dX12_readsFile_54 (fun H locs hP hD hS => ?_)
  have hP : va_P (dC, dI) vwCl [(z, .inr (12, [.ref tm, .int 0, .int 0, .int 1, .int 0, .int 0, .int 0, .int 0, .int 0, .ref a9, .ref nw, .ref a11, .ref a12, .int 0, .int 0, .int 0, .ref a16, .ref a17, .ref a18, .ref a19, .ref a20, .ref a21, .ref a22, .ref a23, .ref a24, .ref a25, .ref a26, .int 0, .ref a28, .ref a29, .ref a30, .ref a31, .ref a32, .ref a33, .int 0, .ref a35, .ref a36]))] H := hP
  have hD : va_D A [(z, .inr (12, [.ref tm, .int 0, .int 0, .int 1, .int 0, .int 0, .int 0, .int 0, .int 0, .ref a9, .ref nw, .ref a11, .ref a12, .int 0, .int 0, .int 0, .ref a16, .ref a17, .ref a18, .ref a19, .ref a20, .ref a21, .ref a22, .ref a23, .ref a24, .ref a25, .ref a26, .int 0, .ref a28, .ref a29, .ref a30, .ref a31, .ref a32, .ref a33, .int 0, .ref a35, .ref a36]))] := hD
  refine lv_aload_n hx hb dX12_readsFile_57 rfl (lv_at hl 1 rfl) ?_
  refine lv_aload_n hx hb dX12_readsFile_58 rfl (lv_at hl 1 rfl) ?_
  refine lv_iconst (v := 1) hx hb dX12_readsFile_59 (by decide) ?_
  refine lv_iconst (v := 3) hx hb dX12_readsFile_60 (by decide) ?_
  refine lv_aload_n hx hb dX12_readsFile_61 rfl (lv_at hl 1 rfl) ?_
  refine va_get (D := (dC, dI)) (ci := 12) (v := .int 0) (C := RX12) (T := TX12) (N := 37) hx hb hts inlX12 hown hK hP 0 rfl rfl 5 (by decide) (hts _ qw_599) (fun _ h9 => h9) rfl dX12_readsFile_62 ?_
  refine lv_iconst (v := 1) hx hb dX12_readsFile_65 (by decide) ?_
  refine lv_iadd hx hb dX12_readsFile_66 ?_
  refine kz_topi (y := 1) (by decide) ?_
  refine lv_aload_n hx hb dX12_readsFile_67 rfl (lv_at hl 1 rfl) ?_
  refine va_get (D := (dC, dI)) (ci := 12) (v := .int 0) (C := RX12) (T := TX12) (N := 37) hx hb hts inlX12 hown hK hP 0 rfl rfl 6 (by decide) (hts _ qw_600) (fun _ h9 => h9) rfl dX12_readsFile_68 ?_
  refine lv_isub hx hb dX12_readsFile_71 ?_
  refine kz_topi (y := 1) (by decide) ?_
  refine va_mmin hx hb (by rw [hml]; exact hl.1.symm) hown (hts _ qw_609) (hts _ qw_233) (hts _ qw_234) (hts _ qw_235) (Nat.le_of_ble_eq_true rfl) (Nat.le_of_ble_eq_true rfl) (Nat.le_of_ble_eq_true rfl) (Nat.le_of_ble_eq_true rfl) dX12_readsFile_72 ?_
  refine kz_topi (y := 1) (by decide) ?_
  refine lv_iconst (v := 0) hx hb dX12_readsFile_75 (by decide) ?_
  have hPc := hP.sub (ws' := [(z, .inr (12, [.ref tm, .int 0, .int 0, .int 1, .int 0, .int 0, .int 0, .int 0, .int 0, .ref a9, .ref nw, .ref a11, .ref a12, .int 0, .int 0, .int 0, .ref a16, .ref a17, .ref a18, .ref a19, .ref a20, .ref a21, .ref a22, .ref a23, .ref a24, .ref a25, .ref a26, .int 0, .ref a28, .ref a29, .ref a30, .ref a31, .ref a32, .ref a33, .int 0, .ref a35, .ref a36]))]) [0] rfl
  have hDc := hD.sub (ws' := [(z, .inr (12, [.ref tm, .int 0, .int 0, .int 1, .int 0, .int 0, .int 0, .int 0, .int 0, .ref a9, .ref nw, .ref a11, .ref a12, .int 0, .int 0, .int 0, .ref a16, .ref a17, .ref a18, .ref a19, .ref a20, .ref a21, .ref a22, .ref a23, .ref a24, .ref a25, .ref a26, .int 0, .ref a28, .ref a29, .ref a30, .ref a31, .ref a32, .ref a33, .int 0, .ref a35, .ref a36]))]) [0] (by decide) rfl
  have hKc := hK.sub (tys' := []) [] rfl
  have hFc := va_free (wc := [(z, .inr (12, [.ref tm, .int 0, .int 0, .int 1, .int 0, .int 0, .int 0, .int 0, .int 0, .ref a9, .ref nw, .ref a11, .ref a12, .int 0, .int 0, .int 0, .ref a16, .ref a17, .ref a18, .ref a19, .ref a20, .ref a21, .ref a22, .ref a23, .ref a24, .ref a25, .ref a26, .int 0, .ref a28, .ref a29, .ref a30, .ref a31, .ref a32, .ref a33, .int 0, .ref a35, .ref a36]))]) hD hS hA [0] rfl
  refine va_calli (va_runV (As := [.int 1, .int 1, .int 0]) (rest := [.ref z]) ⟨hx, hb, hml, hown, hts⟩ (c_X12_number l dC dI (z) (tm) (a9) (nw) (a11) (a12) (a16) (a17) (a18) (a19) (a20) (a21) (a22) (a23) (a24) (a25) (a26) (a28) (a29) (a30) (a31) (a32) (a33) (a35) (a36) (1) (1) (0) H.size) (cwV 3 hts (kz_gV qw_637 qw_638 qw_639 qw_5 qw_640) rfl rfl rfl (by decide +kernel) ⟨Nat.le_of_ble_eq_true rfl, Nat.le_of_ble_eq_true rfl⟩) (⟨(kz_preS hPc hKc hDc).1, (va_recv hKc hPc (ci := 12) (q0 := 0) rfl rfl), (kz_preS hPc hKc hDc).2⟩) rfl rfl hl.1 rfl (lv_room (Nat.le_of_ble_eq_true rfl)) dX12_readsFile_76 ⟨Nat.le_of_ble_eq_true rfl, Nat.le_of_ble_eq_true rfl⟩) hS (fun q _ h => hFc q h) hFc (fun r_11 u_12 t H1 locs ht hvm hw hB hz1 hk1 hS => ?_)
  try dsimp only at hw
  obtain ⟨hP1, hK1, hD1⟩ := hB
  rw [ht] at hP1
  have hK1 := va_K.moved hvm.symm hK1
  obtain ⟨hP, hD⟩ := va_join (wr := []) (w1 := [(z, .inr (12, [.ref tm, .int 0, .int 0, .int 1, .int 0, .int 0, .int 0, .int 0, .int 0, .ref a9, .ref nw, .ref a11, .ref a12, .int 0, .int 0, .int 0, .ref a16, .ref a17, .ref a18, .ref a19, .ref a20, .ref a21, .ref a22, .ref a23, .ref a24, .ref a25, .ref a26, .int 0, .ref a28, .ref a29, .ref a30, .ref a31, .ref a32, .ref a33, .int 0, .ref a35, .ref a36]))]) hP hD [0] [] rfl rfl (by decide) (by decide) hk1 hFc hP1 hD1
  have hK := (hK.sub (tys' := []) [] rfl).app hK1
  generalize H1 = H at hP hS ⊢
  have hP : va_P (dC, dI) vwCl [(z, .inr (12, [.ref tm, .int 0, .int 0, .int 1, .int 0, .int 0, .int 0, .int 0, .int 0, .ref a9, .ref nw, .ref a11, .ref a12, .int 0, .int 0, .int 0, .ref a16, .ref a17, .ref a18, .ref a19, .ref a20, .ref a21, .ref a22, .ref a23, .ref a24, .ref a25, .ref a26, .int 0, .ref a28, .ref a29, .ref a30, .ref a31, .ref a32, .ref a33, .int 0, .ref a35, .ref a36]))] H := hP
  have hD : va_D A [(z, .inr (12, [.ref tm, .int 0, .int 0, .int 1, .int 0, .int 0, .int 0, .int 0, .int 0, .ref a9, .ref nw, .ref a11, .ref a12, .int 0, .int 0, .int 0, .ref a16, .ref a17, .ref a18, .ref a19, .ref a20, .ref a21, .ref a22, .ref a23, .ref a24, .ref a25, .ref a26, .int 0, .ref a28, .ref a29, .ref a30, .ref a31, .ref a32, .ref a33, .int 0, .ref a35, .ref a36]))] := hD
  have hK : va_K (dC, dI) vwCl [] s := hK
  obtain rfl : r_11 = 0 := hw
  refine va_put (D := (dC, dI)) (ci := 12) (v := .int 0) (ty := .int) (C := RX12) (T := TX12) (N := 37) hx hb hts inlX12 tyX12 tyX12_ok nmX12 hown hK hP hD hS 0 rfl rfl 7 (by decide) (hts _ qw_601) (fun _ h9 => h9) rfl (by decide +kernel) rfl rfl (Nat.le_of_ble_eq_true rfl) dX12_readsFile_79 (fun H locs hP hD hS => ?_)
  have hP : va_P (dC, dI) vwCl [(z, .inr (12, [.ref tm, .int 0, .int 0, .int 1, .int 0, .int 0, .int 0, .int 0, .int 0, .ref a9, .ref nw, .ref a11, .ref a12, .int 0, .int 0, .int 0, .ref a16, .ref a17, .ref a18, .ref a19, .ref a20, .ref a21, .ref a22, .ref a23, .ref a24, .ref a25, .ref a26, .int 0, .ref a28, .ref a29, .ref a30, .ref a31, .ref a32, .ref a33, .int 0, .ref a35, .ref a36]))] H := hP
  have hD : va_D A [(z, .inr (12, [.ref tm, .int 0, .int 0, .int 1, .int 0, .int 0, .int 0, .int 0, .int 0, .ref a9, .ref nw, .ref a11, .ref a12, .int 0, .int 0, .int 0, .ref a16, .ref a17, .ref a18, .ref a19, .ref a20, .ref a21, .ref a22, .ref a23, .ref a24, .ref a25, .ref a26, .int 0, .ref a28, .ref a29, .ref a30, .ref a31, .ref a32, .ref a33, .int 0, .ref a35, .ref a36]))] := hD
  refine lv_aload_n hx hb dX12_readsFile_82 rfl (lv_at hl 1 rfl) ?_
  refine lv_iconst (v := 0) hx hb dX12_readsFile_83 (by decide) ?_
  refine va_put (D := (dC, dI)) (ci := 12) (v := .int 0) (ty := .int) (C := RX12) (T := TX12) (N := 37) hx hb hts inlX12 tyX12 tyX12_ok nmX12 hown hK hP hD hS 0 rfl rfl 8 (by decide) (hts _ qw_603) (fun _ h9 => h9) rfl (by decide +kernel) rfl rfl (Nat.le_of_ble_eq_true rfl) dX12_readsFile_84 (fun H locs hP hD hS => ?_)
  have hP : va_P (dC, dI) vwCl [(z, .inr (12, [.ref tm, .int 0, .int 0, .int 1, .int 0, .int 0, .int 0, .int 0, .int 0, .ref a9, .ref nw, .ref a11, .ref a12, .int 0, .int 0, .int 0, .ref a16, .ref a17, .ref a18, .ref a19, .ref a20, .ref a21, .ref a22, .ref a23, .ref a24, .ref a25, .ref a26, .int 0, .ref a28, .ref a29, .ref a30, .ref a31, .ref a32, .ref a33, .int 0, .ref a35, .ref a36]))] H := hP
  have hD : va_D A [(z, .inr (12, [.ref tm, .int 0, .int 0, .int 1, .int 0, .int 0, .int 0, .int 0, .int 0, .ref a9, .ref nw, .ref a11, .ref a12, .int 0, .int 0, .int 0, .ref a16, .ref a17, .ref a18, .ref a19, .ref a20, .ref a21, .ref a22, .ref a23, .ref a24, .ref a25, .ref a26, .int 0, .ref a28, .ref a29, .ref a30, .ref a31, .ref a32, .ref a33, .int 0, .ref a35, .ref a36]))] := hD
  refine lv_aload_n hx hb dX12_readsFile_87 rfl (lv_at hl 1 rfl) ?_
  have hPc := hP.sub (ws' := [(z, .inr (12, [.ref tm, .int 0, .int 0, .int 1, .int 0, .int 0, .int 0, .int 0, .int 0, .ref a9, .ref nw, .ref a11, .ref a12, .int 0, .int 0, .int 0, .ref a16, .ref a17, .ref a18, .ref a19, .ref a20, .ref a21, .ref a22, .ref a23, .ref a24, .ref a25, .ref a26, .int 0, .ref a28, .ref a29, .ref a30, .ref a31, .ref a32, .ref a33, .int 0, .ref a35, .ref a36]))]) [0] rfl
  have hDc := hD.sub (ws' := [(z, .inr (12, [.ref tm, .int 0, .int 0, .int 1, .int 0, .int 0, .int 0, .int 0, .int 0, .ref a9, .ref nw, .ref a11, .ref a12, .int 0, .int 0, .int 0, .ref a16, .ref a17, .ref a18, .ref a19, .ref a20, .ref a21, .ref a22, .ref a23, .ref a24, .ref a25, .ref a26, .int 0, .ref a28, .ref a29, .ref a30, .ref a31, .ref a32, .ref a33, .int 0, .ref a35, .ref a36]))]) [0] (by decide) rfl
  have hKc := hK.sub (tys' := []) [] rfl
  have hFc := va_free (wc := [(z, .inr (12, [.ref tm, .int 0, .int 0, .int 1, .int 0, .int 0, .int 0, .int 0, .int 0, .ref a9, .ref nw, .ref a11, .ref a12, .int 0, .int 0, .int 0, .ref a16, .ref a17, .ref a18, .ref a19, .ref a20, .ref a21, .ref a22, .ref a23, .ref a24, .ref a25, .ref a26, .int 0, .ref a28, .ref a29, .ref a30, .ref a31, .ref a32, .ref a33, .int 0, .ref a35, .ref a36]))]) hD hS hA [0] rfl
  refine va_calli (va_runV (As := []) (rest := []) ⟨hx, hb, hml, hown, hts⟩ (c_X12_isRight_n l dC dI (z) (tm) (a9) (nw) (a11) (a12) (a16) (a17) (a18) (a19) (a20) (a21) (a22) (a23) (a24) (a25) (a26) (a28) (a29) (a30) (a31) (a32) (a33) (a35) (a36) H.size) (cwV 0 hts (kz_gV qw_627 qw_628 qw_629 qw_5 qw_630) rfl rfl rfl (by decide +kernel) ⟨Nat.le_of_ble_eq_true rfl, Nat.le_of_ble_eq_true rfl⟩) (⟨(kz_preS hPc hKc hDc).1, (va_recv hKc hPc (ci := 12) (q0 := 0) rfl rfl), (kz_preS hPc hKc hDc).2⟩) rfl rfl hl.1 rfl (lv_room (Nat.le_of_ble_eq_true rfl)) dX12_readsFile_88 ⟨Nat.le_of_ble_eq_true rfl, Nat.le_of_ble_eq_true rfl⟩) hS (fun q _ h => hFc q h) hFc (fun r_13 u_14 t H1 locs ht hvm hw hB hz1 hk1 hS => ?_)
  try dsimp only at hw
  obtain ⟨hP1, hK1, hD1⟩ := hB
  rw [ht] at hP1
  have hK1 := va_K.moved hvm.symm hK1
  obtain ⟨hP, hD⟩ := va_join (wr := []) (w1 := [(z, .inr (12, [.ref tm, .int 0, .int 0, .int 1, .int 0, .int 0, .int 0, .int 0, .int 0, .ref a9, .ref nw, .ref a11, .ref a12, .int 0, .int 0, .int 0, .ref a16, .ref a17, .ref a18, .ref a19, .ref a20, .ref a21, .ref a22, .ref a23, .ref a24, .ref a25, .ref a26, .int 0, .ref a28, .ref a29, .ref a30, .ref a31, .ref a32, .ref a33, .int 0, .ref a35, .ref a36]))]) hP hD [0] [] rfl rfl (by decide) (by decide) hk1 hFc hP1 hD1
  have hK := (hK.sub (tys' := []) [] rfl).app hK1
  generalize H1 = H at hP hS ⊢
  have hP : va_P (dC, dI) vwCl [(z, .inr (12, [.ref tm, .int 0, .int 0, .int 1, .int 0, .int 0, .int 0, .int 0, .int 0, .ref a9, .ref nw, .ref a11, .ref a12, .int 0, .int 0, .int 0, .ref a16, .ref a17, .ref a18, .ref a19, .ref a20, .ref a21, .ref a22, .ref a23, .ref a24, .ref a25, .ref a26, .int 0, .ref a28, .ref a29, .ref a30, .ref a31, .ref a32, .ref a33, .int 0, .ref a35, .ref a36]))] H := hP
  have hD : va_D A [(z, .inr (12, [.ref tm, .int 0, .int 0, .int 1, .int 0, .int 0, .int 0, .int 0, .int 0, .ref a9, .ref nw, .ref a11, .ref a12, .int 0, .int 0, .int 0, .ref a16, .ref a17, .ref a18, .ref a19, .ref a20, .ref a21, .ref a22, .ref a23, .ref a24, .ref a25, .ref a26, .int 0, .ref a28, .ref a29, .ref a30, .ref a31, .ref a32, .ref a33, .int 0, .ref a35, .ref a36]))] := hD
  have hK : va_K (dC, dI) vwCl [] s := hK
  obtain rfl : r_13 = 0 := hw
  refine lv_if_eq (tgt := 120) hx hb dX12_readsFile_91 (by decide) (fun _ => ?_) (fun c9 => absurd (by decide) c9)
  refine lv_aload_n hx hb dX12_readsFile_120 rfl (lv_at hl 1 rfl) ?_
  have hPc := hP.sub (ws' := [(z, .inr (12, [.ref tm, .int 0, .int 0, .int 1, .int 0, .int 0, .int 0, .int 0, .int 0, .ref a9, .ref nw, .ref a11, .ref a12, .int 0, .int 0, .int 0, .ref a16, .ref a17, .ref a18, .ref a19, .ref a20, .ref a21, .ref a22, .ref a23, .ref a24, .ref a25, .ref a26, .int 0, .ref a28, .ref a29, .ref a30, .ref a31, .ref a32, .ref a33, .int 0, .ref a35, .ref a36]))]) [0] rfl
  have hDc := hD.sub (ws' := [(z, .inr (12, [.ref tm, .int 0, .int 0, .int 1, .int 0, .int 0, .int 0, .int 0, .int 0, .ref a9, .ref nw, .ref a11, .ref a12, .int 0, .int 0, .int 0, .ref a16, .ref a17, .ref a18, .ref a19, .ref a20, .ref a21, .ref a22, .ref a23, .ref a24, .ref a25, .ref a26, .int 0, .ref a28, .ref a29, .ref a30, .ref a31, .ref a32, .ref a33, .int 0, .ref a35, .ref a36]))]) [0] (by decide) rfl
  have hKc := hK.sub (tys' := []) [] rfl
  have hFc := va_free (wc := [(z, .inr (12, [.ref tm, .int 0, .int 0, .int 1, .int 0, .int 0, .int 0, .int 0, .int 0, .ref a9, .ref nw, .ref a11, .ref a12, .int 0, .int 0, .int 0, .ref a16, .ref a17, .ref a18, .ref a19, .ref a20, .ref a21, .ref a22, .ref a23, .ref a24, .ref a25, .ref a26, .int 0, .ref a28, .ref a29, .ref a30, .ref a31, .ref a32, .ref a33, .int 0, .ref a35, .ref a36]))]) hD hS hA [0] rfl
  refine va_calli (va_runV (As := []) (rest := []) ⟨hx, hb, hml, hown, hts⟩ (c_X12_isRight_n l dC dI (z) (tm) (a9) (nw) (a11) (a12) (a16) (a17) (a18) (a19) (a20) (a21) (a22) (a23) (a24) (a25) (a26) (a28) (a29) (a30) (a31) (a32) (a33) (a35) (a36) H.size) (cwV 0 hts (kz_gV qw_627 qw_628 qw_629 qw_5 qw_630) rfl rfl rfl (by decide +kernel) ⟨Nat.le_of_ble_eq_true rfl, Nat.le_of_ble_eq_true rfl⟩) (⟨(kz_preS hPc hKc hDc).1, (va_recv hKc hPc (ci := 12) (q0 := 0) rfl rfl), (kz_preS hPc hKc hDc).2⟩) rfl rfl hl.1 rfl (lv_room (Nat.le_of_ble_eq_true rfl)) dX12_readsFile_121 ⟨Nat.le_of_ble_eq_true rfl, Nat.le_of_ble_eq_true rfl⟩) hS (fun q _ h => hFc q h) hFc (fun r_15 u_16 t H1 locs ht hvm hw hB hz1 hk1 hS => ?_)
  try dsimp only at hw
  obtain ⟨hP1, hK1, hD1⟩ := hB
  rw [ht] at hP1
  have hK1 := va_K.moved hvm.symm hK1
  obtain ⟨hP, hD⟩ := va_join (wr := []) (w1 := [(z, .inr (12, [.ref tm, .int 0, .int 0, .int 1, .int 0, .int 0, .int 0, .int 0, .int 0, .ref a9, .ref nw, .ref a11, .ref a12, .int 0, .int 0, .int 0, .ref a16, .ref a17, .ref a18, .ref a19, .ref a20, .ref a21, .ref a22, .ref a23, .ref a24, .ref a25, .ref a26, .int 0, .ref a28, .ref a29, .ref a30, .ref a31, .ref a32, .ref a33, .int 0, .ref a35, .ref a36]))]) hP hD [0] [] rfl rfl (by decide) (by decide) hk1 hFc hP1 hD1
  have hK := (hK.sub (tys' := []) [] rfl).app hK1
  generalize H1 = H at hP hS ⊢
  have hP : va_P (dC, dI) vwCl [(z, .inr (12, [.ref tm, .int 0, .int 0, .int 1, .int 0, .int 0, .int 0, .int 0, .int 0, .ref a9, .ref nw, .ref a11, .ref a12, .int 0, .int 0, .int 0, .ref a16, .ref a17, .ref a18, .ref a19, .ref a20, .ref a21, .ref a22, .ref a23, .ref a24, .ref a25, .ref a26, .int 0, .ref a28, .ref a29, .ref a30, .ref a31, .ref a32, .ref a33, .int 0, .ref a35, .ref a36]))] H := hP
  have hD : va_D A [(z, .inr (12, [.ref tm, .int 0, .int 0, .int 1, .int 0, .int 0, .int 0, .int 0, .int 0, .ref a9, .ref nw, .ref a11, .ref a12, .int 0, .int 0, .int 0, .ref a16, .ref a17, .ref a18, .ref a19, .ref a20, .ref a21, .ref a22, .ref a23, .ref a24, .ref a25, .ref a26, .int 0, .ref a28, .ref a29, .ref a30, .ref a31, .ref a32, .ref a33, .int 0, .ref a35, .ref a36]))] := hD
  have hK : va_K (dC, dI) vwCl [] s := hK
  obtain rfl : r_15 = 0 := hw
  refine lv_if_eq (tgt := 144) hx hb dX12_readsFile_124 (by decide) (fun _ => ?_) (fun c9 => absurd (by decide) c9)
  have hP9 := hP.sub (ws' := [(z, .inr (12, [.ref tm, .int 0, .int 0, .int 1, .int 0, .int 0, .int 0, .int 0, .int 0, .ref a9, .ref nw, .ref a11, .ref a12, .int 0, .int 0, .int 0, .ref a16, .ref a17, .ref a18, .ref a19, .ref a20, .ref a21, .ref a22, .ref a23, .ref a24, .ref a25, .ref a26, .int 0, .ref a28, .ref a29, .ref a30, .ref a31, .ref a32, .ref a33, .int 0, .ref a35, .ref a36]))]) [0] rfl
  have hD9 := hD.sub (ws' := [(z, .inr (12, [.ref tm, .int 0, .int 0, .int 1, .int 0, .int 0, .int 0, .int 0, .int 0, .ref a9, .ref nw, .ref a11, .ref a12, .int 0, .int 0, .int 0, .ref a16, .ref a17, .ref a18, .ref a19, .ref a20, .ref a21, .ref a22, .ref a23, .ref a24, .ref a25, .ref a26, .int 0, .ref a28, .ref a29, .ref a30, .ref a31, .ref a32, .ref a33, .int 0, .ref a35, .ref a36]))]) [0] (by decide) rfl
  have hK9 := hK.sub (tys' := []) [] rfl
  exact W.vret hx hb hr (fun t ht hW => ⟨⟨(), rfl, trivial, ⟨by rw [ht]; exact hP9, va_K.moved hW.alike hK9, hD9⟩⟩, hS.F ht⟩) hS.2.2 dX12_readsFile_144
set_option maxHeartbeats 4000000 in
set_option maxRecDepth 100000 in
theorem c_X12_file (l : Launch) (dC : Nat → ClassId) (dI : Nat → Nat → Nat) (z : Nat) (tm : Nat) (a9 : Nat) (nw : Nat) (a11 : Nat) (a12 : Nat) (a16 : Nat) (a17 : Nat) (a18 : Nat) (a19 : Nat) (a20 : Nat) (a21 : Nat) (a22 : Nat) (a23 : Nat) (a24 : Nat) (a25 : Nat) (a26 : Nat) (a28 : Nat) (a29 : Nat) (a30 : Nat) (a31 : Nat) (a32 : Nat) (a33 : Nat) (a35 : Nat) (a36 : Nat) (sq : Nat) (sv : Nat) (sz : Nat) : Met l yX12_file (Cond.code yX12_file cX12_file 3 (some .int) :: wsU) ({ frames := 4, cells := 0, slots := 0, locals := 86 }) (va_Pc [.ref z] (fun U => kz_B (dC, dI) sz [(z, .inr (12, [.ref tm, .int 0, .int 0, .int 0, .int 0, .int 0, .int 0, .int 0, .int 0, .ref a9, .ref nw, .ref a11, .ref a12, .int 0, .int 0, .int 0, .ref a16, .ref a17, .ref a18, .ref a19, .ref a20, .ref a21, .ref a22, .ref a23, .ref a24, .ref a25, .ref a26, .int 0, .ref a28, .ref a29, .ref a30, .ref a31, .ref a32, .ref a33, .int 0, .ref a35, .ref a36]))] [] U ∧ kz_St RX12 164 sq sv (va_A [(z, .inr (12, [.ref tm, .int 0, .int 0, .int 0, .int 0, .int 0, .int 0, .int 0, .int 0, .ref a9, .ref nw, .ref a11, .ref a12, .int 0, .int 0, .int 0, .ref a16, .ref a17, .ref a18, .ref a19, .ref a20, .ref a21, .ref a22, .ref a23, .ref a24, .ref a25, .ref a26, .int 0, .ref a28, .ref a29, .ref a30, .ref a31, .ref a32, .ref a33, .int 0, .ref a35, .ref a36]))] sz) U)) (va_Qi (fun (r : Int32) (_ : Unit) => r = -3) (fun _ _ => True) (va_A [(z, .inr (12, [.ref tm, .int 0, .int 0, .int 0, .int 0, .int 0, .int 0, .int 0, .int 0, .ref a9, .ref nw, .ref a11, .ref a12, .int 0, .int 0, .int 0, .ref a16, .ref a17, .ref a18, .ref a19, .ref a20, .ref a21, .ref a22, .ref a23, .ref a24, .ref a25, .ref a26, .int 0, .ref a28, .ref a29, .ref a30, .ref a31, .ref a32, .ref a33, .int 0, .ref a35, .ref a36]))] sz)) 0 0 (va_A [(z, .inr (12, [.ref tm, .int 0, .int 0, .int 0, .int 0, .int 0, .int 0, .int 0, .int 0, .ref a9, .ref nw, .ref a11, .ref a12, .int 0, .int 0, .int 0, .ref a16, .ref a17, .ref a18, .ref a19, .ref a20, .ref a21, .ref a22, .ref a23, .ref a24, .ref a25, .ref a26, .int 0, .ref a28, .ref a29, .ref a30, .ref a31, .ref a32, .ref a33, .int 0, .ref a35, .ref a36]))] sz) := by
  refine Met.ofW (cc := cX12_file) (maxL := 3) (ret := (some .int)) (by decide) rfl ?_
  intro p e s m args below meth c s₁ B hml hv
  obtain ⟨rfl, ⟨hsz, hP, hK, hD0⟩, hAm⟩ := hv
  have hx := B.exec
  have hb := B.bytes
  have hr := B.returns
  have hts := atoms_spec (ws := (Cond.code yX12_file cX12_file 3 (some .int) :: wsU)) B.pre
  have hts : ∀ w ∈ wsU, w.before _ s = true := fun w h => hts w (List.mem_cons_of_mem _ h)
  have hown : s.vm.findClass RX12 = some m.cls := findClass_of_methodNamed B.named
  have hlocks := B.notSynchronized
  subst hsz
  have hD := hD0.self (sz := s.heap.size)
  generalize hAe : va_A [(z, .inr (12, [.ref tm, .int 0, .int 0, .int 0, .int 0, .int 0, .int 0, .int 0, .int 0, .ref a9, .ref nw, .ref a11, .ref a12, .int 0, .int 0, .int 0, .ref a16, .ref a17, .ref a18, .ref a19, .ref a20, .ref a21, .ref a22, .ref a23, .ref a24, .ref a25, .ref a26, .int 0, .ref a28, .ref a29, .ref a30, .ref a31, .ref a32, .ref a33, .int 0, .ref a35, .ref a36]))] s.heap.size = A at hD hAm ⊢
  have hA : ∀ q : Nat, s.heap.size ≤ q → A q := fun q h => by rw [← hAe]; exact Or.inr h
  have hS : va_S A s.heap s.heap [] := va_S.rf
  have hP : va_P (dC, dI) vwCl [(z, .inr (12, [.ref tm, .int 0, .int 0, .int 0, .int 0, .int 0, .int 0, .int 0, .int 0, .ref a9, .ref nw, .ref a11, .ref a12, .int 0, .int 0, .int 0, .ref a16, .ref a17, .ref a18, .ref a19, .ref a20, .ref a21, .ref a22, .ref a23, .ref a24, .ref a25, .ref a26, .int 0, .ref a28, .ref a29, .ref a30, .ref a31, .ref a32, .ref a33, .int 0, .ref a35, .ref a36]))] s.heap := hP
  have hl := lv_entry ([.ref z]) (n := 3) (Nat.le_of_ble_eq_true rfl)
  rw [lg_entry_eq]
  generalize (lg_sl ([.ref z]) ++ List.replicate (3 - (lg_sl ([.ref z])).length) Slot.unset).toArray = ls at hl ⊢
  have hl : lv_has ls 3 [(0, .ref z)] := hl
  refine lv_aload_n hx hb dX12_file_0 rfl (lv_at hl 0 rfl) ?_
  refine lv_iconst (v := 0) hx hb dX12_file_1 (by decide) ?_
  refine va_put (D := (dC, dI)) (ci := 12) (v := .int 0) (ty := .int) (C := RX12) (T := TX12) (N := 37) hx hb hts inlX12 tyX12 tyX12_ok nmX12 hown hK hP hD hS 0 rfl rfl 2 (by decide) (hts _ qw_597) (fun _ h9 => h9) rfl (by decide +kernel) rfl rfl (Nat.le_of_ble_eq_true rfl) dX12_file_2 (fun H locs hP hD hS => ?_)
  have hP : va_P (dC, dI) vwCl [(z, .inr (12, [.ref tm, .int 0, .int 0, .int 0, .int 0, .int 0, .int 0, .int 0, .int 0, .ref a9, .ref nw, .ref a11, .ref a12, .int 0, .int 0, .int 0, .ref a16, .ref a17, .ref a18, .ref a19, .ref a20, .ref a21, .ref a22, .ref a23, .ref a24, .ref a25, .ref a26, .int 0, .ref a28, .ref a29, .ref a30, .ref a31, .ref a32, .ref a33, .int 0, .ref a35, .ref a36]))] H := hP
  have hD : va_D A [(z, .inr (12, [.ref tm, .int 0, .int 0, .int 0, .int 0, .int 0, .int 0, .int 0, .int 0, .ref a9, .ref nw, .ref a11, .ref a12, .int 0, .int 0, .int 0, .ref a16, .ref a17, .ref a18, .ref a19, .ref a20, .ref a21, .ref a22, .ref a23, .ref a24, .ref a25, .ref a26, .int 0, .ref a28, .ref a29, .ref a30, .ref a31, .ref a32, .ref a33, .int 0, .ref a35, .ref a36]))] := hD
  refine lv_aload_n hx hb dX12_file_5 rfl (lv_at hl 0 rfl) ?_
  refine lv_iconst (v := (-1)) hx hb dX12_file_6 (by decide) ?_
  refine va_put (D := (dC, dI)) (ci := 12) (v := .int (-1)) (ty := .int) (C := RX12) (T := TX12) (N := 37) hx hb hts inlX12 tyX12 tyX12_ok nmX12 hown hK hP hD hS 0 rfl rfl 3 (by decide) (hts _ qw_598) (fun _ h9 => h9) rfl (by decide +kernel) rfl rfl (Nat.le_of_ble_eq_true rfl) dX12_file_7 (fun H locs hP hD hS => ?_)
  have hP : va_P (dC, dI) vwCl [(z, .inr (12, [.ref tm, .int 0, .int 0, .int (-1), .int 0, .int 0, .int 0, .int 0, .int 0, .ref a9, .ref nw, .ref a11, .ref a12, .int 0, .int 0, .int 0, .ref a16, .ref a17, .ref a18, .ref a19, .ref a20, .ref a21, .ref a22, .ref a23, .ref a24, .ref a25, .ref a26, .int 0, .ref a28, .ref a29, .ref a30, .ref a31, .ref a32, .ref a33, .int 0, .ref a35, .ref a36]))] H := hP
  have hD : va_D A [(z, .inr (12, [.ref tm, .int 0, .int 0, .int (-1), .int 0, .int 0, .int 0, .int 0, .int 0, .ref a9, .ref nw, .ref a11, .ref a12, .int 0, .int 0, .int 0, .ref a16, .ref a17, .ref a18, .ref a19, .ref a20, .ref a21, .ref a22, .ref a23, .ref a24, .ref a25, .ref a26, .int 0, .ref a28, .ref a29, .ref a30, .ref a31, .ref a32, .ref a33, .int 0, .ref a35, .ref a36]))] := hD
  refine lv_aload_n hx hb dX12_file_10 rfl (lv_at hl 0 rfl) ?_
  have hPc := hP.sub (ws' := [(z, .inr (12, [.ref tm, .int 0, .int 0, .int (-1), .int 0, .int 0, .int 0, .int 0, .int 0, .ref a9, .ref nw, .ref a11, .ref a12, .int 0, .int 0, .int 0, .ref a16, .ref a17, .ref a18, .ref a19, .ref a20, .ref a21, .ref a22, .ref a23, .ref a24, .ref a25, .ref a26, .int 0, .ref a28, .ref a29, .ref a30, .ref a31, .ref a32, .ref a33, .int 0, .ref a35, .ref a36]))]) [0] rfl
  have hDc := hD.sub (ws' := [(z, .inr (12, [.ref tm, .int 0, .int 0, .int (-1), .int 0, .int 0, .int 0, .int 0, .int 0, .ref a9, .ref nw, .ref a11, .ref a12, .int 0, .int 0, .int 0, .ref a16, .ref a17, .ref a18, .ref a19, .ref a20, .ref a21, .ref a22, .ref a23, .ref a24, .ref a25, .ref a26, .int 0, .ref a28, .ref a29, .ref a30, .ref a31, .ref a32, .ref a33, .int 0, .ref a35, .ref a36]))]) [0] (by decide) rfl
  have hKc := hK.sub (tys' := []) [] rfl
  have hFc := va_free (wc := [(z, .inr (12, [.ref tm, .int 0, .int 0, .int (-1), .int 0, .int 0, .int 0, .int 0, .int 0, .ref a9, .ref nw, .ref a11, .ref a12, .int 0, .int 0, .int 0, .ref a16, .ref a17, .ref a18, .ref a19, .ref a20, .ref a21, .ref a22, .ref a23, .ref a24, .ref a25, .ref a26, .int 0, .ref a28, .ref a29, .ref a30, .ref a31, .ref a32, .ref a33, .int 0, .ref a35, .ref a36]))]) hD hS hA [0] rfl
  refine va_callv (va_runV (As := []) (rest := []) ⟨hx, hb, hml, hown, hts⟩ (c_X12_readsFile l dC dI (z) (tm) (a9) (nw) (a11) (a12) (a16) (a17) (a18) (a19) (a20) (a21) (a22) (a23) (a24) (a25) (a26) (a28) (a29) (a30) (a31) (a32) (a33) (a35) (a36) (sq) (sv) H.size) (cwV 0 hts (kz_gV qw_605 qw_606 qw_607 qw_5 qw_608) rfl rfl rfl (by decide +kernel) ⟨Nat.le_of_ble_eq_true rfl, Nat.le_of_ble_eq_true rfl⟩) (⟨(kz_preU hPc hKc hDc hAm hS hFc).1, (va_recv hKc hPc (ci := 12) (q0 := 0) rfl rfl), (kz_preU hPc hKc hDc hAm hS hFc).2⟩) rfl rfl hl.1 rfl (lv_room (Nat.le_of_ble_eq_true rfl)) dX12_file_11 ⟨Nat.le_of_ble_eq_true rfl, Nat.le_of_ble_eq_true rfl⟩) hS (fun q _ h => hFc q h) hFc (fun u_2 t H1 locs ht hvm hw hB hz1 hk1 hS => ?_)
  try dsimp only at hw
  obtain ⟨hP1, hK1, hD1⟩ := hB
  rw [ht] at hP1
  have hK1 := va_K.moved hvm.symm hK1
  obtain ⟨hP, hD⟩ := va_join (wr := []) (w1 := [(z, .inr (12, [.ref tm, .int 0, .int 0, .int 1, .int 0, .int 0, .int 0, .int 0, .int 0, .ref a9, .ref nw, .ref a11, .ref a12, .int 0, .int 0, .int 0, .ref a16, .ref a17, .ref a18, .ref a19, .ref a20, .ref a21, .ref a22, .ref a23, .ref a24, .ref a25, .ref a26, .int 0, .ref a28, .ref a29, .ref a30, .ref a31, .ref a32, .ref a33, .int 0, .ref a35, .ref a36]))]) hP hD [0] [] rfl rfl (by decide) (by decide) hk1 hFc hP1 hD1
  have hK := (hK.sub (tys' := []) [] rfl).app hK1
  generalize H1 = H at hP hS ⊢
  have hP : va_P (dC, dI) vwCl [(z, .inr (12, [.ref tm, .int 0, .int 0, .int 1, .int 0, .int 0, .int 0, .int 0, .int 0, .ref a9, .ref nw, .ref a11, .ref a12, .int 0, .int 0, .int 0, .ref a16, .ref a17, .ref a18, .ref a19, .ref a20, .ref a21, .ref a22, .ref a23, .ref a24, .ref a25, .ref a26, .int 0, .ref a28, .ref a29, .ref a30, .ref a31, .ref a32, .ref a33, .int 0, .ref a35, .ref a36]))] H := hP
  have hD : va_D A [(z, .inr (12, [.ref tm, .int 0, .int 0, .int 1, .int 0, .int 0, .int 0, .int 0, .int 0, .ref a9, .ref nw, .ref a11, .ref a12, .int 0, .int 0, .int 0, .ref a16, .ref a17, .ref a18, .ref a19, .ref a20, .ref a21, .ref a22, .ref a23, .ref a24, .ref a25, .ref a26, .int 0, .ref a28, .ref a29, .ref a30, .ref a31, .ref a32, .ref a33, .int 0, .ref a35, .ref a36]))] := hD
  have hK : va_K (dC, dI) vwCl [] s := hK
  refine lv_aload_n hx hb dX12_file_14 rfl (lv_at hl 0 rfl) ?_
  refine lv_iconst (v := 0) hx hb dX12_file_15 (by decide) ?_
  refine va_put (D := (dC, dI)) (ci := 12) (v := .int 0) (ty := .int) (C := RX12) (T := TX12) (N := 37) hx hb hts inlX12 tyX12 tyX12_ok nmX12 hown hK hP hD hS 0 rfl rfl 1 (by decide) (hts _ qw_199) (fun _ h9 => h9) rfl (by decide +kernel) rfl rfl (Nat.le_of_ble_eq_true rfl) dX12_file_16 (fun H locs hP hD hS => ?_)
  have hP : va_P (dC, dI) vwCl [(z, .inr (12, [.ref tm, .int 0, .int 0, .int 1, .int 0, .int 0, .int 0, .int 0, .int 0, .ref a9, .ref nw, .ref a11, .ref a12, .int 0, .int 0, .int 0, .ref a16, .ref a17, .ref a18, .ref a19, .ref a20, .ref a21, .ref a22, .ref a23, .ref a24, .ref a25, .ref a26, .int 0, .ref a28, .ref a29, .ref a30, .ref a31, .ref a32, .ref a33, .int 0, .ref a35, .ref a36]))] H := hP
  have hD : va_D A [(z, .inr (12, [.ref tm, .int 0, .int 0, .int 1, .int 0, .int 0, .int 0, .int 0, .int 0, .ref a9, .ref nw, .ref a11, .ref a12, .int 0, .int 0, .int 0, .ref a16, .ref a17, .ref a18, .ref a19, .ref a20, .ref a21, .ref a22, .ref a23, .ref a24, .ref a25, .ref a26, .int 0, .ref a28, .ref a29, .ref a30, .ref a31, .ref a32, .ref a33, .int 0, .ref a35, .ref a36]))] := hD
  refine lv_aload_n hx hb dX12_file_19 rfl (lv_at hl 0 rfl) ?_
  have hPc := hP.sub (ws' := [(z, .inr (12, [.ref tm, .int 0, .int 0, .int 1, .int 0, .int 0, .int 0, .int 0, .int 0, .ref a9, .ref nw, .ref a11, .ref a12, .int 0, .int 0, .int 0, .ref a16, .ref a17, .ref a18, .ref a19, .ref a20, .ref a21, .ref a22, .ref a23, .ref a24, .ref a25, .ref a26, .int 0, .ref a28, .ref a29, .ref a30, .ref a31, .ref a32, .ref a33, .int 0, .ref a35, .ref a36]))]) [0] rfl
  have hDc := hD.sub (ws' := [(z, .inr (12, [.ref tm, .int 0, .int 0, .int 1, .int 0, .int 0, .int 0, .int 0, .int 0, .ref a9, .ref nw, .ref a11, .ref a12, .int 0, .int 0, .int 0, .ref a16, .ref a17, .ref a18, .ref a19, .ref a20, .ref a21, .ref a22, .ref a23, .ref a24, .ref a25, .ref a26, .int 0, .ref a28, .ref a29, .ref a30, .ref a31, .ref a32, .ref a33, .int 0, .ref a35, .ref a36]))]) [0] (by decide) rfl
  have hKc := hK.sub (tys' := []) [] rfl
  have hFc := va_free (wc := [(z, .inr (12, [.ref tm, .int 0, .int 0, .int 1, .int 0, .int 0, .int 0, .int 0, .int 0, .ref a9, .ref nw, .ref a11, .ref a12, .int 0, .int 0, .int 0, .ref a16, .ref a17, .ref a18, .ref a19, .ref a20, .ref a21, .ref a22, .ref a23, .ref a24, .ref a25, .ref a26, .int 0, .ref a28, .ref a29, .ref a30, .ref a31, .ref a32, .ref a33, .int 0, .ref a35, .ref a36]))]) hD hS hA [0] rfl
  refine va_calli (va_runV (As := []) (rest := []) ⟨hx, hb, hml, hown, hts⟩ (c_X12_isRight_n l dC dI (z) (tm) (a9) (nw) (a11) (a12) (a16) (a17) (a18) (a19) (a20) (a21) (a22) (a23) (a24) (a25) (a26) (a28) (a29) (a30) (a31) (a32) (a33) (a35) (a36) H.size) (cwV 0 hts (kz_gV qw_627 qw_628 qw_629 qw_5 qw_630) rfl rfl rfl (by decide +kernel) ⟨Nat.le_of_ble_eq_true rfl, Nat.le_of_ble_eq_true rfl⟩) (⟨(kz_preS hPc hKc hDc).1, (va_recv hKc hPc (ci := 12) (q0 := 0) rfl rfl), (kz_preS hPc hKc hDc).2⟩) rfl rfl hl.1 rfl (lv_room (Nat.le_of_ble_eq_true rfl)) dX12_file_20 ⟨Nat.le_of_ble_eq_true rfl, Nat.le_of_ble_eq_true rfl⟩) hS (fun q _ h => hFc q h) hFc (fun r_3 u_4 t H1 locs ht hvm hw hB hz1 hk1 hS => ?_)
  try dsimp only at hw
  obtain ⟨hP1, hK1, hD1⟩ := hB
  rw [ht] at hP1
  have hK1 := va_K.moved hvm.symm hK1
  obtain ⟨hP, hD⟩ := va_join (wr := []) (w1 := [(z, .inr (12, [.ref tm, .int 0, .int 0, .int 1, .int 0, .int 0, .int 0, .int 0, .int 0, .ref a9, .ref nw, .ref a11, .ref a12, .int 0, .int 0, .int 0, .ref a16, .ref a17, .ref a18, .ref a19, .ref a20, .ref a21, .ref a22, .ref a23, .ref a24, .ref a25, .ref a26, .int 0, .ref a28, .ref a29, .ref a30, .ref a31, .ref a32, .ref a33, .int 0, .ref a35, .ref a36]))]) hP hD [0] [] rfl rfl (by decide) (by decide) hk1 hFc hP1 hD1
  have hK := (hK.sub (tys' := []) [] rfl).app hK1
  generalize H1 = H at hP hS ⊢
  have hP : va_P (dC, dI) vwCl [(z, .inr (12, [.ref tm, .int 0, .int 0, .int 1, .int 0, .int 0, .int 0, .int 0, .int 0, .ref a9, .ref nw, .ref a11, .ref a12, .int 0, .int 0, .int 0, .ref a16, .ref a17, .ref a18, .ref a19, .ref a20, .ref a21, .ref a22, .ref a23, .ref a24, .ref a25, .ref a26, .int 0, .ref a28, .ref a29, .ref a30, .ref a31, .ref a32, .ref a33, .int 0, .ref a35, .ref a36]))] H := hP
  have hD : va_D A [(z, .inr (12, [.ref tm, .int 0, .int 0, .int 1, .int 0, .int 0, .int 0, .int 0, .int 0, .ref a9, .ref nw, .ref a11, .ref a12, .int 0, .int 0, .int 0, .ref a16, .ref a17, .ref a18, .ref a19, .ref a20, .ref a21, .ref a22, .ref a23, .ref a24, .ref a25, .ref a26, .int 0, .ref a28, .ref a29, .ref a30, .ref a31, .ref a32, .ref a33, .int 0, .ref a35, .ref a36]))] := hD
  have hK : va_K (dC, dI) vwCl [] s := hK
  obtain rfl : r_3 = 0 := hw
  refine lv_if_ne (tgt := 34) hx hb dX12_file_23 (by decide) (fun c9 => absurd c9 (by decide)) (fun _ => ?_)
  refine lv_bipush (v := (-2)) hx hb dX12_file_26 (by decide) ?_
  refine lv_aload_n hx hb dX12_file_28 rfl (lv_at hl 0 rfl) ?_
  refine va_get (D := (dC, dI)) (ci := 12) (v := .int 1) (C := RX12) (T := TX12) (N := 37) hx hb hts inlX12 hown hK hP 0 rfl rfl 3 (by decide) (hts _ qw_598) (fun _ h9 => h9) rfl dX12_file_29 ?_
  refine lv_isub hx hb dX12_file_32 ?_
  refine kz_topi (y := (-3)) (by decide) ?_
  exact W.iret (v := (-3)) hx hb hr (fun t ht hW => ⟨⟨(-3), (), rfl, rfl, trivial⟩, hS.F ht⟩) hS.2.2 dX12_file_33
