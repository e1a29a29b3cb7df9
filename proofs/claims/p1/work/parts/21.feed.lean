set_option maxHeartbeats 4000000 in
set_option maxRecDepth 100000 in
/-- hasRoom() of an empty tape -/
theorem c_X8_hasRoom (l : Launch) (dC : Nat → ClassId) (dI : Nat → Nat → Nat) (tp : Nat) (i1 : Nat) (i2 : Nat) (bt : Nat) (mo : Int32) (le : Int32) (ag : Int32) (bg : Int32) (sz : Nat) : Met l yX8_hasRoom (Cond.code yX8_hasRoom cX8_hasRoom 1 (some .boolean) :: wsU) ({ frames := 0, cells := 0, slots := 0, locals := 0 }) (va_Pc [.ref tp] (kz_B (dC, dI) sz [(tp, .inr (8, [.ref i1, .ref i2, .int 0, .int mo, .int le, .int ag, .int 0, .ref bt, .int 0, .int bg, .int 0]))] [])) (va_Qi (fun (r : Int32) (_ : Unit) => r = 1) (fun (_ : Unit) t => kz_E (dC, dI) (va_A [(tp, .inr (8, [.ref i1, .ref i2, .int 0, .int mo, .int le, .int ag, .int 0, .ref bt, .int 0, .int bg, .int 0]))] sz) [(tp, .inr (8, [.ref i1, .ref i2, .int 0, .int mo, .int le, .int ag, .int 0, .ref bt, .int 0, .int bg, .int 0]))] [] t) (va_A [(tp, .inr (8, [.ref i1, .ref i2, .int 0, .int mo, .int le, .int ag, .int 0, .ref bt, .int 0, .int bg, .int 0]))] sz)) 0 0 (va_A [(tp, .inr (8, [.ref i1, .ref i2, .int 0, .int mo, .int le, .int ag, .int 0, .ref bt, .int 0, .int bg, .int 0]))] sz) := by
  refine Met.ofW (cc := cX8_hasRoom) (maxL := 1) (ret := (some .boolean)) (by decide) rfl ?_
  intro p e s m args below meth c s₁ B hml hv
  obtain ⟨rfl, hsz, hP, hK, hD0⟩ := hv
  have hx := B.exec
  have hb := B.bytes
  have hr := B.returns
  have hts := atoms_spec (ws := (Cond.code yX8_hasRoom cX8_hasRoom 1 (some .boolean) :: wsU)) B.pre
  have hts : ∀ w ∈ wsU, w.before _ s = true := fun w h => hts w (List.mem_cons_of_mem _ h)
  have hown : s.vm.findClass RX8 = some m.cls := findClass_of_methodNamed B.named
  have hlocks := B.notSynchronized
  subst hsz
  have hD := hD0.self (sz := s.heap.size)
  generalize hAe : va_A [(tp, .inr (8, [.ref i1, .ref i2, .int 0, .int mo, .int le, .int ag, .int 0, .ref bt, .int 0, .int bg, .int 0]))] s.heap.size = A at hD ⊢
  have hA : ∀ q : Nat, s.heap.size ≤ q → A q := fun q h => by rw [← hAe]; exact Or.inr h
  have hS : va_S A s.heap s.heap [] := va_S.rf
  have hP : va_P (dC, dI) vwCl [(tp, .inr (8, [.ref i1, .ref i2, .int 0, .int mo, .int le, .int ag, .int 0, .ref bt, .int 0, .int bg, .int 0]))] s.heap := hP
  have hl := lv_entry ([.ref tp]) (n := 1) (Nat.le_of_ble_eq_true rfl)
  rw [lg_entry_eq]
  generalize (lg_sl ([.ref tp]) ++ List.replicate (1 - (lg_sl ([.ref tp])).length) Slot.unset).toArray = ls at hl ⊢
  have hl : lv_has ls 1 [(0, .ref tp)] := hl
  refine lv_aload_n hx hb dX8_hasRoom_0 rfl (lv_at hl 0 rfl) ?_
  refine va_get (D := (dC, dI)) (ci := 8) (v := .int 0) (C := RX8) (T := TX8) (N := 11) hx hb hts inlX8 hown hK hP 0 rfl rfl 2 (by decide) (hts _ qw_57) (fun _ h9 => h9) rfl dX8_hasRoom_1 ?_
  refine lv_bipush (v := 20) hx hb dX8_hasRoom_4 (by decide) ?_
  refine lv_iadd hx hb dX8_hasRoom_6 ?_
  refine kz_topi (y := 20) (by decide) ?_
  refine lv_sipush (v := 300) hx hb dX8_hasRoom_7 (by decide) ?_
  refine lv_icmp_gt (tgt := 17) hx hb dX8_hasRoom_10 (by decide) (fun c9 => absurd c9 (by decide)) (fun _ => ?_)
  refine lv_iconst (v := 1) hx hb dX8_hasRoom_13 (by decide) ?_
  refine lv_goto (tgt := 18) hx hb dX8_hasRoom_14 (by decide) ?_
  have hP9 := hP.sub (ws' := [(tp, .inr (8, [.ref i1, .ref i2, .int 0, .int mo, .int le, .int ag, .int 0, .ref bt, .int 0, .int bg, .int 0]))]) [0] rfl
  have hD9 := hD.sub (ws' := [(tp, .inr (8, [.ref i1, .ref i2, .int 0, .int mo, .int le, .int ag, .int 0, .ref bt, .int 0, .int bg, .int 0]))]) [0] (by decide) rfl
  have hK9 := hK.sub (tys' := []) [] rfl
  exact W.zret (v := 1) hx hb hr rfl (fun t ht hW => ⟨⟨1, (), rfl, rfl, ⟨by rw [ht]; exact hP9, va_K.moved hW.alike hK9, hD9⟩⟩, hS.F ht⟩) hS.2.2 dX8_hasRoom_18
set_option maxHeartbeats 4000000 in
set_option maxRecDepth 100000 in
/-- write(number): four bytes more -/
theorem c_X8_write (l : Launch) (dC : Nat → ClassId) (dI : Nat → Nat → Nat) (tp : Nat) (i1 : Nat) (i2 : Nat) (bt : Nat) (mo : Int32) (le : Int32) (ag : Int32) (bg : Int32) (cB : ClassId) (f0 : Nat → Int32) (n : Nat) (p1 : Int32) (hn : n + 4 ≤ 300) (sz : Nat) : Met l yX8_write (Cond.code yX8_write cX8_write 3 none :: wsU) ({ frames := 0, cells := 0, slots := 0, locals := 0 }) (va_Pc [.ref tp, .int p1] (kz_B (dC, dI) sz [(tp, .inr (8, [.ref i1, .ref i2, .int (nI n), .int mo, .int le, .int ag, .int 0, .ref bt, .int 0, .int bg, .int 0])), (bt, .inl (cB, 300, .inl f0))] [(cB, .byte)])) (va_Qv (fun (_ : Nat → Int32) => True) (fun (u : Nat → Int32) t => match u with | g => kz_E (dC, dI) (va_A [(tp, .inr (8, [.ref i1, .ref i2, .int (nI n), .int mo, .int le, .int ag, .int 0, .ref bt, .int 0, .int bg, .int 0])), (bt, .inl (cB, 300, .inl f0))] sz) [(tp, .inr (8, [.ref i1, .ref i2, .int (nI (n + 4)), .int mo, .int le, .int ag, .int 0, .ref bt, .int 0, .int bg, .int 0])), (bt, .inl (cB, 300, .inl g))] [(cB, .byte)] t) (va_A [(tp, .inr (8, [.ref i1, .ref i2, .int (nI n), .int mo, .int le, .int ag, .int 0, .ref bt, .int 0, .int bg, .int 0])), (bt, .inl (cB, 300, .inl f0))] sz)) 0 0 (va_A [(tp, .inr (8, [.ref i1, .ref i2, .int (nI n), .int mo, .int le, .int ag, .int 0, .ref bt, .int 0, .int bg, .int 0])), (bt, .inl (cB, 300, .inl f0))] sz) := by
  refine Met.ofW (cc := cX8_write) (maxL := 3) (ret := none) (by decide) rfl ?_
  intro p e s m args below meth c s₁ B hml hv
  obtain ⟨rfl, hsz, hP, hK, hD0⟩ := hv
  have hx := B.exec
  have hb := B.bytes
  have hr := B.returns
  have hts := atoms_spec (ws := (Cond.code yX8_write cX8_write 3 none :: wsU)) B.pre
  have hts : ∀ w ∈ wsU, w.before _ s = true := fun w h => hts w (List.mem_cons_of_mem _ h)
  have hown : s.vm.findClass RX8 = some m.cls := findClass_of_methodNamed B.named
  have hlocks := B.notSynchronized
  subst hsz
  have hD := hD0.self (sz := s.heap.size)
  generalize hAe : va_A [(tp, .inr (8, [.ref i1, .ref i2, .int (nI n), .int mo, .int le, .int ag, .int 0, .ref bt, .int 0, .int bg, .int 0])), (bt, .inl (cB, 300, .inl f0))] s.heap.size = A at hD ⊢
  have hA : ∀ q : Nat, s.heap.size ≤ q → A q := fun q h => by rw [← hAe]; exact Or.inr h
  have hS : va_S A s.heap s.heap [] := va_S.rf
  have hP : va_P (dC, dI) vwCl [(tp, .inr (8, [.ref i1, .ref i2, .int (nI n), .int mo, .int le, .int ag, .int 0, .ref bt, .int 0, .int bg, .int 0])), (bt, .inl (cB, 300, .inl f0))] s.heap := hP
  have hl := lv_entry ([.ref tp, .int p1]) (n := 3) (Nat.le_of_ble_eq_true rfl)
  rw [lg_entry_eq]
  generalize (lg_sl ([.ref tp, .int p1]) ++ List.replicate (3 - (lg_sl ([.ref tp, .int p1])).length) Slot.unset).toArray = ls at hl ⊢
  have hl : lv_has ls 3 [(0, .ref tp), (1, .int p1)] := hl
  refine lv_bipush (v := 24) hx hb dX8_write_0 (by decide) ?_
  refine lv_istore_n (lv' := [(2, .int 24), (0, .ref tp), (1, .int p1)]) hx hb dX8_write_2 rfl hl (by decide) rfl (fun ls hl => ?_)
  refine lv_iload_n hx hb dX8_write_3 rfl (lv_at hl 0 rfl) ?_
  refine lv_if_lt (tgt := 46) hx hb dX8_write_4 (by decide) (fun c9 => absurd c9 (by decide)) (fun _ => ?_)
  refine lv_aload_n hx hb dX8_write_7 rfl (lv_at hl 1 rfl) ?_
  refine va_get (D := (dC, dI)) (ci := 8) (v := .int (nI n)) (C := RX8) (T := TX8) (N := 11) hx hb hts inlX8 hown hK hP 0 rfl rfl 2 (by decide) (hts _ qw_57) (fun _ h9 => h9) rfl dX8_write_8 ?_
  refine lv_sipush (v := 300) hx hb dX8_write_11 (by decide) ?_
  refine lv_icmp_ge (tgt := 46) hx hb dX8_write_14 (by decide) (fun c9 => absurd c9 (nI_ge (b := 300) (by omega) (by decide))) (fun _ => ?_)
  refine lv_aload_n hx hb dX8_write_17 rfl (lv_at hl 1 rfl) ?_
  refine va_get (D := (dC, dI)) (ci := 8) (v := .ref bt) (C := RX8) (T := TX8) (N := 11) hx hb hts inlX8 hown hK hP 0 rfl rfl 7 (by decide) (hts _ qw_56) (fun _ h9 => h9) rfl dX8_write_18 ?_
  refine lv_aload_n hx hb dX8_write_21 rfl (lv_at hl 1 rfl) ?_
  refine va_get (D := (dC, dI)) (ci := 8) (v := .int (nI n)) (C := RX8) (T := TX8) (N := 11) hx hb hts inlX8 hown hK hP 0 rfl rfl 2 (by decide) (hts _ qw_57) (fun _ h9 => h9) rfl dX8_write_22 ?_
  refine lv_iload_n hx hb dX8_write_25 rfl (lv_at hl 2 rfl) ?_
  refine lv_iload_n hx hb dX8_write_26 rfl (lv_at hl 0 rfl) ?_
  refine lv_ishr hx hb dX8_write_27 ?_
  refine lv_i2b (v := ((p1 >>> (24 &&& 31))).toInt8.toInt32) hx hb dX8_write_28 rfl ?_
  refine va_bast hx hb hK hP hD hS 1 0 rfl rfl (i := (nI n)) (x := ((p1 >>> (24 &&& 31))).toInt8.toInt32) (vp_in_nI (by omega) (by decide)) dX8_write_29 (fun H locs hP hD hS => ?_)
  generalize hf9 : upd f0 _ _ = f1 at hP hD
  have hP : va_P (dC, dI) vwCl [(tp, .inr (8, [.ref i1, .ref i2, .int (nI n), .int mo, .int le, .int ag, .int 0, .ref bt, .int 0, .int bg, .int 0])), (bt, .inl (cB, 300, .inl f1))] H := hP
  have hD : va_D A [(tp, .inr (8, [.ref i1, .ref i2, .int (nI n), .int mo, .int le, .int ag, .int 0, .ref bt, .int 0, .int bg, .int 0])), (bt, .inl (cB, 300, .inl f1))] := hD
  refine lv_aload_n hx hb dX8_write_30 rfl (lv_at hl 1 rfl) ?_
  refine lv_dup hx hb dX8_write_31 rfl ?_
  refine va_get (D := (dC, dI)) (ci := 8) (v := .int (nI n)) (C := RX8) (T := TX8) (N := 11) hx hb hts inlX8 hown hK hP 0 rfl rfl 2 (by decide) (hts _ qw_57) (fun _ h9 => h9) rfl dX8_write_32 ?_
  refine lv_iconst (v := 1) hx hb dX8_write_35 (by decide) ?_
  refine lv_iadd hx hb dX8_write_36 ?_
  refine kz_topi (y := (nI (n + 1))) (nI_1 n) ?_
  refine va_put (D := (dC, dI)) (ci := 8) (v := .int (nI (n + 1))) (ty := .int) (C := RX8) (T := TX8) (N := 11) hx hb hts inlX8 tyX8 tyX8_ok nmX8 hown hK hP hD hS 0 rfl rfl 2 (by decide) (hts _ qw_57) (fun _ h9 => h9) rfl (by decide +kernel) rfl rfl (Nat.le_of_ble_eq_true rfl) dX8_write_37 (fun H locs hP hD hS => ?_)
  have hP : va_P (dC, dI) vwCl [(tp, .inr (8, [.ref i1, .ref i2, .int (nI (n + 1)), .int mo, .int le, .int ag, .int 0, .ref bt, .int 0, .int bg, .int 0])), (bt, .inl (cB, 300, .inl f1))] H := hP
  have hD : va_D A [(tp, .inr (8, [.ref i1, .ref i2, .int (nI (n + 1)), .int mo, .int le, .int ag, .int 0, .ref bt, .int 0, .int bg, .int 0])), (bt, .inl (cB, 300, .inl f1))] := hD
  refine lv_iinc (v := 16) (lv' := [(2, .int 16), (0, .ref tp), (1, .int p1)]) hx hb dX8_write_40 hl (k := 0) rfl (by decide) (by decide) rfl (fun ls hl => ?_)
  refine lv_goto (tgt := 3) hx hb dX8_write_43 (by decide) ?_
  refine lv_iload_n hx hb dX8_write_3 rfl (lv_at hl 0 rfl) ?_
  refine lv_if_lt (tgt := 46) hx hb dX8_write_4 (by decide) (fun c9 => absurd c9 (by decide)) (fun _ => ?_)
  refine lv_aload_n hx hb dX8_write_7 rfl (lv_at hl 1 rfl) ?_
  refine va_get (D := (dC, dI)) (ci := 8) (v := .int (nI (n + 1))) (C := RX8) (T := TX8) (N := 11) hx hb hts inlX8 hown hK hP 0 rfl rfl 2 (by decide) (hts _ qw_57) (fun _ h9 => h9) rfl dX8_write_8 ?_
  refine lv_sipush (v := 300) hx hb dX8_write_11 (by decide) ?_
  refine lv_icmp_ge (tgt := 46) hx hb dX8_write_14 (by decide) (fun c9 => absurd c9 (nI_ge (b := 300) (by omega) (by decide))) (fun _ => ?_)
  refine lv_aload_n hx hb dX8_write_17 rfl (lv_at hl 1 rfl) ?_
  refine va_get (D := (dC, dI)) (ci := 8) (v := .ref bt) (C := RX8) (T := TX8) (N := 11) hx hb hts inlX8 hown hK hP 0 rfl rfl 7 (by decide) (hts _ qw_56) (fun _ h9 => h9) rfl dX8_write_18 ?_
  refine lv_aload_n hx hb dX8_write_21 rfl (lv_at hl 1 rfl) ?_
  refine va_get (D := (dC, dI)) (ci := 8) (v := .int (nI (n + 1))) (C := RX8) (T := TX8) (N := 11) hx hb hts inlX8 hown hK hP 0 rfl rfl 2 (by decide) (hts _ qw_57) (fun _ h9 => h9) rfl dX8_write_22 ?_
  refine lv_iload_n hx hb dX8_write_25 rfl (lv_at hl 2 rfl) ?_
  refine lv_iload_n hx hb dX8_write_26 rfl (lv_at hl 0 rfl) ?_
  refine lv_ishr hx hb dX8_write_27 ?_
  refine lv_i2b (v := ((p1 >>> (16 &&& 31))).toInt8.toInt32) hx hb dX8_write_28 rfl ?_
  refine va_bast hx hb hK hP hD hS 1 0 rfl rfl (i := (nI (n + 1))) (x := ((p1 >>> (16 &&& 31))).toInt8.toInt32) (vp_in_nI (by omega) (by decide)) dX8_write_29 (fun H locs hP hD hS => ?_)
  generalize hf9 : upd f1 _ _ = f2 at hP hD
  have hP : va_P (dC, dI) vwCl [(tp, .inr (8, [.ref i1, .ref i2, .int (nI (n + 1)), .int mo, .int le, .int ag, .int 0, .ref bt, .int 0, .int bg, .int 0])), (bt, .inl (cB, 300, .inl f2))] H := hP
  have hD : va_D A [(tp, .inr (8, [.ref i1, .ref i2, .int (nI (n + 1)), .int mo, .int le, .int ag, .int 0, .ref bt, .int 0, .int bg, .int 0])), (bt, .inl (cB, 300, .inl f2))] := hD
  refine lv_aload_n hx hb dX8_write_30 rfl (lv_at hl 1 rfl) ?_
  refine lv_dup hx hb dX8_write_31 rfl ?_
  refine va_get (D := (dC, dI)) (ci := 8) (v := .int (nI (n + 1))) (C := RX8) (T := TX8) (N := 11) hx hb hts inlX8 hown hK hP 0 rfl rfl 2 (by decide) (hts _ qw_57) (fun _ h9 => h9) rfl dX8_write_32 ?_
  refine lv_iconst (v := 1) hx hb dX8_write_35 (by decide) ?_
  refine lv_iadd hx hb dX8_write_36 ?_
  refine kz_topi (y := (nI (n + 2))) (nI_1 (n + 1)) ?_
  refine va_put (D := (dC, dI)) (ci := 8) (v := .int (nI (n + 2))) (ty := .int) (C := RX8) (T := TX8) (N := 11) hx hb hts inlX8 tyX8 tyX8_ok nmX8 hown hK hP hD hS 0 rfl rfl 2 (by decide) (hts _ qw_57) (fun _ h9 => h9) rfl (by decide +kernel) rfl rfl (Nat.le_of_ble_eq_true rfl) dX8_write_37 (fun H locs hP hD hS => ?_)
  have hP : va_P (dC, dI) vwCl [(tp, .inr (8, [.ref i1, .ref i2, .int (nI (n + 2)), .int mo, .int le, .int ag, .int 0, .ref bt, .int 0, .int bg, .int 0])), (bt, .inl (cB, 300, .inl f2))] H := hP
  have hD : va_D A [(tp, .inr (8, [.ref i1, .ref i2, .int (nI (n + 2)), .int mo, .int le, .int ag, .int 0, .ref bt, .int 0, .int bg, .int 0])), (bt, .inl (cB, 300, .inl f2))] := hD
  refine lv_iinc (v := 8) (lv' := [(2, .int 8), (0, .ref tp), (1, .int p1)]) hx hb dX8_write_40 hl (k := 0) rfl (by decide) (by decide) rfl (fun ls hl => ?_)
  refine lv_goto (tgt := 3) hx hb dX8_write_43 (by decide) ?_
  refine lv_iload_n hx hb dX8_write_3 rfl (lv_at hl 0 rfl) ?_
  refine lv_if_lt (tgt := 46) hx hb dX8_write_4 (by decide) (fun c9 => absurd c9 (by decide)) (fun _ => ?_)
  refine lv_aload_n hx hb dX8_write_7 rfl (lv_at hl 1 rfl) ?_
  refine va_get (D := (dC, dI)) (ci := 8) (v := .int (nI (n + 2))) (C := RX8) (T := TX8) (N := 11) hx hb hts inlX8 hown hK hP 0 rfl rfl 2 (by decide) (hts _ qw_57) (fun _ h9 => h9) rfl dX8_write_8 ?_
  refine lv_sipush (v := 300) hx hb dX8_write_11 (by decide) ?_
  refine lv_icmp_ge (tgt := 46) hx hb dX8_write_14 (by decide) (fun c9 => absurd c9 (nI_ge (b := 300) (by omega) (by decide))) (fun _ => ?_)
  refine lv_aload_n hx hb dX8_write_17 rfl (lv_at hl 1 rfl) ?_
  refine va_get (D := (dC, dI)) (ci := 8) (v := .ref bt) (C := RX8) (T := TX8) (N := 11) hx hb hts inlX8 hown hK hP 0 rfl rfl 7 (by decide) (hts _ qw_56) (fun _ h9 => h9) rfl dX8_write_18 ?_
  refine lv_aload_n hx hb dX8_write_21 rfl (lv_at hl 1 rfl) ?_
  refine va_get (D := (dC, dI)) (ci := 8) (v := .int (nI (n + 2))) (C := RX8) (T := TX8) (N := 11) hx hb hts inlX8 hown hK hP 0 rfl rfl 2 (by decide) (hts _ qw_57) (fun _ h9 => h9) rfl dX8_write_22 ?_
  refine lv_iload_n hx hb dX8_write_25 rfl (lv_at hl 2 rfl) ?_
  refine lv_iload_n hx hb dX8_write_26 rfl (lv_at hl 0 rfl) ?_
  refine lv_ishr hx hb dX8_write_27 ?_
  refine lv_i2b (v := ((p1 >>> (8 &&& 31))).toInt8.toInt32) hx hb dX8_write_28 rfl ?_
  refine va_bast hx hb hK hP hD hS 1 0 rfl rfl (i := (nI (n + 2))) (x := ((p1 >>> (8 &&& 31))).toInt8.toInt32) (vp_in_nI (by omega) (by decide)) dX8_write_29 (fun H locs hP hD hS => ?_)
  generalize hf9 : upd f2 _ _ = f3 at hP hD
  have hP : va_P (dC, dI) vwCl [(tp, .inr (8, [.ref i1, .ref i2, .int (nI (n + 2)), .int mo, .int le, .int ag, .int 0, .ref bt, .int 0, .int bg, .int 0])), (bt, .inl (cB, 300, .inl f3))] H := hP
  have hD : va_D A [(tp, .inr (8, [.ref i1, .ref i2, .int (nI (n + 2)), .int mo, .int le, .int ag, .int 0, .ref bt, .int 0, .int bg, .int 0])), (bt, .inl (cB, 300, .inl f3))] := hD
  refine lv_aload_n hx hb dX8_write_30 rfl (lv_at hl 1 rfl) ?_
  refine lv_dup hx hb dX8_write_31 rfl ?_
  refine va_get (D := (dC, dI)) (ci := 8) (v := .int (nI (n + 2))) (C := RX8) (T := TX8) (N := 11) hx hb hts inlX8 hown hK hP 0 rfl rfl 2 (by decide) (hts _ qw_57) (fun _ h9 => h9) rfl dX8_write_32 ?_
  refine lv_iconst (v := 1) hx hb dX8_write_35 (by decide) ?_
  refine lv_iadd hx hb dX8_write_36 ?_
  refine kz_topi (y := (nI (n + 3))) (nI_1 (n + 2)) ?_
  refine va_put (D := (dC, dI)) (ci := 8) (v := .int (nI (n + 3))) (ty := .int) (C := RX8) (T := TX8) (N := 11) hx hb hts inlX8 tyX8 tyX8_ok nmX8 hown hK hP hD hS 0 rfl rfl 2 (by decide) (hts _ qw_57) (fun _ h9 => h9) rfl (by decide +kernel) rfl rfl (Nat.le_of_ble_eq_true rfl) dX8_write_37 (fun H locs hP hD hS => ?_)
  have hP : va_P (dC, dI) vwCl [(tp, .inr (8, [.ref i1, .ref i2, .int (nI (n + 3)), .int mo, .int le, .int ag, .int 0, .ref bt, .int 0, .int bg, .int 0])), (bt, .inl (cB, 300, .inl f3))] H := hP
  have hD : va_D A [(tp, .inr (8, [.ref i1, .ref i2, .int (nI (n + 3)), .int mo, .int le, .int ag, .int 0, .ref bt, .int 0, .int bg, .int 0])), (bt, .inl (cB, 300, .inl f3))] := hD
  refine lv_iinc (v := 0) (lv' := [(2, .int 0), (0, .ref tp), (1, .int p1)]) hx hb dX8_write_40 hl (k := 0) rfl (by decide) (by decide) rfl (fun ls hl => ?_)
  refine lv_goto (tgt := 3) hx hb dX8_write_43 (by decide) ?_
  refine lv_iload_n hx hb dX8_write_3 rfl (lv_at hl 0 rfl) ?_
  refine lv_if_lt (tgt := 46) hx hb dX8_write_4 (by decide) (fun c9 => absurd c9 (by decide)) (fun _ => ?_)
  refine lv_aload_n hx hb dX8_write_7 rfl (lv_at hl 1 rfl) ?_
  refine va_get (D := (dC, dI)) (ci := 8) (v := .int (nI (n + 3))) (C := RX8) (T := TX8) (N := 11) hx hb hts inlX8 hown hK hP 0 rfl rfl 2 (by decide) (hts _ qw_57) (fun _ h9 => h9) rfl dX8_write_8 ?_
  refine lv_sipush (v := 300) hx hb dX8_write_11 (by decide) ?_
  refine lv_icmp_ge (tgt := 46) hx hb dX8_write_14 (by decide) (fun c9 => absurd c9 (nI_ge (b := 300) (by omega) (by decide))) (fun _ => ?_)
  refine lv_aload_n hx hb dX8_write_17 rfl (lv_at hl 1 rfl) ?_
  refine va_get (D := (dC, dI)) (ci := 8) (v := .ref bt) (C := RX8) (T := TX8) (N := 11) hx hb hts inlX8 hown hK hP 0 rfl rfl 7 (by decide) (hts _ qw_56) (fun _ h9 => h9) rfl dX8_write_18 ?_
  refine lv_aload_n hx hb dX8_write_21 rfl (lv_at hl 1 rfl) ?_
  refine va_get (D := (dC, dI)) (ci := 8) (v := .int (nI (n + 3))) (C := RX8) (T := TX8) (N := 11) hx hb hts inlX8 hown hK hP 0 rfl rfl 2 (by decide) (hts _ qw_57) (fun _ h9 => h9) rfl dX8_write_22 ?_
  refine lv_iload_n hx hb dX8_write_25 rfl (lv_at hl 2 rfl) ?_
  refine lv_iload_n hx hb dX8_write_26 rfl (lv_at hl 0 rfl) ?_
  refine lv_ishr hx hb dX8_write_27 ?_
  refine lv_i2b (v := ((p1 >>> (0 &&& 31))).toInt8.toInt32) hx hb dX8_write_28 rfl ?_
  refine va_bast hx hb hK hP hD hS 1 0 rfl rfl (i := (nI (n + 3))) (x := ((p1 >>> (0 &&& 31))).toInt8.toInt32) (vp_in_nI (by omega) (by decide)) dX8_write_29 (fun H locs hP hD hS => ?_)
  generalize hf9 : upd f3 _ _ = f4 at hP hD
  have hP : va_P (dC, dI) vwCl [(tp, .inr (8, [.ref i1, .ref i2, .int (nI (n + 3)), .int mo, .int le, .int ag, .int 0, .ref bt, .int 0, .int bg, .int 0])), (bt, .inl (cB, 300, .inl f4))] H := hP
  have hD : va_D A [(tp, .inr (8, [.ref i1, .ref i2, .int (nI (n + 3)), .int mo, .int le, .int ag, .int 0, .ref bt, .int 0, .int bg, .int 0])), (bt, .inl (cB, 300, .inl f4))] := hD
  refine lv_aload_n hx hb dX8_write_30 rfl (lv_at hl 1 rfl) ?_
  refine lv_dup hx hb dX8_write_31 rfl ?_
  refine va_get (D := (dC, dI)) (ci := 8) (v := .int (nI (n + 3))) (C := RX8) (T := TX8) (N := 11) hx hb hts inlX8 hown hK hP 0 rfl rfl 2 (by decide) (hts _ qw_57) (fun _ h9 => h9) rfl dX8_write_32 ?_
  refine lv_iconst (v := 1) hx hb dX8_write_35 (by decide) ?_
  refine lv_iadd hx hb dX8_write_36 ?_
  refine kz_topi (y := (nI (n + 4))) (nI_1 (n + 3)) ?_
  refine va_put (D := (dC, dI)) (ci := 8) (v := .int (nI (n + 4))) (ty := .int) (C := RX8) (T := TX8) (N := 11) hx hb hts inlX8 tyX8 tyX8_ok nmX8 hown hK hP hD hS 0 rfl rfl 2 (by decide) (hts _ qw_57) (fun _ h9 => h9) rfl (by decide +kernel) rfl rfl (Nat.le_of_ble_eq_true rfl) dX8_write_37 (fun H locs hP hD hS => ?_)
  have hP : va_P (dC, dI) vwCl [(tp, .inr (8, [.ref i1, .ref i2, .int (nI (n + 4)), .int mo, .int le, .int ag, .int 0, .ref bt, .int 0, .int bg, .int 0])), (bt, .inl (cB, 300, .inl f4))] H := hP
  have hD : va_D A [(tp, .inr (8, [.ref i1, .ref i2, .int (nI (n + 4)), .int mo, .int le, .int ag, .int 0, .ref bt, .int 0, .int bg, .int 0])), (bt, .inl (cB, 300, .inl f4))] := hD
  refine lv_iinc (v := (-8)) (lv' := [(2, .int (-8)), (0, .ref tp), (1, .int p1)]) hx hb dX8_write_40 hl (k := 0) rfl (by decide) (by decide) rfl (fun ls hl => ?_)
  refine lv_goto (tgt := 3) hx hb dX8_write_43 (by decide) ?_
  refine lv_iload_n hx hb dX8_write_3 rfl (lv_at hl 0 rfl) ?_
  refine lv_if_lt (tgt := 46) hx hb dX8_write_4 (by decide) (fun _ => ?_) (fun c9 => absurd (by decide) c9)
  have hP9 := hP.sub (ws' := [(tp, .inr (8, [.ref i1, .ref i2, .int (nI (n + 4)), .int mo, .int le, .int ag, .int 0, .ref bt, .int 0, .int bg, .int 0])), (bt, .inl (cB, 300, .inl f4))]) [0, 1] rfl
  have hD9 := hD.sub (ws' := [(tp, .inr (8, [.ref i1, .ref i2, .int (nI (n + 4)), .int mo, .int le, .int ag, .int 0, .ref bt, .int 0, .int bg, .int 0])), (bt, .inl (cB, 300, .inl f4))]) [0, 1] (by decide) rfl
  have hK9 := hK.sub (tys' := [(cB, .byte)]) [0] rfl
  exact W.vret hx hb hr (fun t ht hW => ⟨⟨(f4), rfl, trivial, ⟨by rw [ht]; exact hP9, va_K.moved hW.alike hK9, hD9⟩⟩, hS.F ht⟩) hS.2.2 dX8_write_46
set_option maxHeartbeats 4000000 in
set_option maxRecDepth 100000 in
/-- feed on a fresh object -/
theorem c_X11_feed (l : Launch) (dC : Nat → ClassId) (dI : Nat → Nat → Nat) (x : Nat) (tp : Nat) (hi : Nat) (sh : Nat) (g3 : Nat) (g4 : Nat) (g5 : Nat) (g6 : Nat) (g7 : Nat) (g8 : Nat) (g9 : Nat) (i1 : Nat) (i2 : Nat) (bt : Nat) (cB : ClassId) (p1 : Int32) (p2 : Int32) (p3 : Int32) (p4 : Int32) (p5 : Int32) (sz : Nat) : Met l yX11_feed (Cond.code yX11_feed cX11_feed 6 (some .int) :: wsU) ({ frames := 1, cells := 0, slots := 0, locals := 22 }) (va_Pc [.ref x, .int p1, .int p2, .int p3, .int p4, .int p5] (kz_B (dC, dI) sz [(x, .inr (11, [.ref tp, .ref hi, .ref sh, .ref g3, .ref g4, .ref g5, .ref g6, .ref g7, .ref g8, .ref g9, .int 0, .int 0])), (tp, .inr (8, [.ref i1, .ref i2, .int 0, .int 0, .int 0, .int 0, .int 0, .ref bt, .int 0, .int 0, .int 0])), (bt, .inl (cB, 300, .inl (fun _ => 0)))] [(cB, .byte)])) (va_Qi (fun (r : Int32) (_ : Unit) => r = 20) (fun _ _ => True) (va_A [(x, .inr (11, [.ref tp, .ref hi, .ref sh, .ref g3, .ref g4, .ref g5, .ref g6, .ref g7, .ref g8, .ref g9, .int 0, .int 0])), (tp, .inr (8, [.ref i1, .ref i2, .int 0, .int 0, .int 0, .int 0, .int 0, .ref bt, .int 0, .int 0, .int 0])), (bt, .inl (cB, 300, .inl (fun _ => 0)))] sz)) 0 0 (va_A [(x, .inr (11, [.ref tp, .ref hi, .ref sh, .ref g3, .ref g4, .ref g5, .ref g6, .ref g7, .ref g8, .ref g9, .int 0, .int 0])), (tp, .inr (8, [.ref i1, .ref i2, .int 0, .int 0, .int 0, .int 0, .int 0, .ref bt, .int 0, .int 0, .int 0])), (bt, .inl (cB, 300, .inl (fun _ => 0)))] sz) := by
  refine Met.ofW (cc := cX11_feed) (maxL := 6) (ret := (some .int)) (by decide) rfl ?_
  intro p e s m args below meth c s₁ B hml hv
  obtain ⟨rfl, hsz, hP, hK, hD0⟩ := hv
  have hx := B.exec
  have hb := B.bytes
  have hr := B.returns
  have hts := atoms_spec (ws := (Cond.code yX11_feed cX11_feed 6 (some .int) :: wsU)) B.pre
  have hts : ∀ w ∈ wsU, w.before _ s = true := fun w h => hts w (List.mem_cons_of_mem _ h)
  have hown : s.vm.findClass RX11 = some m.cls := findClass_of_methodNamed B.named
  have hlocks := B.notSynchronized
  subst hsz
  have hD := hD0.self (sz := s.heap.size)
  generalize hAe : va_A [(x, .inr (11, [.ref tp, .ref hi, .ref sh, .ref g3, .ref g4, .ref g5, .ref g6, .ref g7, .ref g8, .ref g9, .int 0, .int 0])), (tp, .inr (8, [.ref i1, .ref i2, .int 0, .int 0, .int 0, .int 0, .int 0, .ref bt, .int 0, .int 0, .int 0])), (bt, .inl (cB, 300, .inl (fun _ => 0)))] s.heap.size = A at hD ⊢
  have hA : ∀ q : Nat, s.heap.size ≤ q → A q := fun q h => by rw [← hAe]; exact Or.inr h
  have hS : va_S A s.heap s.heap [] := va_S.rf
  have hP : va_P (dC, dI) vwCl [(x, .inr (11, [.ref tp, .ref hi, .ref sh, .ref g3, .ref g4, .ref g5, .ref g6, .ref g7, .ref g8, .ref g9, .int 0, .int 0])), (tp, .inr (8, [.ref i1, .ref i2, .int 0, .int 0, .int 0, .int 0, .int 0, .ref bt, .int 0, .int 0, .int 0])), (bt, .inl (cB, 300, .inl (fun _ => 0)))] s.heap := hP
  have hl := lv_entry ([.ref x, .int p1, .int p2, .int p3, .int p4, .int p5]) (n := 6) (Nat.le_of_ble_eq_true rfl)
  rw [lg_entry_eq]
  generalize (lg_sl ([.ref x, .int p1, .int p2, .int p3, .int p4, .int p5]) ++ List.replicate (6 - (lg_sl ([.ref x, .int p1, .int p2, .int p3, .int p4, .int p5])).length) Slot.unset).toArray = ls at hl ⊢
  have hl : lv_has ls 6 [(0, .ref x), (1, .int p1), (2, .int p2), (3, .int p3), (4, .int p4), (5, .int p5)] := hl
  refine lv_aload_n hx hb dX11_feed_0 rfl (lv_at hl 0 rfl) ?_
  refine va_get (D := (dC, dI)) (ci := 11) (v := .ref tp) (C := RX11) (T := TX11) (N := 12) hx hb hts inlX11 hown hK hP 0 rfl rfl 0 (by decide) (hts _ qw_15) (fun _ h9 => h9) rfl dX11_feed_1 ?_
  have hPc := hP.sub (ws' := [(tp, .inr (8, [.ref i1, .ref i2, .int 0, .int 0, .int 0, .int 0, .int 0, .ref bt, .int 0, .int 0, .int 0]))]) [1] rfl
  have hDc := hD.sub (ws' := [(tp, .inr (8, [.ref i1, .ref i2, .int 0, .int 0, .int 0, .int 0, .int 0, .ref bt, .int 0, .int 0, .int 0]))]) [1] (by decide) rfl
  have hKc := hK.sub (tys' := []) [] rfl
  have hFc := va_free (wc := [(tp, .inr (8, [.ref i1, .ref i2, .int 0, .int 0, .int 0, .int 0, .int 0, .ref bt, .int 0, .int 0, .int 0]))]) hD hS hA [1] rfl
  refine va_calli (va_runV (As := []) (rest := []) ⟨hx, hb, hml, hown, hts⟩ (c_X8_hasRoom l dC dI (tp) (i1) (i2) (bt) (0) (0) (0) (0) s.heap.size) (cwV 0 hts (kz_gV qw_187 qw_188 qw_189 qw_14 qw_190) rfl rfl rfl (by decide +kernel) ⟨Nat.le_of_ble_eq_true rfl, Nat.le_of_ble_eq_true rfl⟩) (⟨(kz_preS hPc hKc hDc).1, (va_recv hKc hPc (ci := 8) (q0 := 0) rfl rfl), (kz_preS hPc hKc hDc).2⟩) rfl rfl hl.1 rfl (lv_room (Nat.le_of_ble_eq_true rfl)) dX11_feed_4 ⟨Nat.le_of_ble_eq_true rfl, Nat.le_of_ble_eq_true rfl⟩) hS (fun q _ h => hFc q h) hFc (fun r_1 u_2 t H1 locs ht hvm hw hB hz1 hk1 hS => ?_)
  try dsimp only at hw
  obtain ⟨hP1, hK1, hD1⟩ := hB
  rw [ht] at hP1
  have hK1 := va_K.moved hvm.symm hK1
  obtain ⟨hP, hD⟩ := va_join (wr := [(x, .inr (11, [.ref tp, .ref hi, .ref sh, .ref g3, .ref g4, .ref g5, .ref g6, .ref g7, .ref g8, .ref g9, .int 0, .int 0])), (bt, .inl (cB, 300, .inl (fun _ => 0)))]) (w1 := [(tp, .inr (8, [.ref i1, .ref i2, .int 0, .int 0, .int 0, .int 0, .int 0, .ref bt, .int 0, .int 0, .int 0]))]) hP hD [1] [0, 2] rfl rfl (by decide) (by decide) hk1 hFc hP1 hD1
  have hK := (hK.sub (tys' := [(cB, .byte)]) [0] rfl).app hK1
  generalize H1 = H at hP hS ⊢
  have hP : va_P (dC, dI) vwCl [(x, .inr (11, [.ref tp, .ref hi, .ref sh, .ref g3, .ref g4, .ref g5, .ref g6, .ref g7, .ref g8, .ref g9, .int 0, .int 0])), (bt, .inl (cB, 300, .inl (fun _ => 0))), (tp, .inr (8, [.ref i1, .ref i2, .int 0, .int 0, .int 0, .int 0, .int 0, .ref bt, .int 0, .int 0, .int 0]))] H := hP
  have hD : va_D A [(x, .inr (11, [.ref tp, .ref hi, .ref sh, .ref g3, .ref g4, .ref g5, .ref g6, .ref g7, .ref g8, .ref g9, .int 0, .int 0])), (bt, .inl (cB, 300, .inl (fun _ => 0))), (tp, .inr (8, [.ref i1, .ref i2, .int 0, .int 0, .int 0, .int 0, .int 0, .ref bt, .int 0, .int 0, .int 0]))] := hD
  have hK : va_K (dC, dI) vwCl [(cB, .byte)] s := hK
  obtain rfl : r_1 = 1 := hw
  refine lv_if_ne (tgt := 12) hx hb dX11_feed_7 (by decide) (fun _ => ?_) (fun c9 => absurd c9 (by decide))
  refine lv_aload_n hx hb dX11_feed_12 rfl (lv_at hl 0 rfl) ?_
  refine va_get (D := (dC, dI)) (ci := 11) (v := .ref tp) (C := RX11) (T := TX11) (N := 12) hx hb hts inlX11 hown hK hP 0 rfl rfl 0 (by decide) (hts _ qw_15) (fun _ h9 => h9) rfl dX11_feed_13 ?_
  refine lv_iload_n hx hb dX11_feed_16 rfl (lv_at hl 1 rfl) ?_
  have hPc := hP.sub (ws' := [(tp, .inr (8, [.ref i1, .ref i2, .int (nI 0), .int 0, .int 0, .int 0, .int 0, .ref bt, .int 0, .int 0, .int 0])), (bt, .inl (cB, 300, .inl ((fun _ => 0))))]) [2, 1] rfl
  have hDc := hD.sub (ws' := [(tp, .inr (8, [.ref i1, .ref i2, .int (nI 0), .int 0, .int 0, .int 0, .int 0, .ref bt, .int 0, .int 0, .int 0])), (bt, .inl (cB, 300, .inl ((fun _ => 0))))]) [2, 1] (by decide) rfl
  have hKc := hK.sub (tys' := [(cB, .byte)]) [0] rfl
  have hFc := va_free (wc := [(tp, .inr (8, [.ref i1, .ref i2, .int (nI 0), .int 0, .int 0, .int 0, .int 0, .ref bt, .int 0, .int 0, .int 0])), (bt, .inl (cB, 300, .inl ((fun _ => 0))))]) hD hS hA [2, 1] rfl
  refine va_callv (va_runV (As := [.int p1]) (rest := []) ⟨hx, hb, hml, hown, hts⟩ (c_X8_write l dC dI (tp) (i1) (i2) (bt) (0) (0) (0) (0) (cB) ((fun _ => 0)) (0) (p1) (by decide) H.size) (cwV 1 hts (kz_gV qw_191 qw_192 qw_193 qw_14 qw_194) rfl rfl rfl (by decide +kernel) ⟨Nat.le_of_ble_eq_true rfl, Nat.le_of_ble_eq_true rfl⟩) (⟨(kz_preS hPc hKc hDc).1, (va_recv hKc hPc (ci := 8) (q0 := 0) rfl rfl), (kz_preS hPc hKc hDc).2⟩) rfl rfl hl.1 rfl (lv_room (Nat.le_of_ble_eq_true rfl)) dX11_feed_17 ⟨Nat.le_of_ble_eq_true rfl, Nat.le_of_ble_eq_true rfl⟩) hS (fun q _ h => hFc q h) hFc (fun u_4 t H1 locs ht hvm hw hB hz1 hk1 hS => ?_)
  try dsimp only at hw
  obtain ⟨g_5, rfl⟩ : ∃ z, z = u_4 := ⟨_, rfl⟩
  obtain ⟨hP1, hK1, hD1⟩ := hB
  rw [ht] at hP1
  have hK1 := va_K.moved hvm.symm hK1
  obtain ⟨hP, hD⟩ := va_join (wr := [(x, .inr (11, [.ref tp, .ref hi, .ref sh, .ref g3, .ref g4, .ref g5, .ref g6, .ref g7, .ref g8, .ref g9, .int 0, .int 0]))]) (w1 := [(tp, .inr (8, [.ref i1, .ref i2, .int (nI (0 + 4)), .int 0, .int 0, .int 0, .int 0, .ref bt, .int 0, .int 0, .int 0])), (bt, .inl (cB, 300, .inl g_5))]) hP hD [2, 1] [0] rfl rfl (by decide) (by decide) hk1 hFc hP1 hD1
  have hK := (hK.sub (tys' := []) [] rfl).app hK1
  generalize H1 = H at hP hS ⊢
  have hP : va_P (dC, dI) vwCl [(x, .inr (11, [.ref tp, .ref hi, .ref sh, .ref g3, .ref g4, .ref g5, .ref g6, .ref g7, .ref g8, .ref g9, .int 0, .int 0])), (tp, .inr (8, [.ref i1, .ref i2, .int (nI (0 + 4)), .int 0, .int 0, .int 0, .int 0, .ref bt, .int 0, .int 0, .int 0])), (bt, .inl (cB, 300, .inl g_5))] H := hP
  have hD : va_D A [(x, .inr (11, [.ref tp, .ref hi, .ref sh, .ref g3, .ref g4, .ref g5, .ref g6, .ref g7, .ref g8, .ref g9, .int 0, .int 0])), (tp, .inr (8, [.ref i1, .ref i2, .int (nI (0 + 4)), .int 0, .int 0, .int 0, .int 0, .ref bt, .int 0, .int 0, .int 0])), (bt, .inl (cB, 300, .inl g_5))] := hD
  have hK : va_K (dC, dI) vwCl [(cB, .byte)] s := hK
  refine lv_aload_n hx hb dX11_feed_20 rfl (lv_at hl 0 rfl) ?_
  refine va_get (D := (dC, dI)) (ci := 11) (v := .ref tp) (C := RX11) (T := TX11) (N := 12) hx hb hts inlX11 hown hK hP 0 rfl rfl 0 (by decide) (hts _ qw_15) (fun _ h9 => h9) rfl dX11_feed_21 ?_
  refine lv_iload_n hx hb dX11_feed_24 rfl (lv_at hl 2 rfl) ?_
  have hPc := hP.sub (ws' := [(tp, .inr (8, [.ref i1, .ref i2, .int (nI ((0 + 4))), .int 0, .int 0, .int 0, .int 0, .ref bt, .int 0, .int 0, .int 0])), (bt, .inl (cB, 300, .inl g_5))]) [1, 2] rfl
  have hDc := hD.sub (ws' := [(tp, .inr (8, [.ref i1, .ref i2, .int (nI ((0 + 4))), .int 0, .int 0, .int 0, .int 0, .ref bt, .int 0, .int 0, .int 0])), (bt, .inl (cB, 300, .inl g_5))]) [1, 2] (by decide) rfl
  have hKc := hK.sub (tys' := [(cB, .byte)]) [0] rfl
  have hFc := va_free (wc := [(tp, .inr (8, [.ref i1, .ref i2, .int (nI ((0 + 4))), .int 0, .int 0, .int 0, .int 0, .ref bt, .int 0, .int 0, .int 0])), (bt, .inl (cB, 300, .inl g_5))]) hD hS hA [1, 2] rfl
  refine va_callv (va_runV (As := [.int p2]) (rest := []) ⟨hx, hb, hml, hown, hts⟩ (c_X8_write l dC dI (tp) (i1) (i2) (bt) (0) (0) (0) (0) (cB) (g_5) ((0 + 4)) (p2) (by decide) H.size) (cwV 1 hts (kz_gV qw_191 qw_192 qw_193 qw_14 qw_194) rfl rfl rfl (by decide +kernel) ⟨Nat.le_of_ble_eq_true rfl, Nat.le_of_ble_eq_true rfl⟩) (⟨(kz_preS hPc hKc hDc).1, (va_recv hKc hPc (ci := 8) (q0 := 0) rfl rfl), (kz_preS hPc hKc hDc).2⟩) rfl rfl hl.1 rfl (lv_room (Nat.le_of_ble_eq_true rfl)) dX11_feed_25 ⟨Nat.le_of_ble_eq_true rfl, Nat.le_of_ble_eq_true rfl⟩) hS (fun q _ h => hFc q h) hFc (fun u_7 t H1 locs ht hvm hw hB hz1 hk1 hS => ?_)
  try dsimp only at hw
  obtain ⟨g_8, rfl⟩ : ∃ z, z = u_7 := ⟨_, rfl⟩
  obtain ⟨hP1, hK1, hD1⟩ := hB
  rw [ht] at hP1
  have hK1 := va_K.moved hvm.symm hK1
  obtain ⟨hP, hD⟩ := va_join (wr := [(x, .inr (11, [.ref tp, .ref hi, .ref sh, .ref g3, .ref g4, .ref g5, .ref g6, .ref g7, .ref g8, .ref g9, .int 0, .int 0]))]) (w1 := [(tp, .inr (8, [.ref i1, .ref i2, .int (nI (((0 + 4)) + 4)), .int 0, .int 0, .int 0, .int 0, .ref bt, .int 0, .int 0, .int 0])), (bt, .inl (cB, 300, .inl g_8))]) hP hD [1, 2] [0] rfl rfl (by decide) (by decide) hk1 hFc hP1 hD1
  have hK := (hK.sub (tys' := []) [] rfl).app hK1
  generalize H1 = H at hP hS ⊢
  have hP : va_P (dC, dI) vwCl [(x, .inr (11, [.ref tp, .ref hi, .ref sh, .ref g3, .ref g4, .ref g5, .ref g6, .ref g7, .ref g8, .ref g9, .int 0, .int 0])), (tp, .inr (8, [.ref i1, .ref i2, .int (nI (((0 + 4)) + 4)), .int 0, .int 0, .int 0, .int 0, .ref bt, .int 0, .int 0, .int 0])), (bt, .inl (cB, 300, .inl g_8))] H := hP
  have hD : va_D A [(x, .inr (11, [.ref tp, .ref hi, .ref sh, .ref g3, .ref g4, .ref g5, .ref g6, .ref g7, .ref g8, .ref g9, .int 0, .int 0])), (tp, .inr (8, [.ref i1, .ref i2, .int (nI (((0 + 4)) + 4)), .int 0, .int 0, .int 0, .int 0, .ref bt, .int 0, .int 0, .int 0])), (bt, .inl (cB, 300, .inl g_8))] := hD
  have hK : va_K (dC, dI) vwCl [(cB, .byte)] s := hK
  refine lv_aload_n hx hb dX11_feed_28 rfl (lv_at hl 0 rfl) ?_
  refine va_get (D := (dC, dI)) (ci := 11) (v := .ref tp) (C := RX11) (T := TX11) (N := 12) hx hb hts inlX11 hown hK hP 0 rfl rfl 0 (by decide) (hts _ qw_15) (fun _ h9 => h9) rfl dX11_feed_29 ?_
  refine lv_iload_n hx hb dX11_feed_32 rfl (lv_at hl 3 rfl) ?_
  have hPc := hP.sub (ws' := [(tp, .inr (8, [.ref i1, .ref i2, .int (nI ((((0 + 4)) + 4))), .int 0, .int 0, .int 0, .int 0, .ref bt, .int 0, .int 0, .int 0])), (bt, .inl (cB, 300, .inl g_8))]) [1, 2] rfl
  have hDc := hD.sub (ws' := [(tp, .inr (8, [.ref i1, .ref i2, .int (nI ((((0 + 4)) + 4))), .int 0, .int 0, .int 0, .int 0, .ref bt, .int 0, .int 0, .int 0])), (bt, .inl (cB, 300, .inl g_8))]) [1, 2] (by decide) rfl
  have hKc := hK.sub (tys' := [(cB, .byte)]) [0] rfl
  have hFc := va_free (wc := [(tp, .inr (8, [.ref i1, .ref i2, .int (nI ((((0 + 4)) + 4))), .int 0, .int 0, .int 0, .int 0, .ref bt, .int 0, .int 0, .int 0])), (bt, .inl (cB, 300, .inl g_8))]) hD hS hA [1, 2] rfl
  refine va_callv (va_runV (As := [.int p3]) (rest := []) ⟨hx, hb, hml, hown, hts⟩ (c_X8_write l dC dI (tp) (i1) (i2) (bt) (0) (0) (0) (0) (cB) (g_8) ((((0 + 4)) + 4)) (p3) (by decide) H.size) (cwV 1 hts (kz_gV qw_191 qw_192 qw_193 qw_14 qw_194) rfl rfl rfl (by decide +kernel) ⟨Nat.le_of_ble_eq_true rfl, Nat.le_of_ble_eq_true rfl⟩) (⟨(kz_preS hPc hKc hDc).1, (va_recv hKc hPc (ci := 8) (q0 := 0) rfl rfl), (kz_preS hPc hKc hDc).2⟩) rfl rfl hl.1 rfl (lv_room (Nat.le_of_ble_eq_true rfl)) dX11_feed_33 ⟨Nat.le_of_ble_eq_true rfl, Nat.le_of_ble_eq_true rfl⟩) hS (fun q _ h => hFc q h) hFc (fun u_10 t H1 locs ht hvm hw hB hz1 hk1 hS => ?_)
  try dsimp only at hw
  obtain ⟨g_11, rfl⟩ : ∃ z, z = u_10 := ⟨_, rfl⟩
  obtain ⟨hP1, hK1, hD1⟩ := hB
  rw [ht] at hP1
  have hK1 := va_K.moved hvm.symm hK1
  obtain ⟨hP, hD⟩ := va_join (wr := [(x, .inr (11, [.ref tp, .ref hi, .ref sh, .ref g3, .ref g4, .ref g5, .ref g6, .ref g7, .ref g8, .ref g9, .int 0, .int 0]))]) (w1 := [(tp, .inr (8, [.ref i1, .ref i2, .int (nI (((((0 + 4)) + 4)) + 4)), .int 0, .int 0, .int 0, .int 0, .ref bt, .int 0, .int 0, .int 0])), (bt, .inl (cB, 300, .inl g_11))]) hP hD [1, 2] [0] rfl rfl (by decide) (by decide) hk1 hFc hP1 hD1
  have hK := (hK.sub (tys' := []) [] rfl).app hK1
  generalize H1 = H at hP hS ⊢
  have hP : va_P (dC, dI) vwCl [(x, .inr (11, [.ref tp, .ref hi, .ref sh, .ref g3, .ref g4, .ref g5, .ref g6, .ref g7, .ref g8, .ref g9, .int 0, .int 0])), (tp, .inr (8, [.ref i1, .ref i2, .int (nI (((((0 + 4)) + 4)) + 4)), .int 0, .int 0, .int 0, .int 0, .ref bt, .int 0, .int 0, .int 0])), (bt, .inl (cB, 300, .inl g_11))] H := hP
  have hD : va_D A [(x, .inr (11, [.ref tp, .ref hi, .ref sh, .ref g3, .ref g4, .ref g5, .ref g6, .ref g7, .ref g8, .ref g9, .int 0, .int 0])), (tp, .inr (8, [.ref i1, .ref i2, .int (nI (((((0 + 4)) + 4)) + 4)), .int 0, .int 0, .int 0, .int 0, .ref bt, .int 0, .int 0, .int 0])), (bt, .inl (cB, 300, .inl g_11))] := hD
  have hK : va_K (dC, dI) vwCl [(cB, .byte)] s := hK
  refine lv_aload_n hx hb dX11_feed_36 rfl (lv_at hl 0 rfl) ?_
  refine va_get (D := (dC, dI)) (ci := 11) (v := .ref tp) (C := RX11) (T := TX11) (N := 12) hx hb hts inlX11 hown hK hP 0 rfl rfl 0 (by decide) (hts _ qw_15) (fun _ h9 => h9) rfl dX11_feed_37 ?_
  refine lv_iload hx hb dX11_feed_40 (lv_at hl 4 rfl) ?_
  have hPc := hP.sub (ws' := [(tp, .inr (8, [.ref i1, .ref i2, .int (nI ((((((0 + 4)) + 4)) + 4))), .int 0, .int 0, .int 0, .int 0, .ref bt, .int 0, .int 0, .int 0])), (bt, .inl (cB, 300, .inl g_11))]) [1, 2] rfl
  have hDc := hD.sub (ws' := [(tp, .inr (8, [.ref i1, .ref i2, .int (nI ((((((0 + 4)) + 4)) + 4))), .int 0, .int 0, .int 0, .int 0, .ref bt, .int 0, .int 0, .int 0])), (bt, .inl (cB, 300, .inl g_11))]) [1, 2] (by decide) rfl
  have hKc := hK.sub (tys' := [(cB, .byte)]) [0] rfl
  have hFc := va_free (wc := [(tp, .inr (8, [.ref i1, .ref i2, .int (nI ((((((0 + 4)) + 4)) + 4))), .int 0, .int 0, .int 0, .int 0, .ref bt, .int 0, .int 0, .int 0])), (bt, .inl (cB, 300, .inl g_11))]) hD hS hA [1, 2] rfl
  refine va_callv (va_runV (As := [.int p4]) (rest := []) ⟨hx, hb, hml, hown, hts⟩ (c_X8_write l dC dI (tp) (i1) (i2) (bt) (0) (0) (0) (0) (cB) (g_11) ((((((0 + 4)) + 4)) + 4)) (p4) (by decide) H.size) (cwV 1 hts (kz_gV qw_191 qw_192 qw_193 qw_14 qw_194) rfl rfl rfl (by decide +kernel) ⟨Nat.le_of_ble_eq_true rfl, Nat.le_of_ble_eq_true rfl⟩) (⟨(kz_preS hPc hKc hDc).1, (va_recv hKc hPc (ci := 8) (q0 := 0) rfl rfl), (kz_preS hPc hKc hDc).2⟩) rfl rfl hl.1 rfl (lv_room (Nat.le_of_ble_eq_true rfl)) dX11_feed_42 ⟨Nat.le_of_ble_eq_true rfl, Nat.le_of_ble_eq_true rfl⟩) hS (fun q _ h => hFc q h) hFc (fun u_13 t H1 locs ht hvm hw hB hz1 hk1 hS => ?_)
  try dsimp only at hw
  obtain ⟨g_14, rfl⟩ : ∃ z, z = u_13 := ⟨_, rfl⟩
  obtain ⟨hP1, hK1, hD1⟩ := hB
  rw [ht] at hP1
  have hK1 := va_K.moved hvm.symm hK1
  obtain ⟨hP, hD⟩ := va_join (wr := [(x, .inr (11, [.ref tp, .ref hi, .ref sh, .ref g3, .ref g4, .ref g5, .ref g6, .ref g7, .ref g8, .ref g9, .int 0, .int 0]))]) (w1 := [(tp, .inr (8, [.ref i1, .ref i2, .int (nI (((((((0 + 4)) + 4)) + 4)) + 4)), .int 0, .int 0, .int 0, .int 0, .ref bt, .int 0, .int 0, .int 0])), (bt, .inl (cB, 300, .inl g_14))]) hP hD [1, 2] [0] rfl rfl (by decide) (by decide) hk1 hFc hP1 hD1
  have hK := (hK.sub (tys' := []) [] rfl).app hK1
  generalize H1 = H at hP hS ⊢
  have hP : va_P (dC, dI) vwCl [(x, .inr (11, [.ref tp, .ref hi, .ref sh, .ref g3, .ref g4, .ref g5, .ref g6, .ref g7, .ref g8, .ref g9, .int 0, .int 0])), (tp, .inr (8, [.ref i1, .ref i2, .int (nI (((((((0 + 4)) + 4)) + 4)) + 4)), .int 0, .int 0, .int 0, .int 0, .ref bt, .int 0, .int 0, .int 0])), (bt, .inl (cB, 300, .inl g_14))] H := hP
  have hD : va_D A [(x, .inr (11, [.ref tp, .ref hi, .ref sh, .ref g3, .ref g4, .ref g5, .ref g6, .ref g7, .ref g8, .ref g9, .int 0, .int 0])), (tp, .inr (8, [.ref i1, .ref i2, .int (nI (((((((0 + 4)) + 4)) + 4)) + 4)), .int 0, .int 0, .int 0, .int 0, .ref bt, .int 0, .int 0, .int 0])), (bt, .inl (cB, 300, .inl g_14))] := hD
  have hK : va_K (dC, dI) vwCl [(cB, .byte)] s := hK
  refine lv_aload_n hx hb dX11_feed_45 rfl (lv_at hl 0 rfl) ?_
  refine va_get (D := (dC, dI)) (ci := 11) (v := .ref tp) (C := RX11) (T := TX11) (N := 12) hx hb hts inlX11 hown hK hP 0 rfl rfl 0 (by decide) (hts _ qw_15) (fun _ h9 => h9) rfl dX11_feed_46 ?_
  refine lv_iload hx hb dX11_feed_49 (lv_at hl 5 rfl) ?_
  have hPc := hP.sub (ws' := [(tp, .inr (8, [.ref i1, .ref i2, .int (nI ((((((((0 + 4)) + 4)) + 4)) + 4))), .int 0, .int 0, .int 0, .int 0, .ref bt, .int 0, .int 0, .int 0])), (bt, .inl (cB, 300, .inl g_14))]) [1, 2] rfl
  have hDc := hD.sub (ws' := [(tp, .inr (8, [.ref i1, .ref i2, .int (nI ((((((((0 + 4)) + 4)) + 4)) + 4))), .int 0, .int 0, .int 0, .int 0, .ref bt, .int 0, .int 0, .int 0])), (bt, .inl (cB, 300, .inl g_14))]) [1, 2] (by decide) rfl
  have hKc := hK.sub (tys' := [(cB, .byte)]) [0] rfl
  have hFc := va_free (wc := [(tp, .inr (8, [.ref i1, .ref i2, .int (nI ((((((((0 + 4)) + 4)) + 4)) + 4))), .int 0, .int 0, .int 0, .int 0, .ref bt, .int 0, .int 0, .int 0])), (bt, .inl (cB, 300, .inl g_14))]) hD hS hA [1, 2] rfl
  refine va_callv (va_runV (As := [.int p5]) (rest := []) ⟨hx, hb, hml, hown, hts⟩ (c_X8_write l dC dI (tp) (i1) (i2) (bt) (0) (0) (0) (0) (cB) (g_14) ((((((((0 + 4)) + 4)) + 4)) + 4)) (p5) (by decide) H.size) (cwV 1 hts (kz_gV qw_191 qw_192 qw_193 qw_14 qw_194) rfl rfl rfl (by decide +kernel) ⟨Nat.le_of_ble_eq_true rfl, Nat.le_of_ble_eq_true rfl⟩) (⟨(kz_preS hPc hKc hDc).1, (va_recv hKc hPc (ci := 8) (q0 := 0) rfl rfl), (kz_preS hPc hKc hDc).2⟩) rfl rfl hl.1 rfl (lv_room (Nat.le_of_ble_eq_true rfl)) dX11_feed_51 ⟨Nat.le_of_ble_eq_true rfl, Nat.le_of_ble_eq_true rfl⟩) hS (fun q _ h => hFc q h) hFc (fun u_16 t H1 locs ht hvm hw hB hz1 hk1 hS => ?_)
  try dsimp only at hw
  obtain ⟨g_17, rfl⟩ : ∃ z, z = u_16 := ⟨_, rfl⟩
  obtain ⟨hP1, hK1, hD1⟩ := hB
  rw [ht] at hP1
  have hK1 := va_K.moved hvm.symm hK1
  obtain ⟨hP, hD⟩ := va_join (wr := [(x, .inr (11, [.ref tp, .ref hi, .ref sh, .ref g3, .ref g4, .ref g5, .ref g6, .ref g7, .ref g8, .ref g9, .int 0, .int 0]))]) (w1 := [(tp, .inr (8, [.ref i1, .ref i2, .int (nI (((((((((0 + 4)) + 4)) + 4)) + 4)) + 4)), .int 0, .int 0, .int 0, .int 0, .ref bt, .int 0, .int 0, .int 0])), (bt, .inl (cB, 300, .inl g_17))]) hP hD [1, 2] [0] rfl rfl (by decide) (by decide) hk1 hFc hP1 hD1
  have hK := (hK.sub (tys' := []) [] rfl).app hK1
  generalize H1 = H at hP hS ⊢
  have hP : va_P (dC, dI) vwCl [(x, .inr (11, [.ref tp, .ref hi, .ref sh, .ref g3, .ref g4, .ref g5, .ref g6, .ref g7, .ref g8, .ref g9, .int 0, .int 0])), (tp, .inr (8, [.ref i1, .ref i2, .int (nI (((((((((0 + 4)) + 4)) + 4)) + 4)) + 4)), .int 0, .int 0, .int 0, .int 0, .ref bt, .int 0, .int 0, .int 0])), (bt, .inl (cB, 300, .inl g_17))] H := hP
  have hD : va_D A [(x, .inr (11, [.ref tp, .ref hi, .ref sh, .ref g3, .ref g4, .ref g5, .ref g6, .ref g7, .ref g8, .ref g9, .int 0, .int 0])), (tp, .inr (8, [.ref i1, .ref i2, .int (nI (((((((((0 + 4)) + 4)) + 4)) + 4)) + 4)), .int 0, .int 0, .int 0, .int 0, .ref bt, .int 0, .int 0, .int 0])), (bt, .inl (cB, 300, .inl g_17))] := hD
  have hK : va_K (dC, dI) vwCl [(cB, .byte)] s := hK
  refine lv_aload_n hx hb dX11_feed_54 rfl (lv_at hl 0 rfl) ?_
  refine va_get (D := (dC, dI)) (ci := 11) (v := .ref tp) (C := RX11) (T := TX11) (N := 12) hx hb hts inlX11 hown hK hP 0 rfl rfl 0 (by decide) (hts _ qw_15) (fun _ h9 => h9) rfl dX11_feed_55 ?_
  refine va_get (D := (dC, dI)) (ci := 8) (v := .int (nI (((((((((0 + 4)) + 4)) + 4)) + 4)) + 4))) (C := RX8) (T := TX8) (N := 11) hx hb hts inlX8 hown hK hP 1 rfl rfl 2 (by decide) (hts _ qw_186) (fun _ h9 => h9) rfl dX11_feed_58 ?_
  exact W.iret (v := (nI (((((((((0 + 4)) + 4)) + 4)) + 4)) + 4))) hx hb hr (fun t ht hW => ⟨⟨(nI (((((((((0 + 4)) + 4)) + 4)) + 4)) + 4)), (), rfl, (by decide), trivial⟩, hS.F ht⟩) hS.2.2 dX11_feed_61
