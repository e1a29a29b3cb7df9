set_option maxHeartbeats 4000000 in
set_option maxRecDepth 100000 in
theorem c_X12_in (l : Launch) (dC : Nat → ClassId) (dI : Nat → Nat → Nat) (p0 : Int64) (p1 : Int64) (p2 : Int64) (sz : Nat) : Met l yX12_in (Cond.code yX12_in cX12_in 6 (some .boolean) :: wsU) ({ frames := 0, cells := 0, slots := 0, locals := 0 }) (va_Pc [.long p0, .long p1, .long p2] (kz_B (dC, dI) sz [] [])) (va_Qi (fun (r : Int32) (_ : Unit) => r = spI p0 p1 p2) (fun _ _ => True) (va_A [] sz)) 0 0 (va_A [] sz) := by
  refine Met.ofW (cc := cX12_in) (maxL := 6) (ret := (some .boolean)) (by decide) rfl ?_
  intro p e s m args below meth c s₁ B hml hv
  obtain ⟨rfl, hsz, hP, hK, hD0⟩ := hv
  have hx := B.exec
  have hb := B.bytes
  have hr := B.returns
  have hts := atoms_spec (ws := (Cond.code yX12_in cX12_in 6 (some .boolean) :: wsU)) B.pre
  have hts : ∀ w ∈ wsU, w.before _ s = true := fun w h => hts w (List.mem_cons_of_mem _ h)
  have hown : s.vm.findClass RX12 = some m.cls := findClass_of_methodNamed B.named
  have hlocks := B.notSynchronized
  subst hsz
  have hD := hD0.self (sz := s.heap.size)
  generalize hAe : va_A [] s.heap.size = A at hD ⊢
  have hA : ∀ q : Nat, s.heap.size ≤ q → A q := fun q h => by rw [← hAe]; exact Or.inr h
  have hS : va_S A s.heap s.heap [] := va_S.rf
  have hP : va_P (dC, dI) vwCl [] s.heap := hP
  have hl := lv_entry ([.long p0, .long p1, .long p2]) (n := 6) (Nat.le_of_ble_eq_true rfl)
  rw [lg_entry_eq]
  generalize (lg_sl ([.long p0, .long p1, .long p2]) ++ List.replicate (6 - (lg_sl ([.long p0, .long p1, .long p2])).length) Slot.unset).toArray = ls at hl ⊢
  have hl : lv_has ls 6 [(0, .long p0), (2, .long p1), (4, .long p2)] := hl
  refine lv_lload_n hx hb dX12_in_0 rfl (lv_at hl 0 rfl) ?_
  refine lv_lload_n hx hb dX12_in_1 rfl (lv_at hl 1 rfl) ?_
  refine W.lcmp hx hb dX12_in_2 ?_
  refine lv_if_lt (tgt := 17) hx hb dX12_in_3 (by decide) (fun c_1 => ?_) (fun c_1 => ?_)
  · refine lv_iconst (v := 0) hx hb dX12_in_17 (by decide) ?_
    exact W.zret (v := 0) hx hb hr rfl (fun t ht hW => ⟨⟨0, (), rfl, (by simp [spI, c_1]), trivial⟩, hS.F ht⟩) hS.2.2 dX12_in_18
  · refine lv_lload_n hx hb dX12_in_6 rfl (lv_at hl 0 rfl) ?_
    refine lv_lload hx hb dX12_in_7 (lv_at hl 2 rfl) ?_
    refine W.lcmp hx hb dX12_in_9 ?_
    refine lv_if_gt (tgt := 17) hx hb dX12_in_10 (by decide) (fun c_2 => ?_) (fun c_2 => ?_)
    · refine lv_iconst (v := 0) hx hb dX12_in_17 (by decide) ?_
      exact W.zret (v := 0) hx hb hr rfl (fun t ht hW => ⟨⟨0, (), rfl, (by simp [spI, c_1, c_2]), trivial⟩, hS.F ht⟩) hS.2.2 dX12_in_18
    · refine lv_iconst (v := 1) hx hb dX12_in_13 (by decide) ?_
      refine lv_goto (tgt := 18) hx hb dX12_in_14 (by decide) ?_
      exact W.zret (v := 1) hx hb hr rfl (fun t ht hW => ⟨⟨1, (), rfl, (by simp [spI, c_1, c_2]), trivial⟩, hS.F ht⟩) hS.2.2 dX12_in_18
set_option maxHeartbeats 4000000 in
set_option maxRecDepth 100000 in
theorem c_X12_r (l : Launch) (dC : Nat → ClassId) (dI : Nat → Nat → Nat) (p0 : Int32) (p1 : Int32) (sz : Nat) : Met l yX12_r (Cond.code yX12_r cX12_r 2 (some .int) :: wsU) ({ frames := 0, cells := 0, slots := 0, locals := 0 }) (va_Pc [.int p0, .int p1] (kz_B (dC, dI) sz [] [])) (va_Qi (fun (r : Int32) (_ : Unit) => r = ((11900 + (6 * p0)) + p1)) (fun _ _ => True) (va_A [] sz)) 0 0 (va_A [] sz) := by
  refine Met.ofW (cc := cX12_r) (maxL := 2) (ret := (some .int)) (by decide) rfl ?_
  intro p e s m args below meth c s₁ B hml hv
  obtain ⟨rfl, hsz, hP, hK, hD0⟩ := hv
  have hx := B.exec
  have hb := B.bytes
  have hr := B.returns
  have hts := atoms_spec (ws := (Cond.code yX12_r cX12_r 2 (some .int) :: wsU)) B.pre
  have hts : ∀ w ∈ wsU, w.before _ s = true := fun w h => hts w (List.mem_cons_of_mem _ h)
  have hown : s.vm.findClass RX12 = some m.cls := findClass_of_methodNamed B.named
  have hlocks := B.notSynchronized
  subst hsz
  have hD := hD0.self (sz := s.heap.size)
  generalize hAe : va_A [] s.heap.size = A at hD ⊢
  have hA : ∀ q : Nat, s.heap.size ≤ q → A q := fun q h => by rw [← hAe]; exact Or.inr h
  have hS : va_S A s.heap s.heap [] := va_S.rf
  have hP : va_P (dC, dI) vwCl [] s.heap := hP
  have hl := lv_entry ([.int p0, .int p1]) (n := 2) (Nat.le_of_ble_eq_true rfl)
  rw [lg_entry_eq]
  generalize (lg_sl ([.int p0, .int p1]) ++ List.replicate (2 - (lg_sl ([.int p0, .int p1])).length) Slot.unset).toArray = ls at hl ⊢
  have hl : lv_has ls 2 [(0, .int p0), (1, .int p1)] := hl
  refine lv_sipush (v := 11900) hx hb dX12_r_0 (by decide) ?_
  refine lv_bipush (v := 6) hx hb dX12_r_3 (by decide) ?_
  refine lv_iload_n hx hb dX12_r_5 rfl (lv_at hl 0 rfl) ?_
  refine lv_imul hx hb dX12_r_6 ?_
  refine lv_iadd hx hb dX12_r_7 ?_
  refine lv_iload_n hx hb dX12_r_8 rfl (lv_at hl 1 rfl) ?_
  refine lv_iadd hx hb dX12_r_9 ?_
  exact W.iret (v := ((11900 + (6 * p0)) + p1)) hx hb hr (fun t ht hW => ⟨⟨((11900 + (6 * p0)) + p1), (), rfl, rfl, trivial⟩, hS.F ht⟩) hS.2.2 dX12_r_10
set_option maxHeartbeats 4000000 in
set_option maxRecDepth 100000 in
theorem c_X12_put (l : Launch) (dC : Nat → ClassId) (dI : Nat → Nat → Nat) (z : Nat) (tm : Nat) (a9 : Nat) (nw : Nat) (a11 : Nat) (a12 : Nat) (a16 : Nat) (a17 : Nat) (a18 : Nat) (a19 : Nat) (a20 : Nat) (a21 : Nat) (a22 : Nat) (a23 : Nat) (a24 : Nat) (a25 : Nat) (a26 : Nat) (a28 : Nat) (a29 : Nat) (a30 : Nat) (a31 : Nat) (a32 : Nat) (a33 : Nat) (a35 : Nat) (a36 : Nat) (p1 : Int32) (p2 : Int32) (p3 : Int32) (p4 : Int32) (p5 : Int32) (sz : Nat) : Met l yX12_put (Cond.code yX12_put cX12_put 6 (some .int) :: wsU) ({ frames := 0, cells := 0, slots := 0, locals := 0 }) (va_Pc [.ref z, .int p1, .int p2, .int p3, .int p4, .int p5] (kz_B (dC, dI) sz [(z, .inr (12, [.ref tm, .int 0, .int 0, .int 0, .int 0, .int 0, .int 0, .int 0, .int 0, .ref a9, .ref nw, .ref a11, .ref a12, .int 0, .int 0, .int 0, .ref a16, .ref a17, .ref a18, .ref a19, .ref a20, .ref a21, .ref a22, .ref a23, .ref a24, .ref a25, .ref a26, .int 0, .ref a28, .ref a29, .ref a30, .ref a31, .ref a32, .ref a33, .int 0, .ref a35, .ref a36]))] [])) (va_Qi (fun (r : Int32) (_ : Unit) => r = (-1)) (fun _ _ => True) (va_A [(z, .inr (12, [.ref tm, .int 0, .int 0, .int 0, .int 0, .int 0, .int 0, .int 0, .int 0, .ref a9, .ref nw, .ref a11, .ref a12, .int 0, .int 0, .int 0, .ref a16, .ref a17, .ref a18, .ref a19, .ref a20, .ref a21, .ref a22, .ref a23, .ref a24, .ref a25, .ref a26, .int 0, .ref a28, .ref a29, .ref a30, .ref a31, .ref a32, .ref a33, .int 0, .ref a35, .ref a36]))] sz)) 0 0 (va_A [(z, .inr (12, [.ref tm, .int 0, .int 0, .int 0, .int 0, .int 0, .int 0, .int 0, .int 0, .ref a9, .ref nw, .ref a11, .ref a12, .int 0, .int 0, .int 0, .ref a16, .ref a17, .ref a18, .ref a19, .ref a20, .ref a21, .ref a22, .ref a23, .ref a24, .ref a25, .ref a26, .int 0, .ref a28, .ref a29, .ref a30, .ref a31, .ref a32, .ref a33, .int 0, .ref a35, .ref a36]))] sz) := by
  refine Met.ofW (cc := cX12_put) (maxL := 6) (ret := (some .int)) (by decide) rfl ?_
  intro p e s m args below meth c s₁ B hml hv
  obtain ⟨rfl, hsz, hP, hK, hD0⟩ := hv
  have hx := B.exec
  have hb := B.bytes
  have hr := B.returns
  have hts := atoms_spec (ws := (Cond.code yX12_put cX12_put 6 (some .int) :: wsU)) B.pre
  have hts : ∀ w ∈ wsU, w.before _ s = true := fun w h => hts w (List.mem_cons_of_mem _ h)
  have hown : s.vm.findClass RX12 = some m.cls := findClass_of_methodNamed B.named
  have hlocks := B.notSynchronized
  subst hsz
  have hD := hD0.self (sz := s.heap.size)
  generalize hAe : va_A [(z, .inr (12, [.ref tm, .int 0, .int 0, .int 0, .int 0, .int 0, .int 0, .int 0, .int 0, .ref a9, .ref nw, .ref a11, .ref a12, .int 0, .int 0, .int 0, .ref a16, .ref a17, .ref a18, .ref a19, .ref a20, .ref a21, .ref a22, .ref a23, .ref a24, .ref a25, .ref a26, .int 0, .ref a28, .ref a29, .ref a30, .ref a31, .ref a32, .ref a33, .int 0, .ref a35, .ref a36]))] s.heap.size = A at hD ⊢
  have hA : ∀ q : Nat, s.heap.size ≤ q → A q := fun q h => by rw [← hAe]; exact Or.inr h
  have hS : va_S A s.heap s.heap [] := va_S.rf
  have hP : va_P (dC, dI) vwCl [(z, .inr (12, [.ref tm, .int 0, .int 0, .int 0, .int 0, .int 0, .int 0, .int 0, .int 0, .ref a9, .ref nw, .ref a11, .ref a12, .int 0, .int 0, .int 0, .ref a16, .ref a17, .ref a18, .ref a19, .ref a20, .ref a21, .ref a22, .ref a23, .ref a24, .ref a25, .ref a26, .int 0, .ref a28, .ref a29, .ref a30, .ref a31, .ref a32, .ref a33, .int 0, .ref a35, .ref a36]))] s.heap := hP
  have hl := lv_entry ([.ref z, .int p1, .int p2, .int p3, .int p4, .int p5]) (n := 6) (Nat.le_of_ble_eq_true rfl)
  rw [lg_entry_eq]
  generalize (lg_sl ([.ref z, .int p1, .int p2, .int p3, .int p4, .int p5]) ++ List.replicate (6 - (lg_sl ([.ref z, .int p1, .int p2, .int p3, .int p4, .int p5])).length) Slot.unset).toArray = ls at hl ⊢
  have hl : lv_has ls 6 [(0, .ref z), (1, .int p1), (2, .int p2), (3, .int p3), (4, .int p4), (5, .int p5)] := hl
  refine lv_aload_n hx hb dX12_put_0 rfl (lv_at hl 0 rfl) ?_
  refine va_get (D := (dC, dI)) (ci := 12) (v := .int 0) (C := RX12) (T := TX12) (N := 37) hx hb hts inlX12 hown hK hP 0 rfl rfl 13 (by decide) (hts _ qw_602) (fun _ h9 => h9) rfl dX12_put_1 ?_
  refine lv_if_eq (tgt := 31) hx hb dX12_put_4 (by decide) (fun _ => ?_) (fun c9 => absurd (by decide) c9)
  refine lv_iconst (v := (-1)) hx hb dX12_put_31 (by decide) ?_
  exact W.iret (v := (-1)) hx hb hr (fun t ht hW => ⟨⟨(-1), (), rfl, rfl, trivial⟩, hS.F ht⟩) hS.2.2 dX12_put_32
set_option maxHeartbeats 4000000 in
set_option maxRecDepth 100000 in
theorem c_X12_bulk (l : Launch) (dC : Nat → ClassId) (dI : Nat → Nat → Nat) (z : Nat) (tm : Nat) (a9 : Nat) (nw : Nat) (a11 : Nat) (a12 : Nat) (a16 : Nat) (a17 : Nat) (a18 : Nat) (a19 : Nat) (a20 : Nat) (a21 : Nat) (a22 : Nat) (a23 : Nat) (a24 : Nat) (a25 : Nat) (a26 : Nat) (a28 : Nat) (a29 : Nat) (a30 : Nat) (a31 : Nat) (a32 : Nat) (a33 : Nat) (a35 : Nat) (a36 : Nat) (sz : Nat) : Met l yX12_bulk (Cond.code yX12_bulk cX12_bulk 4 (some .int) :: wsU) ({ frames := 0, cells := 0, slots := 0, locals := 0 }) (va_Pc [.ref z] (kz_B (dC, dI) sz [(z, .inr (12, [.ref tm, .int 0, .int 0, .int 0, .int 0, .int 0, .int 0, .int 0, .int 0, .ref a9, .ref nw, .ref a11, .ref a12, .int 0, .int 0, .int 0, .ref a16, .ref a17, .ref a18, .ref a19, .ref a20, .ref a21, .ref a22, .ref a23, .ref a24, .ref a25, .ref a26, .int 0, .ref a28, .ref a29, .ref a30, .ref a31, .ref a32, .ref a33, .int 0, .ref a35, .ref a36]))] [])) (va_Qi (fun (r : Int32) (_ : Unit) => r = (-1)) (fun _ _ => True) (va_A [(z, .inr (12, [.ref tm, .int 0, .int 0, .int 0, .int 0, .int 0, .int 0, .int 0, .int 0, .ref a9, .ref nw, .ref a11, .ref a12, .int 0, .int 0, .int 0, .ref a16, .ref a17, .ref a18, .ref a19, .ref a20, .ref a21, .ref a22, .ref a23, .ref a24, .ref a25, .ref a26, .int 0, .ref a28, .ref a29, .ref a30, .ref a31, .ref a32, .ref a33, .int 0, .ref a35, .ref a36]))] sz)) 0 0 (va_A [(z, .inr (12, [.ref tm, .int 0, .int 0, .int 0, .int 0, .int 0, .int 0, .int 0, .int 0, .ref a9, .ref nw, .ref a11, .ref a12, .int 0, .int 0, .int 0, .ref a16, .ref a17, .ref a18, .ref a19, .ref a20, .ref a21, .ref a22, .ref a23, .ref a24, .ref a25, .ref a26, .int 0, .ref a28, .ref a29, .ref a30, .ref a31, .ref a32, .ref a33, .int 0, .ref a35, .ref a36]))] sz) := by
  refine Met.ofW (cc := cX12_bulk) (maxL := 4) (ret := (some .int)) (by decide) rfl ?_
  intro p e s m args below meth c s₁ B hml hv
  obtain ⟨rfl, hsz, hP, hK, hD0⟩ := hv
  have hx := B.exec
  have hb := B.bytes
  have hr := B.returns
  have hts := atoms_spec (ws := (Cond.code yX12_bulk cX12_bulk 4 (some .int) :: wsU)) B.pre
  have hts : ∀ w ∈ wsU, w.before _ s = true := fun w h => hts w (List.mem_cons_of_mem _ h)
  have hown : s.vm.findClass RX12 = some m.cls := findClass_of_methodNamed B.named
  have hlocks := B.notSynchronized
  subst hsz
  have hD := hD0.self (sz := s.heap.size)
  generalize hAe : va_A [(z, .inr (12, [.ref tm, .int 0, .int 0, .int 0, .int 0, .int 0, .int 0, .int 0, .int 0, .ref a9, .ref nw, .ref a11, .ref a12, .int 0, .int 0, .int 0, .ref a16, .ref a17, .ref a18, .ref a19, .ref a20, .ref a21, .ref a22, .ref a23, .ref a24, .ref a25, .ref a26, .int 0, .ref a28, .ref a29, .ref a30, .ref a31, .ref a32, .ref a33, .int 0, .ref a35, .ref a36]))] s.heap.size = A at hD ⊢
  have hA : ∀ q : Nat, s.heap.size ≤ q → A q := fun q h => by rw [← hAe]; exact Or.inr h
  have hS : va_S A s.heap s.heap [] := va_S.rf
  have hP : va_P (dC, dI) vwCl [(z, .inr (12, [.ref tm, .int 0, .int 0, .int 0, .int 0, .int 0, .int 0, .int 0, .int 0, .ref a9, .ref nw, .ref a11, .ref a12, .int 0, .int 0, .int 0, .ref a16, .ref a17, .ref a18, .ref a19, .ref a20, .ref a21, .ref a22, .ref a23, .ref a24, .ref a25, .ref a26, .int 0, .ref a28, .ref a29, .ref a30, .ref a31, .ref a32, .ref a33, .int 0, .ref a35, .ref a36]))] s.heap := hP
  have hl := lv_entry ([.ref z]) (n := 4) (Nat.le_of_ble_eq_true rfl)
  rw [lg_entry_eq]
  generalize (lg_sl ([.ref z]) ++ List.replicate (4 - (lg_sl ([.ref z])).length) Slot.unset).toArray = ls at hl ⊢
  have hl : lv_has ls 4 [(0, .ref z)] := hl
  refine lv_aload_n hx hb dX12_bulk_0 rfl (lv_at hl 0 rfl) ?_
  refine va_get (D := (dC, dI)) (ci := 12) (v := .int 0) (C := RX12) (T := TX12) (N := 37) hx hb hts inlX12 hown hK hP 0 rfl rfl 13 (by decide) (hts _ qw_602) (fun _ h9 => h9) rfl dX12_bulk_1 ?_
  refine lv_if_ne (tgt := 9) hx hb dX12_bulk_4 (by decide) (fun c9 => absurd c9 (by decide)) (fun _ => ?_)
  refine lv_iconst (v := (-1)) hx hb dX12_bulk_7 (by decide) ?_
  exact W.iret (v := (-1)) hx hb hr (fun t ht hW => ⟨⟨(-1), (), rfl, rfl, trivial⟩, hS.F ht⟩) hS.2.2 dX12_bulk_8
set_option maxHeartbeats 4000000 in
set_option maxRecDepth 100000 in
theorem c_X12_drawn (l : Launch) (dC : Nat → ClassId) (dI : Nat → Nat → Nat) (z : Nat) (tm : Nat) (a9 : Nat) (nw : Nat) (a11 : Nat) (a12 : Nat) (a16 : Nat) (a17 : Nat) (a18 : Nat) (a19 : Nat) (a20 : Nat) (a21 : Nat) (a22 : Nat) (a23 : Nat) (a24 : Nat) (a25 : Nat) (a26 : Nat) (a28 : Nat) (a29 : Nat) (a30 : Nat) (a31 : Nat) (a32 : Nat) (a33 : Nat) (a35 : Nat) (a36 : Nat) (p1 : Int32) (sz : Nat) : Met l yX12_drawn (Cond.code yX12_drawn cX12_drawn 8 (some .int) :: wsU) ({ frames := 0, cells := 0, slots := 0, locals := 0 }) (va_Pc [.ref z, .int p1] (kz_B (dC, dI) sz [(z, .inr (12, [.ref tm, .int 0, .int 0, .int 0, .int 0, .int 0, .int 0, .int 0, .int 0, .ref a9, .ref nw, .ref a11, .ref a12, .int 0, .int 0, .int 0, .ref a16, .ref a17, .ref a18, .ref a19, .ref a20, .ref a21, .ref a22, .ref a23, .ref a24, .ref a25, .ref a26, .int 0, .ref a28, .ref a29, .ref a30, .ref a31, .ref a32, .ref a33, .int 0, .ref a35, .ref a36]))] [])) (va_Qi (fun (r : Int32) (_ : Unit) => r = (-1)) (fun _ _ => True) (va_A [(z, .inr (12, [.ref tm, .int 0, .int 0, .int 0, .int 0, .int 0, .int 0, .int 0, .int 0, .ref a9, .ref nw, .ref a11, .ref a12, .int 0, .int 0, .int 0, .ref a16, .ref a17, .ref a18, .ref a19, .ref a20, .ref a21, .ref a22, .ref a23, .ref a24, .ref a25, .ref a26, .int 0, .ref a28, .ref a29, .ref a30, .ref a31, .ref a32, .ref a33, .int 0, .ref a35, .ref a36]))] sz)) 0 0 (va_A [(z, .inr (12, [.ref tm, .int 0, .int 0, .int 0, .int 0, .int 0, .int 0, .int 0, .int 0, .ref a9, .ref nw, .ref a11, .ref a12, .int 0, .int 0, .int 0, .ref a16, .ref a17, .ref a18, .ref a19, .ref a20, .ref a21, .ref a22, .ref a23, .ref a24, .ref a25, .ref a26, .int 0, .ref a28, .ref a29, .ref a30, .ref a31, .ref a32, .ref a33, .int 0, .ref a35, .ref a36]))] sz) := by
  refine Met.ofW (cc := cX12_drawn) (maxL := 8) (ret := (some .int)) (by decide) rfl ?_
  intro p e s m args below meth c s₁ B hml hv
  obtain ⟨rfl, hsz, hP, hK, hD0⟩ := hv
  have hx := B.exec
  have hb := B.bytes
  have hr := B.returns
  have hts := atoms_spec (ws := (Cond.code yX12_drawn cX12_drawn 8 (some .int) :: wsU)) B.pre
  have hts : ∀ w ∈ wsU, w.before _ s = true := fun w h => hts w (List.mem_cons_of_mem _ h)
  have hown : s.vm.findClass RX12 = some m.cls := findClass_of_methodNamed B.named
  have hlocks := B.notSynchronized
  subst hsz
  have hD := hD0.self (sz := s.heap.size)
  generalize hAe : va_A [(z, .inr (12, [.ref tm, .int 0, .int 0, .int 0, .int 0, .int 0, .int 0, .int 0, .int 0, .ref a9, .ref nw, .ref a11, .ref a12, .int 0, .int 0, .int 0, .ref a16, .ref a17, .ref a18, .ref a19, .ref a20, .ref a21, .ref a22, .ref a23, .ref a24, .ref a25, .ref a26, .int 0, .ref a28, .ref a29, .ref a30, .ref a31, .ref a32, .ref a33, .int 0, .ref a35, .ref a36]))] s.heap.size = A at hD ⊢
  have hA : ∀ q : Nat, s.heap.size ≤ q → A q := fun q h => by rw [← hAe]; exact Or.inr h
  have hS : va_S A s.heap s.heap [] := va_S.rf
  have hP : va_P (dC, dI) vwCl [(z, .inr (12, [.ref tm, .int 0, .int 0, .int 0, .int 0, .int 0, .int 0, .int 0, .int 0, .ref a9, .ref nw, .ref a11, .ref a12, .int 0, .int 0, .int 0, .ref a16, .ref a17, .ref a18, .ref a19, .ref a20, .ref a21, .ref a22, .ref a23, .ref a24, .ref a25, .ref a26, .int 0, .ref a28, .ref a29, .ref a30, .ref a31, .ref a32, .ref a33, .int 0, .ref a35, .ref a36]))] s.heap := hP
  have hl := lv_entry ([.ref z, .int p1]) (n := 8) (Nat.le_of_ble_eq_true rfl)
  rw [lg_entry_eq]
  generalize (lg_sl ([.ref z, .int p1]) ++ List.replicate (8 - (lg_sl ([.ref z, .int p1])).length) Slot.unset).toArray = ls at hl ⊢
  have hl : lv_has ls 8 [(0, .ref z), (1, .int p1)] := hl
  refine lv_aload_n hx hb dX12_drawn_0 rfl (lv_at hl 0 rfl) ?_
  refine va_get (D := (dC, dI)) (ci := 12) (v := .int 0) (C := RX12) (T := TX12) (N := 37) hx hb hts inlX12 hown hK hP 0 rfl rfl 13 (by decide) (hts _ qw_602) (fun _ h9 => h9) rfl dX12_drawn_1 ?_
  refine lv_if_eq (tgt := 19) hx hb dX12_drawn_4 (by decide) (fun _ => ?_) (fun c9 => absurd (by decide) c9)
  refine lv_iconst (v := (-1)) hx hb dX12_drawn_19 (by decide) ?_
  exact W.iret (v := (-1)) hx hb hr (fun t ht hW => ⟨⟨(-1), (), rfl, rfl, trivial⟩, hS.F ht⟩) hS.2.2 dX12_drawn_20
set_option maxHeartbeats 4000000 in
set_option maxRecDepth 100000 in
theorem c_X12_keep (l : Launch) (dC : Nat → ClassId) (dI : Nat → Nat → Nat) (z : Nat) (tm : Nat) (a9 : Nat) (nw : Nat) (a11 : Nat) (a12 : Nat) (a16 : Nat) (a17 : Nat) (a18 : Nat) (a19 : Nat) (a20 : Nat) (a21 : Nat) (a22 : Nat) (a23 : Nat) (a24 : Nat) (a25 : Nat) (a26 : Nat) (a28 : Nat) (a29 : Nat) (a30 : Nat) (a31 : Nat) (a32 : Nat) (a33 : Nat) (a35 : Nat) (a36 : Nat) (p1 : Int32) (sz : Nat) : Met l yX12_keep (Cond.code yX12_keep cX12_keep 2 (some .int) :: wsU) ({ frames := 0, cells := 0, slots := 0, locals := 0 }) (va_Pc [.ref z, .int p1] (kz_B (dC, dI) sz [(z, .inr (12, [.ref tm, .int 0, .int 0, .int 0, .int 0, .int 0, .int 0, .int 0, .int 0, .ref a9, .ref nw, .ref a11, .ref a12, .int 0, .int 0, .int 0, .ref a16, .ref a17, .ref a18, .ref a19, .ref a20, .ref a21, .ref a22, .ref a23, .ref a24, .ref a25, .ref a26, .int 0, .ref a28, .ref a29, .ref a30, .ref a31, .ref a32, .ref a33, .int 0, .ref a35, .ref a36]))] [])) (va_Qi (fun (r : Int32) (_ : Unit) => r = (-1)) (fun _ _ => True) (va_A [(z, .inr (12, [.ref tm, .int 0, .int 0, .int 0, .int 0, .int 0, .int 0, .int 0, .int 0, .ref a9, .ref nw, .ref a11, .ref a12, .int 0, .int 0, .int 0, .ref a16, .ref a17, .ref a18, .ref a19, .ref a20, .ref a21, .ref a22, .ref a23, .ref a24, .ref a25, .ref a26, .int 0, .ref a28, .ref a29, .ref a30, .ref a31, .ref a32, .ref a33, .int 0, .ref a35, .ref a36]))] sz)) 0 0 (va_A [(z, .inr (12, [.ref tm, .int 0, .int 0, .int 0, .int 0, .int 0, .int 0, .int 0, .int 0, .ref a9, .ref nw, .ref a11, .ref a12, .int 0, .int 0, .int 0, .ref a16, .ref a17, .ref a18, .ref a19, .ref a20, .ref a21, .ref a22, .ref a23, .ref a24, .ref a25, .ref a26, .int 0, .ref a28, .ref a29, .ref a30, .ref a31, .ref a32, .ref a33, .int 0, .ref a35, .ref a36]))] sz) := by
  refine Met.ofW (cc := cX12_keep) (maxL := 2) (ret := (some .int)) (by decide) rfl ?_
  intro p e s m args below meth c s₁ B hml hv
  obtain ⟨rfl, hsz, hP, hK, hD0⟩ := hv
  have hx := B.exec
  have hb := B.bytes
  have hr := B.returns
  have hts := atoms_spec (ws := (Cond.code yX12_keep cX12_keep 2 (some .int) :: wsU)) B.pre
  have hts : ∀ w ∈ wsU, w.before _ s = true := fun w h => hts w (List.mem_cons_of_mem _ h)
  have hown : s.vm.findClass RX12 = some m.cls := findClass_of_methodNamed B.named
  have hlocks := B.notSynchronized
  subst hsz
  have hD := hD0.self (sz := s.heap.size)
  generalize hAe : va_A [(z, .inr (12, [.ref tm, .int 0, .int 0, .int 0, .int 0, .int 0, .int 0, .int 0, .int 0, .ref a9, .ref nw, .ref a11, .ref a12, .int 0, .int 0, .int 0, .ref a16, .ref a17, .ref a18, .ref a19, .ref a20, .ref a21, .ref a22, .ref a23, .ref a24, .ref a25, .ref a26, .int 0, .ref a28, .ref a29, .ref a30, .ref a31, .ref a32, .ref a33, .int 0, .ref a35, .ref a36]))] s.heap.size = A at hD ⊢
  have hA : ∀ q : Nat, s.heap.size ≤ q → A q := fun q h => by rw [← hAe]; exact Or.inr h
  have hS : va_S A s.heap s.heap [] := va_S.rf
  have hP : va_P (dC, dI) vwCl [(z, .inr (12, [.ref tm, .int 0, .int 0, .int 0, .int 0, .int 0, .int 0, .int 0, .int 0, .ref a9, .ref nw, .ref a11, .ref a12, .int 0, .int 0, .int 0, .ref a16, .ref a17, .ref a18, .ref a19, .ref a20, .ref a21, .ref a22, .ref a23, .ref a24, .ref a25, .ref a26, .int 0, .ref a28, .ref a29, .ref a30, .ref a31, .ref a32, .ref a33, .int 0, .ref a35, .ref a36]))] s.heap := hP
  have hl := lv_entry ([.ref z, .int p1]) (n := 2) (Nat.le_of_ble_eq_true rfl)
  rw [lg_entry_eq]
  generalize (lg_sl ([.ref z, .int p1]) ++ List.replicate (2 - (lg_sl ([.ref z, .int p1])).length) Slot.unset).toArray = ls at hl ⊢
  have hl : lv_has ls 2 [(0, .ref z), (1, .int p1)] := hl
  refine lv_aload_n hx hb dX12_keep_0 rfl (lv_at hl 0 rfl) ?_
  refine va_get (D := (dC, dI)) (ci := 12) (v := .int 0) (C := RX12) (T := TX12) (N := 37) hx hb hts inlX12 hown hK hP 0 rfl rfl 13 (by decide) (hts _ qw_602) (fun _ h9 => h9) rfl dX12_keep_1 ?_
  refine lv_if_eq (tgt := 17) hx hb dX12_keep_4 (by decide) (fun _ => ?_) (fun c9 => absurd (by decide) c9)
  refine lv_iconst (v := (-1)) hx hb dX12_keep_17 (by decide) ?_
  exact W.iret (v := (-1)) hx hb hr (fun t ht hW => ⟨⟨(-1), (), rfl, rfl, trivial⟩, hS.F ht⟩) hS.2.2 dX12_keep_18
set_option maxHeartbeats 4000000 in
set_option maxRecDepth 100000 in
theorem c_X12_choose (l : Launch) (dC : Nat → ClassId) (dI : Nat → Nat → Nat) (z : Nat) (tm : Nat) (a9 : Nat) (nw : Nat) (a11 : Nat) (a12 : Nat) (a16 : Nat) (a17 : Nat) (a18 : Nat) (a19 : Nat) (a20 : Nat) (a21 : Nat) (a22 : Nat) (a23 : Nat) (a24 : Nat) (a25 : Nat) (a26 : Nat) (a28 : Nat) (a29 : Nat) (a30 : Nat) (a31 : Nat) (a32 : Nat) (a33 : Nat) (a35 : Nat) (a36 : Nat) (p1 : Int32) (p2 : Int32) (p3 : Int32) (p4 : Int32) (sz : Nat) : Met l yX12_choose (Cond.code yX12_choose cX12_choose 5 (some .int) :: wsU) ({ frames := 0, cells := 0, slots := 0, locals := 0 }) (va_Pc [.ref z, .int p1, .int p2, .int p3, .int p4] (kz_B (dC, dI) sz [(z, .inr (12, [.ref tm, .int 0, .int 0, .int 0, .int 0, .int 0, .int 0, .int 0, .int 0, .ref a9, .ref nw, .ref a11, .ref a12, .int 0, .int 0, .int 0, .ref a16, .ref a17, .ref a18, .ref a19, .ref a20, .ref a21, .ref a22, .ref a23, .ref a24, .ref a25, .ref a26, .int 0, .ref a28, .ref a29, .ref a30, .ref a31, .ref a32, .ref a33, .int 0, .ref a35, .ref a36]))] [])) (va_Qi (fun (r : Int32) (_ : Unit) => r = (-1)) (fun _ _ => True) (va_A [(z, .inr (12, [.ref tm, .int 0, .int 0, .int 0, .int 0, .int 0, .int 0, .int 0, .int 0, .ref a9, .ref nw, .ref a11, .ref a12, .int 0, .int 0, .int 0, .ref a16, .ref a17, .ref a18, .ref a19, .ref a20, .ref a21, .ref a22, .ref a23, .ref a24, .ref a25, .ref a26, .int 0, .ref a28, .ref a29, .ref a30, .ref a31, .ref a32, .ref a33, .int 0, .ref a35, .ref a36]))] sz)) 0 0 (va_A [(z, .inr (12, [.ref tm, .int 0, .int 0, .int 0, .int 0, .int 0, .int 0, .int 0, .int 0, .ref a9, .ref nw, .ref a11, .ref a12, .int 0, .int 0, .int 0, .ref a16, .ref a17, .ref a18, .ref a19, .ref a20, .ref a21, .ref a22, .ref a23, .ref a24, .ref a25, .ref a26, .int 0, .ref a28, .ref a29, .ref a30, .ref a31, .ref a32, .ref a33, .int 0, .ref a35, .ref a36]))] sz) := by
  refine Met.ofW (cc := cX12_choose) (maxL := 5) (ret := (some .int)) (by decide) rfl ?_
  intro p e s m args below meth c s₁ B hml hv
  obtain ⟨rfl, hsz, hP, hK, hD0⟩ := hv
  have hx := B.exec
  have hb := B.bytes
  have hr := B.returns
  have hts := atoms_spec (ws := (Cond.code yX12_choose cX12_choose 5 (some .int) :: wsU)) B.pre
  have hts : ∀ w ∈ wsU, w.before _ s = true := fun w h => hts w (List.mem_cons_of_mem _ h)
  have hown : s.vm.findClass RX12 = some m.cls := findClass_of_methodNamed B.named
  have hlocks := B.notSynchronized
  subst hsz
  have hD := hD0.self (sz := s.heap.size)
  generalize hAe : va_A [(z, .inr (12, [.ref tm, .int 0, .int 0, .int 0, .int 0, .int 0, .int 0, .int 0, .int 0, .ref a9, .ref nw, .ref a11, .ref a12, .int 0, .int 0, .int 0, .ref a16, .ref a17, .ref a18, .ref a19, .ref a20, .ref a21, .ref a22, .ref a23, .ref a24, .ref a25, .ref a26, .int 0, .ref a28, .ref a29, .ref a30, .ref a31, .ref a32, .ref a33, .int 0, .ref a35, .ref a36]))] s.heap.size = A at hD ⊢
  have hA : ∀ q : Nat, s.heap.size ≤ q → A q := fun q h => by rw [← hAe]; exact Or.inr h
  have hS : va_S A s.heap s.heap [] := va_S.rf
  have hP : va_P (dC, dI) vwCl [(z, .inr (12, [.ref tm, .int 0, .int 0, .int 0, .int 0, .int 0, .int 0, .int 0, .int 0, .ref a9, .ref nw, .ref a11, .ref a12, .int 0, .int 0, .int 0, .ref a16, .ref a17, .ref a18, .ref a19, .ref a20, .ref a21, .ref a22, .ref a23, .ref a24, .ref a25, .ref a26, .int 0, .ref a28, .ref a29, .ref a30, .ref a31, .ref a32, .ref a33, .int 0, .ref a35, .ref a36]))] s.heap := hP
  have hl := lv_entry ([.ref z, .int p1, .int p2, .int p3, .int p4]) (n := 5) (Nat.le_of_ble_eq_true rfl)
  rw [lg_entry_eq]
  generalize (lg_sl ([.ref z, .int p1, .int p2, .int p3, .int p4]) ++ List.replicate (5 - (lg_sl ([.ref z, .int p1, .int p2, .int p3, .int p4])).length) Slot.unset).toArray = ls at hl ⊢
  have hl : lv_has ls 5 [(0, .ref z), (1, .int p1), (2, .int p2), (3, .int p3), (4, .int p4)] := hl
  refine lv_aload_n hx hb dX12_choose_0 rfl (lv_at hl 0 rfl) ?_
  refine va_get (D := (dC, dI)) (ci := 12) (v := .int 0) (C := RX12) (T := TX12) (N := 37) hx hb hts inlX12 hown hK hP 0 rfl rfl 13 (by decide) (hts _ qw_602) (fun _ h9 => h9) rfl dX12_choose_1 ?_
  refine lv_if_eq (tgt := 18) hx hb dX12_choose_4 (by decide) (fun _ => ?_) (fun c9 => absurd (by decide) c9)
  refine lv_iconst (v := (-1)) hx hb dX12_choose_18 (by decide) ?_
  exact W.iret (v := (-1)) hx hb hr (fun t ht hW => ⟨⟨(-1), (), rfl, rfl, trivial⟩, hS.F ht⟩) hS.2.2 dX12_choose_19
set_option maxHeartbeats 4000000 in
set_option maxRecDepth 100000 in
theorem c_X12_window (l : Launch) (dC : Nat → ClassId) (dI : Nat → Nat → Nat) (z : Nat) (tm : Nat) (a9 : Nat) (nw : Nat) (a11 : Nat) (a12 : Nat) (a16 : Nat) (a17 : Nat) (a18 : Nat) (a19 : Nat) (a20 : Nat) (a21 : Nat) (a22 : Nat) (a23 : Nat) (a24 : Nat) (a25 : Nat) (a26 : Nat) (a28 : Nat) (a29 : Nat) (a30 : Nat) (a31 : Nat) (a32 : Nat) (a33 : Nat) (a35 : Nat) (a36 : Nat) (p1 : Int32) (p2 : Int32) (p3 : Int32) (p4 : Int32) (p5 : Int32) (sz : Nat) : Met l yX12_window (Cond.code yX12_window cX12_window 8 (some .int) :: wsU) ({ frames := 0, cells := 0, slots := 0, locals := 0 }) (va_Pc [.ref z, .int p1, .int p2, .int p3, .int p4, .int p5] (kz_B (dC, dI) sz [(z, .inr (12, [.ref tm, .int 0, .int 0, .int 0, .int 0, .int 0, .int 0, .int 0, .int 0, .ref a9, .ref nw, .ref a11, .ref a12, .int 0, .int 0, .int 0, .ref a16, .ref a17, .ref a18, .ref a19, .ref a20, .ref a21, .ref a22, .ref a23, .ref a24, .ref a25, .ref a26, .int 0, .ref a28, .ref a29, .ref a30, .ref a31, .ref a32, .ref a33, .int 0, .ref a35, .ref a36]))] [])) (va_Qi (fun (r : Int32) (_ : Unit) => r = (-1)) (fun _ _ => True) (va_A [(z, .inr (12, [.ref tm, .int 0, .int 0, .int 0, .int 0, .int 0, .int 0, .int 0, .int 0, .ref a9, .ref nw, .ref a11, .ref a12, .int 0, .int 0, .int 0, .ref a16, .ref a17, .ref a18, .ref a19, .ref a20, .ref a21, .ref a22, .ref a23, .ref a24, .ref a25, .ref a26, .int 0, .ref a28, .ref a29, .ref a30, .ref a31, .ref a32, .ref a33, .int 0, .ref a35, .ref a36]))] sz)) 0 0 (va_A [(z, .inr (12, [.ref tm, .int 0, .int 0, .int 0, .int 0, .int 0, .int 0, .int 0, .int 0, .ref a9, .ref nw, .ref a11, .ref a12, .int 0, .int 0, .int 0, .ref a16, .ref a17, .ref a18, .ref a19, .ref a20, .ref a21, .ref a22, .ref a23, .ref a24, .ref a25, .ref a26, .int 0, .ref a28, .ref a29, .ref a30, .ref a31, .ref a32, .ref a33, .int 0, .ref a35, .ref a36]))] sz) := by
  refine Met.ofW (cc := cX12_window) (maxL := 8) (ret := (some .int)) (by decide) rfl ?_
  intro p e s m args below meth c s₁ B hml hv
  obtain ⟨rfl, hsz, hP, hK, hD0⟩ := hv
  have hx := B.exec
  have hb := B.bytes
  have hr := B.returns
  have hts := atoms_spec (ws := (Cond.code yX12_window cX12_window 8 (some .int) :: wsU)) B.pre
  have hts : ∀ w ∈ wsU, w.before _ s = true := fun w h => hts w (List.mem_cons_of_mem _ h)
  have hown : s.vm.findClass RX12 = some m.cls := findClass_of_methodNamed B.named
  have hlocks := B.notSynchronized
  subst hsz
  have hD := hD0.self (sz := s.heap.size)
  generalize hAe : va_A [(z, .inr (12, [.ref tm, .int 0, .int 0, .int 0, .int 0, .int 0, .int 0, .int 0, .int 0, .ref a9, .ref nw, .ref a11, .ref a12, .int 0, .int 0, .int 0, .ref a16, .ref a17, .ref a18, .ref a19, .ref a20, .ref a21, .ref a22, .ref a23, .ref a24, .ref a25, .ref a26, .int 0, .ref a28, .ref a29, .ref a30, .ref a31, .ref a32, .ref a33, .int 0, .ref a35, .ref a36]))] s.heap.size = A at hD ⊢
  have hA : ∀ q : Nat, s.heap.size ≤ q → A q := fun q h => by rw [← hAe]; exact Or.inr h
  have hS : va_S A s.heap s.heap [] := va_S.rf
  have hP : va_P (dC, dI) vwCl [(z, .inr (12, [.ref tm, .int 0, .int 0, .int 0, .int 0, .int 0, .int 0, .int 0, .int 0, .ref a9, .ref nw, .ref a11, .ref a12, .int 0, .int 0, .int 0, .ref a16, .ref a17, .ref a18, .ref a19, .ref a20, .ref a21, .ref a22, .ref a23, .ref a24, .ref a25, .ref a26, .int 0, .ref a28, .ref a29, .ref a30, .ref a31, .ref a32, .ref a33, .int 0, .ref a35, .ref a36]))] s.heap := hP
  have hl := lv_entry ([.ref z, .int p1, .int p2, .int p3, .int p4, .int p5]) (n := 8) (Nat.le_of_ble_eq_true rfl)
  rw [lg_entry_eq]
  generalize (lg_sl ([.ref z, .int p1, .int p2, .int p3, .int p4, .int p5]) ++ List.replicate (8 - (lg_sl ([.ref z, .int p1, .int p2, .int p3, .int p4, .int p5])).length) Slot.unset).toArray = ls at hl ⊢
  have hl : lv_has ls 8 [(0, .ref z), (1, .int p1), (2, .int p2), (3, .int p3), (4, .int p4), (5, .int p5)] := hl
  refine lv_aload_n hx hb dX12_window_0 rfl (lv_at hl 0 rfl) ?_
  refine va_get (D := (dC, dI)) (ci := 12) (v := .int 0) (C := RX12) (T := TX12) (N := 37) hx hb hts inlX12 hown hK hP 0 rfl rfl 13 (by decide) (hts _ qw_602) (fun _ h9 => h9) rfl dX12_window_1 ?_
  refine lv_if_eq (tgt := 25) hx hb dX12_window_4 (by decide) (fun _ => ?_) (fun c9 => absurd (by decide) c9)
  refine lv_iconst (v := (-1)) hx hb dX12_window_25 (by decide) ?_
  exact W.iret (v := (-1)) hx hb hr (fun t ht hW => ⟨⟨(-1), (), rfl, rfl, trivial⟩, hS.F ht⟩) hS.2.2 dX12_window_26
set_option maxHeartbeats 4000000 in
set_option maxRecDepth 100000 in
theorem c_X12_nearest (l : Launch) (dC : Nat → ClassId) (dI : Nat → Nat → Nat) (z : Nat) (tm : Nat) (a9 : Nat) (nw : Nat) (a11 : Nat) (a12 : Nat) (a16 : Nat) (a17 : Nat) (a18 : Nat) (a19 : Nat) (a20 : Nat) (a21 : Nat) (a22 : Nat) (a23 : Nat) (a24 : Nat) (a25 : Nat) (a26 : Nat) (a28 : Nat) (a29 : Nat) (a30 : Nat) (a31 : Nat) (a32 : Nat) (a33 : Nat) (a35 : Nat) (a36 : Nat) (p1 : Int32) (p2 : Int32) (p3 : Int32) (p4 : Int32) (sz : Nat) : Met l yX12_nearest (Cond.code yX12_nearest cX12_nearest 12 (some .int) :: wsU) ({ frames := 0, cells := 0, slots := 0, locals := 0 }) (va_Pc [.ref z, .int p1, .int p2, .int p3, .int p4] (kz_B (dC, dI) sz [(z, .inr (12, [.ref tm, .int 0, .int 0, .int 0, .int 0, .int 0, .int 0, .int 0, .int 0, .ref a9, .ref nw, .ref a11, .ref a12, .int 0, .int 0, .int 0, .ref a16, .ref a17, .ref a18, .ref a19, .ref a20, .ref a21, .ref a22, .ref a23, .ref a24, .ref a25, .ref a26, .int 0, .ref a28, .ref a29, .ref a30, .ref a31, .ref a32, .ref a33, .int 0, .ref a35, .ref a36]))] [])) (va_Qi (fun (r : Int32) (_ : Unit) => r = (-1)) (fun _ _ => True) (va_A [(z, .inr (12, [.ref tm, .int 0, .int 0, .int 0, .int 0, .int 0, .int 0, .int 0, .int 0, .ref a9, .ref nw, .ref a11, .ref a12, .int 0, .int 0, .int 0, .ref a16, .ref a17, .ref a18, .ref a19, .ref a20, .ref a21, .ref a22, .ref a23, .ref a24, .ref a25, .ref a26, .int 0, .ref a28, .ref a29, .ref a30, .ref a31, .ref a32, .ref a33, .int 0, .ref a35, .ref a36]))] sz)) 0 0 (va_A [(z, .inr (12, [.ref tm, .int 0, .int 0, .int 0, .int 0, .int 0, .int 0, .int 0, .int 0, .ref a9, .ref nw, .ref a11, .ref a12, .int 0, .int 0, .int 0, .ref a16, .ref a17, .ref a18, .ref a19, .ref a20, .ref a21, .ref a22, .ref a23, .ref a24, .ref a25, .ref a26, .int 0, .ref a28, .ref a29, .ref a30, .ref a31, .ref a32, .ref a33, .int 0, .ref a35, .ref a36]))] sz) := by
  refine Met.ofW (cc := cX12_nearest) (maxL := 12) (ret := (some .int)) (by decide) rfl ?_
  intro p e s m args below meth c s₁ B hml hv
  obtain ⟨rfl, hsz, hP, hK, hD0⟩ := hv
  have hx := B.exec
  have hb := B.bytes
  have hr := B.returns
  have hts := atoms_spec (ws := (Cond.code yX12_nearest cX12_nearest 12 (some .int) :: wsU)) B.pre
  have hts : ∀ w ∈ wsU, w.before _ s = true := fun w h => hts w (List.mem_cons_of_mem _ h)
  have hown : s.vm.findClass RX12 = some m.cls := findClass_of_methodNamed B.named
  have hlocks := B.notSynchronized
  subst hsz
  have hD := hD0.self (sz := s.heap.size)
  generalize hAe : va_A [(z, .inr (12, [.ref tm, .int 0, .int 0, .int 0, .int 0, .int 0, .int 0, .int 0, .int 0, .ref a9, .ref nw, .ref a11, .ref a12, .int 0, .int 0, .int 0, .ref a16, .ref a17, .ref a18, .ref a19, .ref a20, .ref a21, .ref a22, .ref a23, .ref a24, .ref a25, .ref a26, .int 0, .ref a28, .ref a29, .ref a30, .ref a31, .ref a32, .ref a33, .int 0, .ref a35, .ref a36]))] s.heap.size = A at hD ⊢
  have hA : ∀ q : Nat, s.heap.size ≤ q → A q := fun q h => by rw [← hAe]; exact Or.inr h
  have hS : va_S A s.heap s.heap [] := va_S.rf
  have hP : va_P (dC, dI) vwCl [(z, .inr (12, [.ref tm, .int 0, .int 0, .int 0, .int 0, .int 0, .int 0, .int 0, .int 0, .ref a9, .ref nw, .ref a11, .ref a12, .int 0, .int 0, .int 0, .ref a16, .ref a17, .ref a18, .ref a19, .ref a20, .ref a21, .ref a22, .ref a23, .ref a24, .ref a25, .ref a26, .int 0, .ref a28, .ref a29, .ref a30, .ref a31, .ref a32, .ref a33, .int 0, .ref a35, .ref a36]))] s.heap := hP
  have hl := lv_entry ([.ref z, .int p1, .int p2, .int p3, .int p4]) (n := 12) (Nat.le_of_ble_eq_true rfl)
  rw [lg_entry_eq]
  generalize (lg_sl ([.ref z, .int p1, .int p2, .int p3, .int p4]) ++ List.replicate (12 - (lg_sl ([.ref z, .int p1, .int p2, .int p3, .int p4])).length) Slot.unset).toArray = ls at hl ⊢
  have hl : lv_has ls 12 [(0, .ref z), (1, .int p1), (2, .int p2), (3, .int p3), (4, .int p4)] := hl
  refine lv_aload_n hx hb dX12_nearest_0 rfl (lv_at hl 0 rfl) ?_
  refine va_get (D := (dC, dI)) (ci := 12) (v := .int 0) (C := RX12) (T := TX12) (N := 37) hx hb hts inlX12 hown hK hP 0 rfl rfl 13 (by decide) (hts _ qw_602) (fun _ h9 => h9) rfl dX12_nearest_1 ?_
  refine lv_if_eq (tgt := 52) hx hb dX12_nearest_4 (by decide) (fun _ => ?_) (fun c9 => absurd (by decide) c9)
  refine lv_iconst (v := (-1)) hx hb dX12_nearest_52 (by decide) ?_
  exact W.iret (v := (-1)) hx hb hr (fun t ht hW => ⟨⟨(-1), (), rfl, rfl, trivial⟩, hS.F ht⟩) hS.2.2 dX12_nearest_53
set_option maxHeartbeats 4000000 in
set_option maxRecDepth 100000 in
theorem c_X12_pairs (l : Launch) (dC : Nat → ClassId) (dI : Nat → Nat → Nat) (z : Nat) (tm : Nat) (a9 : Nat) (nw : Nat) (a11 : Nat) (a12 : Nat) (a16 : Nat) (a17 : Nat) (a18 : Nat) (a19 : Nat) (a20 : Nat) (a21 : Nat) (a22 : Nat) (a23 : Nat) (a24 : Nat) (a25 : Nat) (a26 : Nat) (a28 : Nat) (a29 : Nat) (a30 : Nat) (a31 : Nat) (a32 : Nat) (a33 : Nat) (a35 : Nat) (a36 : Nat) (sz : Nat) : Met l yX12_pairs (Cond.code yX12_pairs cX12_pairs 5 (some .int) :: wsU) ({ frames := 0, cells := 0, slots := 0, locals := 0 }) (va_Pc [.ref z] (kz_B (dC, dI) sz [(z, .inr (12, [.ref tm, .int 0, .int 0, .int 0, .int 0, .int 0, .int 0, .int 0, .int 0, .ref a9, .ref nw, .ref a11, .ref a12, .int 0, .int 0, .int 0, .ref a16, .ref a17, .ref a18, .ref a19, .ref a20, .ref a21, .ref a22, .ref a23, .ref a24, .ref a25, .ref a26, .int 0, .ref a28, .ref a29, .ref a30, .ref a31, .ref a32, .ref a33, .int 0, .ref a35, .ref a36]))] [])) (va_Qi (fun (r : Int32) (_ : Unit) => r = (-1)) (fun _ _ => True) (va_A [(z, .inr (12, [.ref tm, .int 0, .int 0, .int 0, .int 0, .int 0, .int 0, .int 0, .int 0, .ref a9, .ref nw, .ref a11, .ref a12, .int 0, .int 0, .int 0, .ref a16, .ref a17, .ref a18, .ref a19, .ref a20, .ref a21, .ref a22, .ref a23, .ref a24, .ref a25, .ref a26, .int 0, .ref a28, .ref a29, .ref a30, .ref a31, .ref a32, .ref a33, .int 0, .ref a35, .ref a36]))] sz)) 0 0 (va_A [(z, .inr (12, [.ref tm, .int 0, .int 0, .int 0, .int 0, .int 0, .int 0, .int 0, .int 0, .ref a9, .ref nw, .ref a11, .ref a12, .int 0, .int 0, .int 0, .ref a16, .ref a17, .ref a18, .ref a19, .ref a20, .ref a21, .ref a22, .ref a23, .ref a24, .ref a25, .ref a26, .int 0, .ref a28, .ref a29, .ref a30, .ref a31, .ref a32, .ref a33, .int 0, .ref a35, .ref a36]))] sz) := by
  refine Met.ofW (cc := cX12_pairs) (maxL := 5) (ret := (some .int)) (by decide) rfl ?_
  intro p e s m args below meth c s₁ B hml hv
  obtain ⟨rfl, hsz, hP, hK, hD0⟩ := hv
  have hx := B.exec
  have hb := B.bytes
  have hr := B.returns
  have hts := atoms_spec (ws := (Cond.code yX12_pairs cX12_pairs 5 (some .int) :: wsU)) B.pre
  have hts : ∀ w ∈ wsU, w.before _ s = true := fun w h => hts w (List.mem_cons_of_mem _ h)
  have hown : s.vm.findClass RX12 = some m.cls := findClass_of_methodNamed B.named
  have hlocks := B.notSynchronized
  subst hsz
  have hD := hD0.self (sz := s.heap.size)
  generalize hAe : va_A [(z, .inr (12, [.ref tm, .int 0, .int 0, .int 0, .int 0, .int 0, .int 0, .int 0, .int 0, .ref a9, .ref nw, .ref a11, .ref a12, .int 0, .int 0, .int 0, .ref a16, .ref a17, .ref a18, .ref a19, .ref a20, .ref a21, .ref a22, .ref a23, .ref a24, .ref a25, .ref a26, .int 0, .ref a28, .ref a29, .ref a30, .ref a31, .ref a32, .ref a33, .int 0, .ref a35, .ref a36]))] s.heap.size = A at hD ⊢
  have hA : ∀ q : Nat, s.heap.size ≤ q → A q := fun q h => by rw [← hAe]; exact Or.inr h
  have hS : va_S A s.heap s.heap [] := va_S.rf
  have hP : va_P (dC, dI) vwCl [(z, .inr (12, [.ref tm, .int 0, .int 0, .int 0, .int 0, .int 0, .int 0, .int 0, .int 0, .ref a9, .ref nw, .ref a11, .ref a12, .int 0, .int 0, .int 0, .ref a16, .ref a17, .ref a18, .ref a19, .ref a20, .ref a21, .ref a22, .ref a23, .ref a24, .ref a25, .ref a26, .int 0, .ref a28, .ref a29, .ref a30, .ref a31, .ref a32, .ref a33, .int 0, .ref a35, .ref a36]))] s.heap := hP
  have hl := lv_entry ([.ref z]) (n := 5) (Nat.le_of_ble_eq_true rfl)
  rw [lg_entry_eq]
  generalize (lg_sl ([.ref z]) ++ List.replicate (5 - (lg_sl ([.ref z])).length) Slot.unset).toArray = ls at hl ⊢
  have hl : lv_has ls 5 [(0, .ref z)] := hl
  refine lv_aload_n hx hb dX12_pairs_0 rfl (lv_at hl 0 rfl) ?_
  refine va_get (D := (dC, dI)) (ci := 12) (v := .int 0) (C := RX12) (T := TX12) (N := 37) hx hb hts inlX12 hown hK hP 0 rfl rfl 13 (by decide) (hts _ qw_602) (fun _ h9 => h9) rfl dX12_pairs_1 ?_
  refine lv_if_ne (tgt := 9) hx hb dX12_pairs_4 (by decide) (fun c9 => absurd c9 (by decide)) (fun _ => ?_)
  refine lv_iconst (v := (-1)) hx hb dX12_pairs_7 (by decide) ?_
  exact W.iret (v := (-1)) hx hb hr (fun t ht hW => ⟨⟨(-1), (), rfl, rfl, trivial⟩, hS.F ht⟩) hS.2.2 dX12_pairs_8
set_option maxHeartbeats 4000000 in
set_option maxRecDepth 100000 in
theorem c_X12_fill (l : Launch) (dC : Nat → ClassId) (dI : Nat → Nat → Nat) (z : Nat) (tm : Nat) (a9 : Nat) (nw : Nat) (a11 : Nat) (a12 : Nat) (a16 : Nat) (a17 : Nat) (a18 : Nat) (a19 : Nat) (a20 : Nat) (a21 : Nat) (a22 : Nat) (a23 : Nat) (a24 : Nat) (a25 : Nat) (a26 : Nat) (a28 : Nat) (a29 : Nat) (a30 : Nat) (a31 : Nat) (a32 : Nat) (a33 : Nat) (a35 : Nat) (a36 : Nat) (sz : Nat) : Met l yX12_fill (Cond.code yX12_fill cX12_fill 3 (some .int) :: wsU) ({ frames := 0, cells := 0, slots := 0, locals := 0 }) (va_Pc [.ref z] (kz_B (dC, dI) sz [(z, .inr (12, [.ref tm, .int 0, .int 0, .int 0, .int 0, .int 0, .int 0, .int 0, .int 0, .ref a9, .ref nw, .ref a11, .ref a12, .int 0, .int 0, .int 0, .ref a16, .ref a17, .ref a18, .ref a19, .ref a20, .ref a21, .ref a22, .ref a23, .ref a24, .ref a25, .ref a26, .int 0, .ref a28, .ref a29, .ref a30, .ref a31, .ref a32, .ref a33, .int 0, .ref a35, .ref a36]))] [])) (va_Qi (fun (r : Int32) (_ : Unit) => r = (-1)) (fun _ _ => True) (va_A [(z, .inr (12, [.ref tm, .int 0, .int 0, .int 0, .int 0, .int 0, .int 0, .int 0, .int 0, .ref a9, .ref nw, .ref a11, .ref a12, .int 0, .int 0, .int 0, .ref a16, .ref a17, .ref a18, .ref a19, .ref a20, .ref a21, .ref a22, .ref a23, .ref a24, .ref a25, .ref a26, .int 0, .ref a28, .ref a29, .ref a30, .ref a31, .ref a32, .ref a33, .int 0, .ref a35, .ref a36]))] sz)) 0 0 (va_A [(z, .inr (12, [.ref tm, .int 0, .int 0, .int 0, .int 0, .int 0, .int 0, .int 0, .int 0, .ref a9, .ref nw, .ref a11, .ref a12, .int 0, .int 0, .int 0, .ref a16, .ref a17, .ref a18, .ref a19, .ref a20, .ref a21, .ref a22, .ref a23, .ref a24, .ref a25, .ref a26, .int 0, .ref a28, .ref a29, .ref a30, .ref a31, .ref a32, .ref a33, .int 0, .ref a35, .ref a36]))] sz) := by
  refine Met.ofW (cc := cX12_fill) (maxL := 3) (ret := (some .int)) (by decide) rfl ?_
  intro p e s m args below meth c s₁ B hml hv
  obtain ⟨rfl, hsz, hP, hK, hD0⟩ := hv
  have hx := B.exec
  have hb := B.bytes
  have hr := B.returns
  have hts := atoms_spec (ws := (Cond.code yX12_fill cX12_fill 3 (some .int) :: wsU)) B.pre
  have hts : ∀ w ∈ wsU, w.before _ s = true := fun w h => hts w (List.mem_cons_of_mem _ h)
  have hown : s.vm.findClass RX12 = some m.cls := findClass_of_methodNamed B.named
  have hlocks := B.notSynchronized
  subst hsz
  have hD := hD0.self (sz := s.heap.size)
  generalize hAe : va_A [(z, .inr (12, [.ref tm, .int 0, .int 0, .int 0, .int 0, .int 0, .int 0, .int 0, .int 0, .ref a9, .ref nw, .ref a11, .ref a12, .int 0, .int 0, .int 0, .ref a16, .ref a17, .ref a18, .ref a19, .ref a20, .ref a21, .ref a22, .ref a23, .ref a24, .ref a25, .ref a26, .int 0, .ref a28, .ref a29, .ref a30, .ref a31, .ref a32, .ref a33, .int 0, .ref a35, .ref a36]))] s.heap.size = A at hD ⊢
  have hA : ∀ q : Nat, s.heap.size ≤ q → A q := fun q h => by rw [← hAe]; exact Or.inr h
  have hS : va_S A s.heap s.heap [] := va_S.rf
  have hP : va_P (dC, dI) vwCl [(z, .inr (12, [.ref tm, .int 0, .int 0, .int 0, .int 0, .int 0, .int 0, .int 0, .int 0, .ref a9, .ref nw, .ref a11, .ref a12, .int 0, .int 0, .int 0, .ref a16, .ref a17, .ref a18, .ref a19, .ref a20, .ref a21, .ref a22, .ref a23, .ref a24, .ref a25, .ref a26, .int 0, .ref a28, .ref a29, .ref a30, .ref a31, .ref a32, .ref a33, .int 0, .ref a35, .ref a36]))] s.heap := hP
  have hl := lv_entry ([.ref z]) (n := 3) (Nat.le_of_ble_eq_true rfl)
  rw [lg_entry_eq]
  generalize (lg_sl ([.ref z]) ++ List.replicate (3 - (lg_sl ([.ref z])).length) Slot.unset).toArray = ls at hl ⊢
  have hl : lv_has ls 3 [(0, .ref z)] := hl
  refine lv_aload_n hx hb dX12_fill_0 rfl (lv_at hl 0 rfl) ?_
  refine va_get (D := (dC, dI)) (ci := 12) (v := .int 0) (C := RX12) (T := TX12) (N := 37) hx hb hts inlX12 hown hK hP 0 rfl rfl 13 (by decide) (hts _ qw_602) (fun _ h9 => h9) rfl dX12_fill_1 ?_
  refine lv_if_ne (tgt := 9) hx hb dX12_fill_4 (by decide) (fun c9 => absurd c9 (by decide)) (fun _ => ?_)
  refine lv_iconst (v := (-1)) hx hb dX12_fill_7 (by decide) ?_
  exact W.iret (v := (-1)) hx hb hr (fun t ht hW => ⟨⟨(-1), (), rfl, rfl, trivial⟩, hS.F ht⟩) hS.2.2 dX12_fill_8
set_option maxHeartbeats 4000000 in
set_option maxRecDepth 100000 in
theorem c_X12_same (l : Launch) (dC : Nat → ClassId) (dI : Nat → Nat → Nat) (z : Nat) (tm : Nat) (a9 : Nat) (nw : Nat) (a11 : Nat) (a12 : Nat) (a16 : Nat) (a17 : Nat) (a18 : Nat) (a19 : Nat) (a20 : Nat) (a21 : Nat) (a22 : Nat) (a23 : Nat) (a24 : Nat) (a25 : Nat) (a26 : Nat) (a28 : Nat) (a29 : Nat) (a30 : Nat) (a31 : Nat) (a32 : Nat) (a33 : Nat) (a35 : Nat) (a36 : Nat) (p1 : Int32) (sz : Nat) : Met l yX12_same (Cond.code yX12_same cX12_same 2 (some .int) :: wsU) ({ frames := 0, cells := 0, slots := 0, locals := 0 }) (va_Pc [.ref z, .int p1] (kz_B (dC, dI) sz [(z, .inr (12, [.ref tm, .int 0, .int 0, .int 0, .int 0, .int 0, .int 0, .int 0, .int 0, .ref a9, .ref nw, .ref a11, .ref a12, .int 0, .int 0, .int 0, .ref a16, .ref a17, .ref a18, .ref a19, .ref a20, .ref a21, .ref a22, .ref a23, .ref a24, .ref a25, .ref a26, .int 0, .ref a28, .ref a29, .ref a30, .ref a31, .ref a32, .ref a33, .int 0, .ref a35, .ref a36]))] [])) (va_Qi (fun (r : Int32) (_ : Unit) => r = (-1)) (fun _ _ => True) (va_A [(z, .inr (12, [.ref tm, .int 0, .int 0, .int 0, .int 0, .int 0, .int 0, .int 0, .int 0, .ref a9, .ref nw, .ref a11, .ref a12, .int 0, .int 0, .int 0, .ref a16, .ref a17, .ref a18, .ref a19, .ref a20, .ref a21, .ref a22, .ref a23, .ref a24, .ref a25, .ref a26, .int 0, .ref a28, .ref a29, .ref a30, .ref a31, .ref a32, .ref a33, .int 0, .ref a35, .ref a36]))] sz)) 0 0 (va_A [(z, .inr (12, [.ref tm, .int 0, .int 0, .int 0, .int 0, .int 0, .int 0, .int 0, .int 0, .ref a9, .ref nw, .ref a11, .ref a12, .int 0, .int 0, .int 0, .ref a16, .ref a17, .ref a18, .ref a19, .ref a20, .ref a21, .ref a22, .ref a23, .ref a24, .ref a25, .ref a26, .int 0, .ref a28, .ref a29, .ref a30, .ref a31, .ref a32, .ref a33, .int 0, .ref a35, .ref a36]))] sz) := by
  refine Met.ofW (cc := cX12_same) (maxL := 2) (ret := (some .int)) (by decide) rfl ?_
  intro p e s m args below meth c s₁ B hml hv
  obtain ⟨rfl, hsz, hP, hK, hD0⟩ := hv
  have hx := B.exec
  have hb := B.bytes
  have hr := B.returns
  have hts := atoms_spec (ws := (Cond.code yX12_same cX12_same 2 (some .int) :: wsU)) B.pre
  have hts : ∀ w ∈ wsU, w.before _ s = true := fun w h => hts w (List.mem_cons_of_mem _ h)
  have hown : s.vm.findClass RX12 = some m.cls := findClass_of_methodNamed B.named
  have hlocks := B.notSynchronized
  subst hsz
  have hD := hD0.self (sz := s.heap.size)
  generalize hAe : va_A [(z, .inr (12, [.ref tm, .int 0, .int 0, .int 0, .int 0, .int 0, .int 0, .int 0, .int 0, .ref a9, .ref nw, .ref a11, .ref a12, .int 0, .int 0, .int 0, .ref a16, .ref a17, .ref a18, .ref a19, .ref a20, .ref a21, .ref a22, .ref a23, .ref a24, .ref a25, .ref a26, .int 0, .ref a28, .ref a29, .ref a30, .ref a31, .ref a32, .ref a33, .int 0, .ref a35, .ref a36]))] s.heap.size = A at hD ⊢
  have hA : ∀ q : Nat, s.heap.size ≤ q → A q := fun q h => by rw [← hAe]; exact Or.inr h
  have hS : va_S A s.heap s.heap [] := va_S.rf
  have hP : va_P (dC, dI) vwCl [(z, .inr (12, [.ref tm, .int 0, .int 0, .int 0, .int 0, .int 0, .int 0, .int 0, .int 0, .ref a9, .ref nw, .ref a11, .ref a12, .int 0, .int 0, .int 0, .ref a16, .ref a17, .ref a18, .ref a19, .ref a20, .ref a21, .ref a22, .ref a23, .ref a24, .ref a25, .ref a26, .int 0, .ref a28, .ref a29, .ref a30, .ref a31, .ref a32, .ref a33, .int 0, .ref a35, .ref a36]))] s.heap := hP
  have hl := lv_entry ([.ref z, .int p1]) (n := 2) (Nat.le_of_ble_eq_true rfl)
  rw [lg_entry_eq]
  generalize (lg_sl ([.ref z, .int p1]) ++ List.replicate (2 - (lg_sl ([.ref z, .int p1])).length) Slot.unset).toArray = ls at hl ⊢
  have hl : lv_has ls 2 [(0, .ref z), (1, .int p1)] := hl
  refine lv_aload_n hx hb dX12_same_0 rfl (lv_at hl 0 rfl) ?_
  refine va_get (D := (dC, dI)) (ci := 12) (v := .int 0) (C := RX12) (T := TX12) (N := 37) hx hb hts inlX12 hown hK hP 0 rfl rfl 13 (by decide) (hts _ qw_602) (fun _ h9 => h9) rfl dX12_same_1 ?_
  refine lv_if_eq (tgt := 17) hx hb dX12_same_4 (by decide) (fun _ => ?_) (fun c9 => absurd (by decide) c9)
  refine lv_iconst (v := (-1)) hx hb dX12_same_17 (by decide) ?_
  exact W.iret (v := (-1)) hx hb hr (fun t ht hW => ⟨⟨(-1), (), rfl, rfl, trivial⟩, hS.F ht⟩) hS.2.2 dX12_same_18
set_option maxHeartbeats 4000000 in
set_option maxRecDepth 100000 in
theorem c_X12_undo (l : Launch) (dC : Nat → ClassId) (dI : Nat → Nat → Nat) (z : Nat) (tm : Nat) (a9 : Nat) (nw : Nat) (a11 : Nat) (a12 : Nat) (a16 : Nat) (a17 : Nat) (a18 : Nat) (a19 : Nat) (a20 : Nat) (a21 : Nat) (a22 : Nat) (a23 : Nat) (a24 : Nat) (a25 : Nat) (a26 : Nat) (a28 : Nat) (a29 : Nat) (a30 : Nat) (a31 : Nat) (a32 : Nat) (a33 : Nat) (a35 : Nat) (a36 : Nat) (sz : Nat) : Met l yX12_undo (Cond.code yX12_undo cX12_undo 1 (some .int) :: wsU) ({ frames := 0, cells := 0, slots := 0, locals := 0 }) (va_Pc [.ref z] (kz_B (dC, dI) sz [(z, .inr (12, [.ref tm, .int 0, .int 0, .int 0, .int 0, .int 0, .int 0, .int 0, .int 0, .ref a9, .ref nw, .ref a11, .ref a12, .int 0, .int 0, .int 0, .ref a16, .ref a17, .ref a18, .ref a19, .ref a20, .ref a21, .ref a22, .ref a23, .ref a24, .ref a25, .ref a26, .int 0, .ref a28, .ref a29, .ref a30, .ref a31, .ref a32, .ref a33, .int 0, .ref a35, .ref a36]))] [])) (va_Qi (fun (r : Int32) (_ : Unit) => r = (-1)) (fun _ _ => True) (va_A [(z, .inr (12, [.ref tm, .int 0, .int 0, .int 0, .int 0, .int 0, .int 0, .int 0, .int 0, .ref a9, .ref nw, .ref a11, .ref a12, .int 0, .int 0, .int 0, .ref a16, .ref a17, .ref a18, .ref a19, .ref a20, .ref a21, .ref a22, .ref a23, .ref a24, .ref a25, .ref a26, .int 0, .ref a28, .ref a29, .ref a30, .ref a31, .ref a32, .ref a33, .int 0, .ref a35, .ref a36]))] sz)) 0 0 (va_A [(z, .inr (12, [.ref tm, .int 0, .int 0, .int 0, .int 0, .int 0, .int 0, .int 0, .int 0, .ref a9, .ref nw, .ref a11, .ref a12, .int 0, .int 0, .int 0, .ref a16, .ref a17, .ref a18, .ref a19, .ref a20, .ref a21, .ref a22, .ref a23, .ref a24, .ref a25, .ref a26, .int 0, .ref a28, .ref a29, .ref a30, .ref a31, .ref a32, .ref a33, .int 0, .ref a35, .ref a36]))] sz) := by
  refine Met.ofW (cc := cX12_undo) (maxL := 1) (ret := (some .int)) (by decide) rfl ?_
  intro p e s m args below meth c s₁ B hml hv
  obtain ⟨rfl, hsz, hP, hK, hD0⟩ := hv
  have hx := B.exec
  have hb := B.bytes
  have hr := B.returns
  have hts := atoms_spec (ws := (Cond.code yX12_undo cX12_undo 1 (some .int) :: wsU)) B.pre
  have hts : ∀ w ∈ wsU, w.before _ s = true := fun w h => hts w (List.mem_cons_of_mem _ h)
  have hown : s.vm.findClass RX12 = some m.cls := findClass_of_methodNamed B.named
  have hlocks := B.notSynchronized
  subst hsz
  have hD := hD0.self (sz := s.heap.size)
  generalize hAe : va_A [(z, .inr (12, [.ref tm, .int 0, .int 0, .int 0, .int 0, .int 0, .int 0, .int 0, .int 0, .ref a9, .ref nw, .ref a11, .ref a12, .int 0, .int 0, .int 0, .ref a16, .ref a17, .ref a18, .ref a19, .ref a20, .ref a21, .ref a22, .ref a23, .ref a24, .ref a25, .ref a26, .int 0, .ref a28, .ref a29, .ref a30, .ref a31, .ref a32, .ref a33, .int 0, .ref a35, .ref a36]))] s.heap.size = A at hD ⊢
  have hA : ∀ q : Nat, s.heap.size ≤ q → A q := fun q h => by rw [← hAe]; exact Or.inr h
  have hS : va_S A s.heap s.heap [] := va_S.rf
  have hP : va_P (dC, dI) vwCl [(z, .inr (12, [.ref tm, .int 0, .int 0, .int 0, .int 0, .int 0, .int 0, .int 0, .int 0, .ref a9, .ref nw, .ref a11, .ref a12, .int 0, .int 0, .int 0, .ref a16, .ref a17, .ref a18, .ref a19, .ref a20, .ref a21, .ref a22, .ref a23, .ref a24, .ref a25, .ref a26, .int 0, .ref a28, .ref a29, .ref a30, .ref a31, .ref a32, .ref a33, .int 0, .ref a35, .ref a36]))] s.heap := hP
  have hl := lv_entry ([.ref z]) (n := 1) (Nat.le_of_ble_eq_true rfl)
  rw [lg_entry_eq]
  generalize (lg_sl ([.ref z]) ++ List.replicate (1 - (lg_sl ([.ref z])).length) Slot.unset).toArray = ls at hl ⊢
  have hl : lv_has ls 1 [(0, .ref z)] := hl
  refine lv_aload_n hx hb dX12_undo_0 rfl (lv_at hl 0 rfl) ?_
  refine va_get (D := (dC, dI)) (ci := 12) (v := .int 0) (C := RX12) (T := TX12) (N := 37) hx hb hts inlX12 hown hK hP 0 rfl rfl 14 (by decide) (hts _ qw_604) (fun _ h9 => h9) rfl dX12_undo_1 ?_
  refine lv_if_ne (tgt := 9) hx hb dX12_undo_4 (by decide) (fun c9 => absurd c9 (by decide)) (fun _ => ?_)
  refine lv_iconst (v := (-1)) hx hb dX12_undo_7 (by decide) ?_
  exact W.iret (v := (-1)) hx hb hr (fun t ht hW => ⟨⟨(-1), (), rfl, rfl, trivial⟩, hS.F ht⟩) hS.2.2 dX12_undo_8
set_option maxHeartbeats 4000000 in
set_option maxRecDepth 100000 in
theorem c_X12_union (l : Launch) (dC : Nat → ClassId) (dI : Nat → Nat → Nat) (z : Nat) (tm : Nat) (a9 : Nat) (nw : Nat) (a11 : Nat) (a12 : Nat) (a16 : Nat) (a17 : Nat) (a18 : Nat) (a19 : Nat) (a20 : Nat) (a21 : Nat) (a22 : Nat) (a23 : Nat) (a24 : Nat) (a25 : Nat) (a26 : Nat) (a28 : Nat) (a29 : Nat) (a30 : Nat) (a31 : Nat) (a32 : Nat) (a33 : Nat) (a35 : Nat) (a36 : Nat) (sz : Nat) : Met l yX12_union (Cond.code yX12_union cX12_union 6 (some .long) :: wsU) ({ frames := 0, cells := 0, slots := 0, locals := 0 }) (va_Pc [.ref z] (kz_B (dC, dI) sz [(z, .inr (12, [.ref tm, .int 0, .int 0, .int 0, .int 0, .int 0, .int 0, .int 0, .int 0, .ref a9, .ref nw, .ref a11, .ref a12, .int 0, .int 0, .int 0, .ref a16, .ref a17, .ref a18, .ref a19, .ref a20, .ref a21, .ref a22, .ref a23, .ref a24, .ref a25, .ref a26, .int 0, .ref a28, .ref a29, .ref a30, .ref a31, .ref a32, .ref a33, .int 0, .ref a35, .ref a36]))] [])) (va_Ql (fun (r : Int64) (_ : Unit) => r = (-1)) (fun _ _ => True) (va_A [(z, .inr (12, [.ref tm, .int 0, .int 0, .int 0, .int 0, .int 0, .int 0, .int 0, .int 0, .ref a9, .ref nw, .ref a11, .ref a12, .int 0, .int 0, .int 0, .ref a16, .ref a17, .ref a18, .ref a19, .ref a20, .ref a21, .ref a22, .ref a23, .ref a24, .ref a25, .ref a26, .int 0, .ref a28, .ref a29, .ref a30, .ref a31, .ref a32, .ref a33, .int 0, .ref a35, .ref a36]))] sz)) 0 0 (va_A [(z, .inr (12, [.ref tm, .int 0, .int 0, .int 0, .int 0, .int 0, .int 0, .int 0, .int 0, .ref a9, .ref nw, .ref a11, .ref a12, .int 0, .int 0, .int 0, .ref a16, .ref a17, .ref a18, .ref a19, .ref a20, .ref a21, .ref a22, .ref a23, .ref a24, .ref a25, .ref a26, .int 0, .ref a28, .ref a29, .ref a30, .ref a31, .ref a32, .ref a33, .int 0, .ref a35, .ref a36]))] sz) := by
  refine Met.ofW (cc := cX12_union) (maxL := 6) (ret := (some .long)) (by decide) rfl ?_
  intro p e s m args below meth c s₁ B hml hv
  obtain ⟨rfl, hsz, hP, hK, hD0⟩ := hv
  have hx := B.exec
  have hb := B.bytes
  have hr := B.returns
  have hts := atoms_spec (ws := (Cond.code yX12_union cX12_union 6 (some .long) :: wsU)) B.pre
  have hts : ∀ w ∈ wsU, w.before _ s = true := fun w h => hts w (List.mem_cons_of_mem _ h)
  have hown : s.vm.findClass RX12 = some m.cls := findClass_of_methodNamed B.named
  have hlocks := B.notSynchronized
  subst hsz
  have hD := hD0.self (sz := s.heap.size)
  generalize hAe : va_A [(z, .inr (12, [.ref tm, .int 0, .int 0, .int 0, .int 0, .int 0, .int 0, .int 0, .int 0, .ref a9, .ref nw, .ref a11, .ref a12, .int 0, .int 0, .int 0, .ref a16, .ref a17, .ref a18, .ref a19, .ref a20, .ref a21, .ref a22, .ref a23, .ref a24, .ref a25, .ref a26, .int 0, .ref a28, .ref a29, .ref a30, .ref a31, .ref a32, .ref a33, .int 0, .ref a35, .ref a36]))] s.heap.size = A at hD ⊢
  have hA : ∀ q : Nat, s.heap.size ≤ q → A q := fun q h => by rw [← hAe]; exact Or.inr h
  have hS : va_S A s.heap s.heap [] := va_S.rf
  have hP : va_P (dC, dI) vwCl [(z, .inr (12, [.ref tm, .int 0, .int 0, .int 0, .int 0, .int 0, .int 0, .int 0, .int 0, .ref a9, .ref nw, .ref a11, .ref a12, .int 0, .int 0, .int 0, .ref a16, .ref a17, .ref a18, .ref a19, .ref a20, .ref a21, .ref a22, .ref a23, .ref a24, .ref a25, .ref a26, .int 0, .ref a28, .ref a29, .ref a30, .ref a31, .ref a32, .ref a33, .int 0, .ref a35, .ref a36]))] s.heap := hP
  have hl := lv_entry ([.ref z]) (n := 6) (Nat.le_of_ble_eq_true rfl)
  rw [lg_entry_eq]
  generalize (lg_sl ([.ref z]) ++ List.replicate (6 - (lg_sl ([.ref z])).length) Slot.unset).toArray = ls at hl ⊢
  have hl : lv_has ls 6 [(0, .ref z)] := hl
  refine lv_aload_n hx hb dX12_union_0 rfl (lv_at hl 0 rfl) ?_
  refine va_get (D := (dC, dI)) (ci := 12) (v := .int 0) (C := RX12) (T := TX12) (N := 37) hx hb hts inlX12 hown hK hP 0 rfl rfl 13 (by decide) (hts _ qw_602) (fun _ h9 => h9) rfl dX12_union_1 ?_
  refine lv_if_ne (tgt := 11) hx hb dX12_union_4 (by decide) (fun c9 => absurd c9 (by decide)) (fun _ => ?_)
  refine lv_ldc2 (v := (-1)) hx hb hown (hts _ qw_1271) dX12_union_7 ?_
  exact W.lret (v := (-1)) hx hb hr (fun t ht hW => ⟨⟨(-1), (), rfl, rfl, trivial⟩, hS.F ht⟩) hS.2.2 dX12_union_10
set_option maxHeartbeats 4000000 in
set_option maxRecDepth 100000 in
theorem c_X12_cost (l : Launch) (dC : Nat → ClassId) (dI : Nat → Nat → Nat) (z : Nat) (tm : Nat) (a9 : Nat) (nw : Nat) (a11 : Nat) (a12 : Nat) (a16 : Nat) (a17 : Nat) (a18 : Nat) (a19 : Nat) (a20 : Nat) (a21 : Nat) (a22 : Nat) (a23 : Nat) (a24 : Nat) (a25 : Nat) (a26 : Nat) (a28 : Nat) (a29 : Nat) (a30 : Nat) (a31 : Nat) (a32 : Nat) (a33 : Nat) (a35 : Nat) (a36 : Nat) (p1 : Int32) (p2 : Int32) (sz : Nat) : Met l yX12_cost (Cond.code yX12_cost cX12_cost 11 (some .long) :: wsU) ({ frames := 0, cells := 0, slots := 0, locals := 0 }) (va_Pc [.ref z, .int p1, .int p2] (kz_B (dC, dI) sz [(z, .inr (12, [.ref tm, .int 0, .int 0, .int 0, .int 0, .int 0, .int 0, .int 0, .int 0, .ref a9, .ref nw, .ref a11, .ref a12, .int 0, .int 0, .int 0, .ref a16, .ref a17, .ref a18, .ref a19, .ref a20, .ref a21, .ref a22, .ref a23, .ref a24, .ref a25, .ref a26, .int 0, .ref a28, .ref a29, .ref a30, .ref a31, .ref a32, .ref a33, .int 0, .ref a35, .ref a36]))] [])) (va_Ql (fun (r : Int64) (_ : Unit) => r = (-1)) (fun _ _ => True) (va_A [(z, .inr (12, [.ref tm, .int 0, .int 0, .int 0, .int 0, .int 0, .int 0, .int 0, .int 0, .ref a9, .ref nw, .ref a11, .ref a12, .int 0, .int 0, .int 0, .ref a16, .ref a17, .ref a18, .ref a19, .ref a20, .ref a21, .ref a22, .ref a23, .ref a24, .ref a25, .ref a26, .int 0, .ref a28, .ref a29, .ref a30, .ref a31, .ref a32, .ref a33, .int 0, .ref a35, .ref a36]))] sz)) 0 0 (va_A [(z, .inr (12, [.ref tm, .int 0, .int 0, .int 0, .int 0, .int 0, .int 0, .int 0, .int 0, .ref a9, .ref nw, .ref a11, .ref a12, .int 0, .int 0, .int 0, .ref a16, .ref a17, .ref a18, .ref a19, .ref a20, .ref a21, .ref a22, .ref a23, .ref a24, .ref a25, .ref a26, .int 0, .ref a28, .ref a29, .ref a30, .ref a31, .ref a32, .ref a33, .int 0, .ref a35, .ref a36]))] sz) := by
  refine Met.ofW (cc := cX12_cost) (maxL := 11) (ret := (some .long)) (by decide) rfl ?_
  intro p e s m args below meth c s₁ B hml hv
  obtain ⟨rfl, hsz, hP, hK, hD0⟩ := hv
  have hx := B.exec
  have hb := B.bytes
  have hr := B.returns
  have hts := atoms_spec (ws := (Cond.code yX12_cost cX12_cost 11 (some .long) :: wsU)) B.pre
  have hts : ∀ w ∈ wsU, w.before _ s = true := fun w h => hts w (List.mem_cons_of_mem _ h)
  have hown : s.vm.findClass RX12 = some m.cls := findClass_of_methodNamed B.named
  have hlocks := B.notSynchronized
  subst hsz
  have hD := hD0.self (sz := s.heap.size)
  generalize hAe : va_A [(z, .inr (12, [.ref tm, .int 0, .int 0, .int 0, .int 0, .int 0, .int 0, .int 0, .int 0, .ref a9, .ref nw, .ref a11, .ref a12, .int 0, .int 0, .int 0, .ref a16, .ref a17, .ref a18, .ref a19, .ref a20, .ref a21, .ref a22, .ref a23, .ref a24, .ref a25, .ref a26, .int 0, .ref a28, .ref a29, .ref a30, .ref a31, .ref a32, .ref a33, .int 0, .ref a35, .ref a36]))] s.heap.size = A at hD ⊢
  have hA : ∀ q : Nat, s.heap.size ≤ q → A q := fun q h => by rw [← hAe]; exact Or.inr h
  have hS : va_S A s.heap s.heap [] := va_S.rf
  have hP : va_P (dC, dI) vwCl [(z, .inr (12, [.ref tm, .int 0, .int 0, .int 0, .int 0, .int 0, .int 0, .int 0, .int 0, .ref a9, .ref nw, .ref a11, .ref a12, .int 0, .int 0, .int 0, .ref a16, .ref a17, .ref a18, .ref a19, .ref a20, .ref a21, .ref a22, .ref a23, .ref a24, .ref a25, .ref a26, .int 0, .ref a28, .ref a29, .ref a30, .ref a31, .ref a32, .ref a33, .int 0, .ref a35, .ref a36]))] s.heap := hP
  have hl := lv_entry ([.ref z, .int p1, .int p2]) (n := 11) (Nat.le_of_ble_eq_true rfl)
  rw [lg_entry_eq]
  generalize (lg_sl ([.ref z, .int p1, .int p2]) ++ List.replicate (11 - (lg_sl ([.ref z, .int p1, .int p2])).length) Slot.unset).toArray = ls at hl ⊢
  have hl : lv_has ls 11 [(0, .ref z), (1, .int p1), (2, .int p2)] := hl
  refine lv_aload_n hx hb dX12_cost_0 rfl (lv_at hl 0 rfl) ?_
  refine va_get (D := (dC, dI)) (ci := 12) (v := .int 0) (C := RX12) (T := TX12) (N := 37) hx hb hts inlX12 hown hK hP 0 rfl rfl 13 (by decide) (hts _ qw_602) (fun _ h9 => h9) rfl dX12_cost_1 ?_
  refine lv_if_eq (tgt := 31) hx hb dX12_cost_4 (by decide) (fun _ => ?_) (fun c9 => absurd (by decide) c9)
  refine lv_ldc2 (v := (-1)) hx hb hown (hts _ qw_1271) dX12_cost_31 ?_
  exact W.lret (v := (-1)) hx hb hr (fun t ht hW => ⟨⟨(-1), (), rfl, rfl, trivial⟩, hS.F ht⟩) hS.2.2 dX12_cost_34
set_option maxHeartbeats 4000000 in
set_option maxRecDepth 100000 in
theorem c_X12_overlap (l : Launch) (dC : Nat → ClassId) (dI : Nat → Nat → Nat) (z : Nat) (tm : Nat) (a9 : Nat) (nw : Nat) (a11 : Nat) (a12 : Nat) (a16 : Nat) (a17 : Nat) (a18 : Nat) (a19 : Nat) (a20 : Nat) (a21 : Nat) (a22 : Nat) (a23 : Nat) (a24 : Nat) (a25 : Nat) (a26 : Nat) (a28 : Nat) (a29 : Nat) (a30 : Nat) (a31 : Nat) (a32 : Nat) (a33 : Nat) (a35 : Nat) (a36 : Nat) (p1 : Int32) (sz : Nat) : Met l yX12_overlap (Cond.code yX12_overlap cX12_overlap 8 (some .long) :: wsU) ({ frames := 0, cells := 0, slots := 0, locals := 0 }) (va_Pc [.ref z, .int p1] (kz_B (dC, dI) sz [(z, .inr (12, [.ref tm, .int 0, .int 0, .int 0, .int 0, .int 0, .int 0, .int 0, .int 0, .ref a9, .ref nw, .ref a11, .ref a12, .int 0, .int 0, .int 0, .ref a16, .ref a17, .ref a18, .ref a19, .ref a20, .ref a21, .ref a22, .ref a23, .ref a24, .ref a25, .ref a26, .int 0, .ref a28, .ref a29, .ref a30, .ref a31, .ref a32, .ref a33, .int 0, .ref a35, .ref a36]))] [])) (va_Ql (fun (r : Int64) (_ : Unit) => r = (-1)) (fun _ _ => True) (va_A [(z, .inr (12, [.ref tm, .int 0, .int 0, .int 0, .int 0, .int 0, .int 0, .int 0, .int 0, .ref a9, .ref nw, .ref a11, .ref a12, .int 0, .int 0, .int 0, .ref a16, .ref a17, .ref a18, .ref a19, .ref a20, .ref a21, .ref a22, .ref a23, .ref a24, .ref a25, .ref a26, .int 0, .ref a28, .ref a29, .ref a30, .ref a31, .ref a32, .ref a33, .int 0, .ref a35, .ref a36]))] sz)) 0 0 (va_A [(z, .inr (12, [.ref tm, .int 0, .int 0, .int 0, .int 0, .int 0, .int 0, .int 0, .int 0, .ref a9, .ref nw, .ref a11, .ref a12, .int 0, .int 0, .int 0, .ref a16, .ref a17, .ref a18, .ref a19, .ref a20, .ref a21, .ref a22, .ref a23, .ref a24, .ref a25, .ref a26, .int 0, .ref a28, .ref a29, .ref a30, .ref a31, .ref a32, .ref a33, .int 0, .ref a35, .ref a36]))] sz) := by
  refine Met.ofW (cc := cX12_overlap) (maxL := 8) (ret := (some .long)) (by decide) rfl ?_
  intro p e s m args below meth c s₁ B hml hv
  obtain ⟨rfl, hsz, hP, hK, hD0⟩ := hv
  have hx := B.exec
  have hb := B.bytes
  have hr := B.returns
  have hts := atoms_spec (ws := (Cond.code yX12_overlap cX12_overlap 8 (some .long) :: wsU)) B.pre
  have hts : ∀ w ∈ wsU, w.before _ s = true := fun w h => hts w (List.mem_cons_of_mem _ h)
  have hown : s.vm.findClass RX12 = some m.cls := findClass_of_methodNamed B.named
  have hlocks := B.notSynchronized
  subst hsz
  have hD := hD0.self (sz := s.heap.size)
  generalize hAe : va_A [(z, .inr (12, [.ref tm, .int 0, .int 0, .int 0, .int 0, .int 0, .int 0, .int 0, .int 0, .ref a9, .ref nw, .ref a11, .ref a12, .int 0, .int 0, .int 0, .ref a16, .ref a17, .ref a18, .ref a19, .ref a20, .ref a21, .ref a22, .ref a23, .ref a24, .ref a25, .ref a26, .int 0, .ref a28, .ref a29, .ref a30, .ref a31, .ref a32, .ref a33, .int 0, .ref a35, .ref a36]))] s.heap.size = A at hD ⊢
  have hA : ∀ q : Nat, s.heap.size ≤ q → A q := fun q h => by rw [← hAe]; exact Or.inr h
  have hS : va_S A s.heap s.heap [] := va_S.rf
  have hP : va_P (dC, dI) vwCl [(z, .inr (12, [.ref tm, .int 0, .int 0, .int 0, .int 0, .int 0, .int 0, .int 0, .int 0, .ref a9, .ref nw, .ref a11, .ref a12, .int 0, .int 0, .int 0, .ref a16, .ref a17, .ref a18, .ref a19, .ref a20, .ref a21, .ref a22, .ref a23, .ref a24, .ref a25, .ref a26, .int 0, .ref a28, .ref a29, .ref a30, .ref a31, .ref a32, .ref a33, .int 0, .ref a35, .ref a36]))] s.heap := hP
  have hl := lv_entry ([.ref z, .int p1]) (n := 8) (Nat.le_of_ble_eq_true rfl)
  rw [lg_entry_eq]
  generalize (lg_sl ([.ref z, .int p1]) ++ List.replicate (8 - (lg_sl ([.ref z, .int p1])).length) Slot.unset).toArray = ls at hl ⊢
  have hl : lv_has ls 8 [(0, .ref z), (1, .int p1)] := hl
  refine lv_aload_n hx hb dX12_overlap_0 rfl (lv_at hl 0 rfl) ?_
  refine va_get (D := (dC, dI)) (ci := 12) (v := .int 0) (C := RX12) (T := TX12) (N := 37) hx hb hts inlX12 hown hK hP 0 rfl rfl 13 (by decide) (hts _ qw_602) (fun _ h9 => h9) rfl dX12_overlap_1 ?_
  refine lv_if_eq (tgt := 34) hx hb dX12_overlap_4 (by decide) (fun _ => ?_) (fun c9 => absurd (by decide) c9)
  refine lv_ldc2 (v := (-1)) hx hb hown (hts _ qw_1271) dX12_overlap_34 ?_
  exact W.lret (v := (-1)) hx hb hr (fun t ht hW => ⟨⟨(-1), (), rfl, rfl, trivial⟩, hS.F ht⟩) hS.2.2 dX12_overlap_37
set_option maxHeartbeats 4000000 in
set_option maxRecDepth 100000 in
theorem c_X12_numbers (l : Launch) (dC : Nat → ClassId) (dI : Nat → Nat → Nat) (z : Nat) (tm : Nat) (a9 : Nat) (nw : Nat) (a11 : Nat) (a12 : Nat) (a16 : Nat) (a17 : Nat) (a18 : Nat) (a19 : Nat) (a20 : Nat) (a21 : Nat) (a22 : Nat) (a23 : Nat) (a24 : Nat) (a25 : Nat) (a26 : Nat) (a28 : Nat) (a29 : Nat) (a30 : Nat) (a31 : Nat) (a32 : Nat) (a33 : Nat) (a35 : Nat) (a36 : Nat) (sz : Nat) : Met l yX12_numbers (Cond.code yX12_numbers cX12_numbers 1 none :: wsU) ({ frames := 0, cells := 0, slots := 0, locals := 0 }) (va_Pc [.ref z] (kz_B (dC, dI) sz [(z, .inr (12, [.ref tm, .int 0, .int 0, .int 0, .int 0, .int 0, .int 0, .int 0, .int 0, .ref a9, .ref nw, .ref a11, .ref a12, .int 0, .int 0, .int 0, .ref a16, .ref a17, .ref a18, .ref a19, .ref a20, .ref a21, .ref a22, .ref a23, .ref a24, .ref a25, .ref a26, .int 0, .ref a28, .ref a29, .ref a30, .ref a31, .ref a32, .ref a33, .int 0, .ref a35, .ref a36]))] [])) (va_Qv (fun (_ : Unit) => True) (fun (_ : Unit) t => kz_E (dC, dI) (va_A [(z, .inr (12, [.ref tm, .int 0, .int 0, .int 0, .int 0, .int 0, .int 0, .int 0, .int 0, .ref a9, .ref nw, .ref a11, .ref a12, .int 0, .int 0, .int 0, .ref a16, .ref a17, .ref a18, .ref a19, .ref a20, .ref a21, .ref a22, .ref a23, .ref a24, .ref a25, .ref a26, .int 0, .ref a28, .ref a29, .ref a30, .ref a31, .ref a32, .ref a33, .int 0, .ref a35, .ref a36]))] sz) [(z, .inr (12, [.ref tm, .int 0, .int 0, .int 0, .int 0, .int 0, .int 0, .int 0, .int 0, .ref a9, .ref nw, .ref a11, .ref a12, .int 0, .int 0, .int 0, .ref a16, .ref a17, .ref a18, .ref a19, .ref a20, .ref a21, .ref a22, .ref a23, .ref a24, .ref a25, .ref a26, .int 0, .ref a28, .ref a29, .ref a30, .ref a31, .ref a32, .ref a33, .int 0, .ref a35, .ref a36]))] [] t) (va_A [(z, .inr (12, [.ref tm, .int 0, .int 0, .int 0, .int 0, .int 0, .int 0, .int 0, .int 0, .ref a9, .ref nw, .ref a11, .ref a12, .int 0, .int 0, .int 0, .ref a16, .ref a17, .ref a18, .ref a19, .ref a20, .ref a21, .ref a22, .ref a23, .ref a24, .ref a25, .ref a26, .int 0, .ref a28, .ref a29, .ref a30, .ref a31, .ref a32, .ref a33, .int 0, .ref a35, .ref a36]))] sz)) 0 0 (va_A [(z, .inr (12, [.ref tm, .int 0, .int 0, .int 0, .int 0, .int 0, .int 0, .int 0, .int 0, .ref a9, .ref nw, .ref a11, .ref a12, .int 0, .int 0, .int 0, .ref a16, .ref a17, .ref a18, .ref a19, .ref a20, .ref a21, .ref a22, .ref a23, .ref a24, .ref a25, .ref a26, .int 0, .ref a28, .ref a29, .ref a30, .ref a31, .ref a32, .ref a33, .int 0, .ref a35, .ref a36]))] sz) := by
  refine Met.ofW (cc := cX12_numbers) (maxL := 1) (ret := none) (by decide) rfl ?_
  intro p e s m args below meth c s₁ B hml hv
  obtain ⟨rfl, hsz, hP, hK, hD0⟩ := hv
  have hx := B.exec
  have hb := B.bytes
  have hr := B.returns
  have hts := atoms_spec (ws := (Cond.code yX12_numbers cX12_numbers 1 none :: wsU)) B.pre
  have hts : ∀ w ∈ wsU, w.before _ s = true := fun w h => hts w (List.mem_cons_of_mem _ h)
  have hown : s.vm.findClass RX12 = some m.cls := findClass_of_methodNamed B.named
  have hlocks := B.notSynchronized
  subst hsz
  have hD := hD0.self (sz := s.heap.size)
  generalize hAe : va_A [(z, .inr (12, [.ref tm, .int 0, .int 0, .int 0, .int 0, .int 0, .int 0, .int 0, .int 0, .ref a9, .ref nw, .ref a11, .ref a12, .int 0, .int 0, .int 0, .ref a16, .ref a17, .ref a18, .ref a19, .ref a20, .ref a21, .ref a22, .ref a23, .ref a24, .ref a25, .ref a26, .int 0, .ref a28, .ref a29, .ref a30, .ref a31, .ref a32, .ref a33, .int 0, .ref a35, .ref a36]))] s.heap.size = A at hD ⊢
  have hA : ∀ q : Nat, s.heap.size ≤ q → A q := fun q h => by rw [← hAe]; exact Or.inr h
  have hS : va_S A s.heap s.heap [] := va_S.rf
  have hP : va_P (dC, dI) vwCl [(z, .inr (12, [.ref tm, .int 0, .int 0, .int 0, .int 0, .int 0, .int 0, .int 0, .int 0, .ref a9, .ref nw, .ref a11, .ref a12, .int 0, .int 0, .int 0, .ref a16, .ref a17, .ref a18, .ref a19, .ref a20, .ref a21, .ref a22, .ref a23, .ref a24, .ref a25, .ref a26, .int 0, .ref a28, .ref a29, .ref a30, .ref a31, .ref a32, .ref a33, .int 0, .ref a35, .ref a36]))] s.heap := hP
  have hl := lv_entry ([.ref z]) (n := 1) (Nat.le_of_ble_eq_true rfl)
  rw [lg_entry_eq]
  generalize (lg_sl ([.ref z]) ++ List.replicate (1 - (lg_sl ([.ref z])).length) Slot.unset).toArray = ls at hl ⊢
  have hl : lv_has ls 1 [(0, .ref z)] := hl
  refine lv_aload_n hx hb dX12_numbers_0 rfl (lv_at hl 0 rfl) ?_
  refine lv_iconst (v := 0) hx hb dX12_numbers_1 (by decide) ?_
  refine va_put (D := (dC, dI)) (ci := 12) (v := .int 0) (ty := .int) (C := RX12) (T := TX12) (N := 37) hx hb hts inlX12 tyX12 tyX12_ok nmX12 hown hK hP hD hS 0 rfl rfl 27 (by decide) (hts _ qw_814) (fun _ h9 => h9) rfl (by decide +kernel) rfl rfl (Nat.le_of_ble_eq_true rfl) dX12_numbers_2 (fun H locs hP hD hS => ?_)
  have hP : va_P (dC, dI) vwCl [(z, .inr (12, [.ref tm, .int 0, .int 0, .int 0, .int 0, .int 0, .int 0, .int 0, .int 0, .ref a9, .ref nw, .ref a11, .ref a12, .int 0, .int 0, .int 0, .ref a16, .ref a17, .ref a18, .ref a19, .ref a20, .ref a21, .ref a22, .ref a23, .ref a24, .ref a25, .ref a26, .int 0, .ref a28, .ref a29, .ref a30, .ref a31, .ref a32, .ref a33, .int 0, .ref a35, .ref a36]))] H := hP
  have hD : va_D A [(z, .inr (12, [.ref tm, .int 0, .int 0, .int 0, .int 0, .int 0, .int 0, .int 0, .int 0, .ref a9, .ref nw, .ref a11, .ref a12, .int 0, .int 0, .int 0, .ref a16, .ref a17, .ref a18, .ref a19, .ref a20, .ref a21, .ref a22, .ref a23, .ref a24, .ref a25, .ref a26, .int 0, .ref a28, .ref a29, .ref a30, .ref a31, .ref a32, .ref a33, .int 0, .ref a35, .ref a36]))] := hD
  refine lv_aload_n hx hb dX12_numbers_5 rfl (lv_at hl 0 rfl) ?_
  refine va_get (D := (dC, dI)) (ci := 12) (v := .int 0) (C := RX12) (T := TX12) (N := 37) hx hb hts inlX12 hown hK hP 0 rfl rfl 13 (by decide) (hts _ qw_602) (fun _ h9 => h9) rfl dX12_numbers_6 ?_
  refine lv_if_eq (tgt := 24) hx hb dX12_numbers_9 (by decide) (fun _ => ?_) (fun c9 => absurd (by decide) c9)
  have hP9 := hP.sub (ws' := [(z, .inr (12, [.ref tm, .int 0, .int 0, .int 0, .int 0, .int 0, .int 0, .int 0, .int 0, .ref a9, .ref nw, .ref a11, .ref a12, .int 0, .int 0, .int 0, .ref a16, .ref a17, .ref a18, .ref a19, .ref a20, .ref a21, .ref a22, .ref a23, .ref a24, .ref a25, .ref a26, .int 0, .ref a28, .ref a29, .ref a30, .ref a31, .ref a32, .ref a33, .int 0, .ref a35, .ref a36]))]) [0] rfl
  have hD9 := hD.sub (ws' := [(z, .inr (12, [.ref tm, .int 0, .int 0, .int 0, .int 0, .int 0, .int 0, .int 0, .int 0, .ref a9, .ref nw, .ref a11, .ref a12, .int 0, .int 0, .int 0, .ref a16, .ref a17, .ref a18, .ref a19, .ref a20, .ref a21, .ref a22, .ref a23, .ref a24, .ref a25, .ref a26, .int 0, .ref a28, .ref a29, .ref a30, .ref a31, .ref a32, .ref a33, .int 0, .ref a35, .ref a36]))]) [0] (by decide) rfl
  have hK9 := hK.sub (tys' := []) [] rfl
  exact W.vret hx hb hr (fun t ht hW => ⟨⟨(), rfl, trivial, ⟨by rw [ht]; exact hP9, va_K.moved hW.alike hK9, hD9⟩⟩, hS.F ht⟩) hS.2.2 dX12_numbers_24
set_option maxHeartbeats 4000000 in
set_option maxRecDepth 100000 in
theorem c_X12_pageBy (l : Launch) (dC : Nat → ClassId) (dI : Nat → Nat → Nat) (z : Nat) (tm : Nat) (a9 : Nat) (nw : Nat) (a11 : Nat) (a12 : Nat) (a16 : Nat) (a17 : Nat) (a18 : Nat) (a19 : Nat) (a20 : Nat) (a21 : Nat) (a22 : Nat) (a23 : Nat) (a24 : Nat) (a25 : Nat) (a26 : Nat) (a28 : Nat) (a29 : Nat) (a30 : Nat) (a31 : Nat) (a32 : Nat) (a33 : Nat) (a35 : Nat) (a36 : Nat) (p1 : Int32) (sz : Nat) : Met l yX12_pageBy (Cond.code yX12_pageBy cX12_pageBy 2 (some .int) :: wsU) ({ frames := 1, cells := 0, slots := 0, locals := 25 }) (va_Pc [.ref z, .int p1] (kz_B (dC, dI) sz [(z, .inr (12, [.ref tm, .int 0, .int 0, .int 0, .int 0, .int 0, .int 0, .int 0, .int 0, .ref a9, .ref nw, .ref a11, .ref a12, .int 0, .int 0, .int 0, .ref a16, .ref a17, .ref a18, .ref a19, .ref a20, .ref a21, .ref a22, .ref a23, .ref a24, .ref a25, .ref a26, .int 0, .ref a28, .ref a29, .ref a30, .ref a31, .ref a32, .ref a33, .int 0, .ref a35, .ref a36]))] [])) (va_Qi (fun (r : Int32) (_ : Unit) => r = (-1)) (fun (_ : Unit) t => kz_E (dC, dI) (va_A [(z, .inr (12, [.ref tm, .int 0, .int 0, .int 0, .int 0, .int 0, .int 0, .int 0, .int 0, .ref a9, .ref nw, .ref a11, .ref a12, .int 0, .int 0, .int 0, .ref a16, .ref a17, .ref a18, .ref a19, .ref a20, .ref a21, .ref a22, .ref a23, .ref a24, .ref a25, .ref a26, .int 0, .ref a28, .ref a29, .ref a30, .ref a31, .ref a32, .ref a33, .int 0, .ref a35, .ref a36]))] sz) [(z, .inr (12, [.ref tm, .int 0, .int 0, .int 0, .int 0, .int 0, .int 0, .int 0, .int 0, .ref a9, .ref nw, .ref a11, .ref a12, .int 0, .int 0, .int 0, .ref a16, .ref a17, .ref a18, .ref a19, .ref a20, .ref a21, .ref a22, .ref a23, .ref a24, .ref a25, .ref a26, .int 0, .ref a28, .ref a29, .ref a30, .ref a31, .ref a32, .ref a33, .int 0, .ref a35, .ref a36]))] [] t) (va_A [(z, .inr (12, [.ref tm, .int 0, .int 0, .int 0, .int 0, .int 0, .int 0, .int 0, .int 0, .ref a9, .ref nw, .ref a11, .ref a12, .int 0, .int 0, .int 0, .ref a16, .ref a17, .ref a18, .ref a19, .ref a20, .ref a21, .ref a22, .ref a23, .ref a24, .ref a25, .ref a26, .int 0, .ref a28, .ref a29, .ref a30, .ref a31, .ref a32, .ref a33, .int 0, .ref a35, .ref a36]))] sz)) 0 0 (va_A [(z, .inr (12, [.ref tm, .int 0, .int 0, .int 0, .int 0, .int 0, .int 0, .int 0, .int 0, .ref a9, .ref nw, .ref a11, .ref a12, .int 0, .int 0, .int 0, .ref a16, .ref a17, .ref a18, .ref a19, .ref a20, .ref a21, .ref a22, .ref a23, .ref a24, .ref a25, .ref a26, .int 0, .ref a28, .ref a29, .ref a30, .ref a31, .ref a32, .ref a33, .int 0, .ref a35, .ref a36]))] sz) := by
  refine Met.ofW (cc := cX12_pageBy) (maxL := 2) (ret := (some .int)) (by decide) rfl ?_
  intro p e s m args below meth c s₁ B hml hv
  obtain ⟨rfl, hsz, hP, hK, hD0⟩ := hv
  have hx := B.exec
  have hb := B.bytes
  have hr := B.returns
  have hts := atoms_spec (ws := (Cond.code yX12_pageBy cX12_pageBy 2 (some .int) :: wsU)) B.pre
  have hts : ∀ w ∈ wsU, w.before _ s = true := fun w h => hts w (List.mem_cons_of_mem _ h)
  have hown : s.vm.findClass RX12 = some m.cls := findClass_of_methodNamed B.named
  have hlocks := B.notSynchronized
  subst hsz
  have hD := hD0.self (sz := s.heap.size)
  generalize hAe : va_A [(z, .inr (12, [.ref tm, .int 0, .int 0, .int 0, .int 0, .int 0, .int 0, .int 0, .int 0, .ref a9, .ref nw, .ref a11, .ref a12, .int 0, .int 0, .int 0, .ref a16, .ref a17, .ref a18, .ref a19, .ref a20, .ref a21, .ref a22, .ref a23, .ref a24, .ref a25, .ref a26, .int 0, .ref a28, .ref a29, .ref a30, .ref a31, .ref a32, .ref a33, .int 0, .ref a35, .ref a36]))] s.heap.size = A at hD ⊢
  have hA : ∀ q : Nat, s.heap.size ≤ q → A q := fun q h => by rw [← hAe]; exact Or.inr h
  have hS : va_S A s.heap s.heap [] := va_S.rf
  have hP : va_P (dC, dI) vwCl [(z, .inr (12, [.ref tm, .int 0, .int 0, .int 0, .int 0, .int 0, .int 0, .int 0, .int 0, .ref a9, .ref nw, .ref a11, .ref a12, .int 0, .int 0, .int 0, .ref a16, .ref a17, .ref a18, .ref a19, .ref a20, .ref a21, .ref a22, .ref a23, .ref a24, .ref a25, .ref a26, .int 0, .ref a28, .ref a29, .ref a30, .ref a31, .ref a32, .ref a33, .int 0, .ref a35, .ref a36]))] s.heap := hP
  have hl := lv_entry ([.ref z, .int p1]) (n := 2) (Nat.le_of_ble_eq_true rfl)
  rw [lg_entry_eq]
  generalize (lg_sl ([.ref z, .int p1]) ++ List.replicate (2 - (lg_sl ([.ref z, .int p1])).length) Slot.unset).toArray = ls at hl ⊢
  have hl : lv_has ls 2 [(0, .ref z), (1, .int p1)] := hl
  refine lv_aload_n hx hb dX12_pageBy_0 rfl (lv_at hl 0 rfl) ?_
  have hPc := hP.sub (ws' := [(z, .inr (12, [.ref tm, .int 0, .int 0, .int 0, .int 0, .int 0, .int 0, .int 0, .int 0, .ref a9, .ref nw, .ref a11, .ref a12, .int 0, .int 0, .int 0, .ref a16, .ref a17, .ref a18, .ref a19, .ref a20, .ref a21, .ref a22, .ref a23, .ref a24, .ref a25, .ref a26, .int 0, .ref a28, .ref a29, .ref a30, .ref a31, .ref a32, .ref a33, .int 0, .ref a35, .ref a36]))]) [0] rfl
  have hDc := hD.sub (ws' := [(z, .inr (12, [.ref tm, .int 0, .int 0, .int 0, .int 0, .int 0, .int 0, .int 0, .int 0, .ref a9, .ref nw, .ref a11, .ref a12, .int 0, .int 0, .int 0, .ref a16, .ref a17, .ref a18, .ref a19, .ref a20, .ref a21, .ref a22, .ref a23, .ref a24, .ref a25, .ref a26, .int 0, .ref a28, .ref a29, .ref a30, .ref a31, .ref a32, .ref a33, .int 0, .ref a35, .ref a36]))]) [0] (by decide) rfl
  have hKc := hK.sub (tys' := []) [] rfl
  have hFc := va_free (wc := [(z, .inr (12, [.ref tm, .int 0, .int 0, .int 0, .int 0, .int 0, .int 0, .int 0, .int 0, .ref a9, .ref nw, .ref a11, .ref a12, .int 0, .int 0, .int 0, .ref a16, .ref a17, .ref a18, .ref a19, .ref a20, .ref a21, .ref a22, .ref a23, .ref a24, .ref a25, .ref a26, .int 0, .ref a28, .ref a29, .ref a30, .ref a31, .ref a32, .ref a33, .int 0, .ref a35, .ref a36]))]) hD hS hA [0] rfl
  refine va_callv (va_runV (As := []) (rest := []) ⟨hx, hb, hml, hown, hts⟩ (c_X12_numbers l dC dI (z) (tm) (a9) (nw) (a11) (a12) (a16) (a17) (a18) (a19) (a20) (a21) (a22) (a23) (a24) (a25) (a26) (a28) (a29) (a30) (a31) (a32) (a33) (a35) (a36) s.heap.size) (cwV 0 hts (kz_gV qw_815 qw_816 qw_817 qw_5 qw_818) rfl rfl rfl (by decide +kernel) ⟨Nat.le_of_ble_eq_true rfl, Nat.le_of_ble_eq_true rfl⟩) (⟨(kz_preS hPc hKc hDc).1, (va_recv hKc hPc (ci := 12) (q0 := 0) rfl rfl), (kz_preS hPc hKc hDc).2⟩) rfl rfl hl.1 rfl (lv_room (Nat.le_of_ble_eq_true rfl)) dX12_pageBy_1 ⟨Nat.le_of_ble_eq_true rfl, Nat.le_of_ble_eq_true rfl⟩) hS (fun q _ h => hFc q h) hFc (fun u_2 t H1 locs ht hvm hw hB hz1 hk1 hS => ?_)
  try dsimp only at hw
  obtain ⟨hP1, hK1, hD1⟩ := hB
  rw [ht] at hP1
  have hK1 := va_K.moved hvm.symm hK1
  obtain ⟨hP, hD⟩ := va_join (wr := []) (w1 := [(z, .inr (12, [.ref tm, .int 0, .int 0, .int 0, .int 0, .int 0, .int 0, .int 0, .int 0, .ref a9, .ref nw, .ref a11, .ref a12, .int 0, .int 0, .int 0, .ref a16, .ref a17, .ref a18, .ref a19, .ref a20, .ref a21, .ref a22, .ref a23, .ref a24, .ref a25, .ref a26, .int 0, .ref a28, .ref a29, .ref a30, .ref a31, .ref a32, .ref a33, .int 0, .ref a35, .ref a36]))]) hP hD [0] [] rfl rfl (by decide) (by decide) hk1 hFc hP1 hD1
  have hK := (hK.sub (tys' := []) [] rfl).app hK1
  generalize H1 = H at hP hS ⊢
  have hP : va_P (dC, dI) vwCl [(z, .inr (12, [.ref tm, .int 0, .int 0, .int 0, .int 0, .int 0, .int 0, .int 0, .int 0, .ref a9, .ref nw, .ref a11, .ref a12, .int 0, .int 0, .int 0, .ref a16, .ref a17, .ref a18, .ref a19, .ref a20, .ref a21, .ref a22, .ref a23, .ref a24, .ref a25, .ref a26, .int 0, .ref a28, .ref a29, .ref a30, .ref a31, .ref a32, .ref a33, .int 0, .ref a35, .ref a36]))] H := hP
  have hD : va_D A [(z, .inr (12, [.ref tm, .int 0, .int 0, .int 0, .int 0, .int 0, .int 0, .int 0, .int 0, .ref a9, .ref nw, .ref a11, .ref a12, .int 0, .int 0, .int 0, .ref a16, .ref a17, .ref a18, .ref a19, .ref a20, .ref a21, .ref a22, .ref a23, .ref a24, .ref a25, .ref a26, .int 0, .ref a28, .ref a29, .ref a30, .ref a31, .ref a32, .ref a33, .int 0, .ref a35, .ref a36]))] := hD
  have hK : va_K (dC, dI) vwCl [] s := hK
  refine lv_iload_n hx hb dX12_pageBy_4 rfl (lv_at hl 1 rfl) ?_
  refine lv_i2l (v := p1.toInt64) hx hb dX12_pageBy_5 rfl ?_
  refine lv_lconst (v := 0) hx hb dX12_pageBy_6 (by decide) ?_
  refine lv_aload_n hx hb dX12_pageBy_7 rfl (lv_at hl 0 rfl) ?_
  refine va_get (D := (dC, dI)) (ci := 12) (v := .int 0) (C := RX12) (T := TX12) (N := 37) hx hb hts inlX12 hown hK hP 0 rfl rfl 27 (by decide) (hts _ qw_814) (fun _ h9 => h9) rfl dX12_pageBy_8 ?_
  refine lv_iconst (v := 1) hx hb dX12_pageBy_11 (by decide) ?_
  refine lv_isub hx hb dX12_pageBy_12 ?_
  refine kz_topi (y := (-1)) (by decide) ?_
  refine lv_i2l (v := (-1)) hx hb dX12_pageBy_13 (by decide) ?_
  have hPc := hP.sub (ws' := []) [] rfl
  have hDc := hD.sub (ws' := []) [] (by decide) rfl
  have hKc := hK.sub (tys' := []) [] rfl
  have hFc := va_free (wc := []) hD hS hA [] rfl
  refine va_calli (va_runS (As := [.long p1.toInt64, .long 0, .long (-1)]) (rest := []) ⟨hx, hb, hml, hown, hts⟩ (c_X12_in l dC dI (p1.toInt64) (0) ((-1)) H.size) (va_cwS 3 hts (kz_gS qw_624 qw_625 qw_5 qw_626) rfl rfl rfl (by decide +kernel) ⟨Nat.le_of_ble_eq_true rfl, Nat.le_of_ble_eq_true rfl⟩) (kz_preS hPc hKc hDc) rfl rfl hl.1 rfl (lv_room (Nat.le_of_ble_eq_true rfl)) dX12_pageBy_14 ⟨Nat.le_of_ble_eq_true rfl, Nat.le_of_ble_eq_true rfl⟩) hS (fun q _ h => hFc q h) hFc (fun r_3 u_4 t H1 locs ht hvm hw hB hz1 hk1 hS => ?_)
  try dsimp only at hw
  have hP1 : va_P (dC, dI) vwCl [] H1 := kz_P0
  have hD1 : va_D (va_A [] H.size) [] := kz_D0
  have hK1 : va_K (dC, dI) vwCl [] s := hK.sub [] rfl
  obtain ⟨hP, hD⟩ := va_join (wr := [(z, .inr (12, [.ref tm, .int 0, .int 0, .int 0, .int 0, .int 0, .int 0, .int 0, .int 0, .ref a9, .ref nw, .ref a11, .ref a12, .int 0, .int 0, .int 0, .ref a16, .ref a17, .ref a18, .ref a19, .ref a20, .ref a21, .ref a22, .ref a23, .ref a24, .ref a25, .ref a26, .int 0, .ref a28, .ref a29, .ref a30, .ref a31, .ref a32, .ref a33, .int 0, .ref a35, .ref a36]))]) (w1 := []) hP hD [] [0] rfl rfl (by decide) (by decide) hk1 hFc hP1 hD1
  have hK := (hK.sub (tys' := []) [] rfl).app hK1
  generalize H1 = H at hP hS ⊢
  have hP : va_P (dC, dI) vwCl [(z, .inr (12, [.ref tm, .int 0, .int 0, .int 0, .int 0, .int 0, .int 0, .int 0, .int 0, .ref a9, .ref nw, .ref a11, .ref a12, .int 0, .int 0, .int 0, .ref a16, .ref a17, .ref a18, .ref a19, .ref a20, .ref a21, .ref a22, .ref a23, .ref a24, .ref a25, .ref a26, .int 0, .ref a28, .ref a29, .ref a30, .ref a31, .ref a32, .ref a33, .int 0, .ref a35, .ref a36]))] H := hP
  have hD : va_D A [(z, .inr (12, [.ref tm, .int 0, .int 0, .int 0, .int 0, .int 0, .int 0, .int 0, .int 0, .ref a9, .ref nw, .ref a11, .ref a12, .int 0, .int 0, .int 0, .ref a16, .ref a17, .ref a18, .ref a19, .ref a20, .ref a21, .ref a22, .ref a23, .ref a24, .ref a25, .ref a26, .int 0, .ref a28, .ref a29, .ref a30, .ref a31, .ref a32, .ref a33, .int 0, .ref a35, .ref a36]))] := hD
  have hK : va_K (dC, dI) vwCl [] s := hK
  obtain rfl : r_3 = 0 := hw.trans (kz_spI_none _)
  refine lv_if_eq (tgt := 29) hx hb dX12_pageBy_17 (by decide) (fun _ => ?_) (fun c9 => absurd (by decide) c9)
  refine lv_iconst (v := (-1)) hx hb dX12_pageBy_29 (by decide) ?_
  have hP9 := hP.sub (ws' := [(z, .inr (12, [.ref tm, .int 0, .int 0, .int 0, .int 0, .int 0, .int 0, .int 0, .int 0, .ref a9, .ref nw, .ref a11, .ref a12, .int 0, .int 0, .int 0, .ref a16, .ref a17, .ref a18, .ref a19, .ref a20, .ref a21, .ref a22, .ref a23, .ref a24, .ref a25, .ref a26, .int 0, .ref a28, .ref a29, .ref a30, .ref a31, .ref a32, .ref a33, .int 0, .ref a35, .ref a36]))]) [0] rfl
  have hD9 := hD.sub (ws' := [(z, .inr (12, [.ref tm, .int 0, .int 0, .int 0, .int 0, .int 0, .int 0, .int 0, .int 0, .ref a9, .ref nw, .ref a11, .ref a12, .int 0, .int 0, .int 0, .ref a16, .ref a17, .ref a18, .ref a19, .ref a20, .ref a21, .ref a22, .ref a23, .ref a24, .ref a25, .ref a26, .int 0, .ref a28, .ref a29, .ref a30, .ref a31, .ref a32, .ref a33, .int 0, .ref a35, .ref a36]))]) [0] (by decide) rfl
  have hK9 := hK.sub (tys' := []) [] rfl
  exact W.iret (v := (-1)) hx hb hr (fun t ht hW => ⟨⟨(-1), (), rfl, rfl, ⟨by rw [ht]; exact hP9, va_K.moved hW.alike hK9, hD9⟩⟩, hS.F ht⟩) hS.2.2 dX12_pageBy_30
set_option maxHeartbeats 4000000 in
set_option maxRecDepth 100000 in
theorem c_X12_graft (l : Launch) (dC : Nat → ClassId) (dI : Nat → Nat → Nat) (z : Nat) (tm : Nat) (a9 : Nat) (nw : Nat) (a11 : Nat) (a12 : Nat) (a16 : Nat) (a17 : Nat) (a18 : Nat) (a19 : Nat) (a20 : Nat) (a21 : Nat) (a22 : Nat) (a23 : Nat) (a24 : Nat) (a25 : Nat) (a26 : Nat) (a28 : Nat) (a29 : Nat) (a30 : Nat) (a31 : Nat) (a32 : Nat) (a33 : Nat) (a35 : Nat) (a36 : Nat) (p1 : Int32) (p2 : Int32) (sz : Nat) : Met l yX12_graft (Cond.code yX12_graft cX12_graft 7 (some .int) :: wsU) ({ frames := 2, cells := 0, slots := 0, locals := 46 }) (va_Pc [.ref z, .int p1, .int p2] (kz_B (dC, dI) sz [(z, .inr (12, [.ref tm, .int 0, .int 0, .int 0, .int 0, .int 0, .int 0, .int 0, .int 0, .ref a9, .ref nw, .ref a11, .ref a12, .int 0, .int 0, .int 0, .ref a16, .ref a17, .ref a18, .ref a19, .ref a20, .ref a21, .ref a22, .ref a23, .ref a24, .ref a25, .ref a26, .int 0, .ref a28, .ref a29, .ref a30, .ref a31, .ref a32, .ref a33, .int 0, .ref a35, .ref a36]))] [])) (va_Qi (fun (r : Int32) (_ : Unit) => r = (-1)) (fun _ _ => True) (va_A [(z, .inr (12, [.ref tm, .int 0, .int 0, .int 0, .int 0, .int 0, .int 0, .int 0, .int 0, .ref a9, .ref nw, .ref a11, .ref a12, .int 0, .int 0, .int 0, .ref a16, .ref a17, .ref a18, .ref a19, .ref a20, .ref a21, .ref a22, .ref a23, .ref a24, .ref a25, .ref a26, .int 0, .ref a28, .ref a29, .ref a30, .ref a31, .ref a32, .ref a33, .int 0, .ref a35, .ref a36]))] sz)) 0 0 (va_A [(z, .inr (12, [.ref tm, .int 0, .int 0, .int 0, .int 0, .int 0, .int 0, .int 0, .int 0, .ref a9, .ref nw, .ref a11, .ref a12, .int 0, .int 0, .int 0, .ref a16, .ref a17, .ref a18, .ref a19, .ref a20, .ref a21, .ref a22, .ref a23, .ref a24, .ref a25, .ref a26, .int 0, .ref a28, .ref a29, .ref a30, .ref a31, .ref a32, .ref a33, .int 0, .ref a35, .ref a36]))] sz) := by
  refine Met.ofW (cc := cX12_graft) (maxL := 7) (ret := (some .int)) (by decide) rfl ?_
  intro p e s m args below meth c s₁ B hml hv
  obtain ⟨rfl, hsz, hP, hK, hD0⟩ := hv
  have hx := B.exec
  have hb := B.bytes
  have hr := B.returns
  have hts := atoms_spec (ws := (Cond.code yX12_graft cX12_graft 7 (some .int) :: wsU)) B.pre
  have hts : ∀ w ∈ wsU, w.before _ s = true := fun w h => hts w (List.mem_cons_of_mem _ h)
  have hown : s.vm.findClass RX12 = some m.cls := findClass_of_methodNamed B.named
  have hlocks := B.notSynchronized
  subst hsz
  have hD := hD0.self (sz := s.heap.size)
  generalize hAe : va_A [(z, .inr (12, [.ref tm, .int 0, .int 0, .int 0, .int 0, .int 0, .int 0, .int 0, .int 0, .ref a9, .ref nw, .ref a11, .ref a12, .int 0, .int 0, .int 0, .ref a16, .ref a17, .ref a18, .ref a19, .ref a20, .ref a21, .ref a22, .ref a23, .ref a24, .ref a25, .ref a26, .int 0, .ref a28, .ref a29, .ref a30, .ref a31, .ref a32, .ref a33, .int 0, .ref a35, .ref a36]))] s.heap.size = A at hD ⊢
  have hA : ∀ q : Nat, s.heap.size ≤ q → A q := fun q h => by rw [← hAe]; exact Or.inr h
  have hS : va_S A s.heap s.heap [] := va_S.rf
  have hP : va_P (dC, dI) vwCl [(z, .inr (12, [.ref tm, .int 0, .int 0, .int 0, .int 0, .int 0, .int 0, .int 0, .int 0, .ref a9, .ref nw, .ref a11, .ref a12, .int 0, .int 0, .int 0, .ref a16, .ref a17, .ref a18, .ref a19, .ref a20, .ref a21, .ref a22, .ref a23, .ref a24, .ref a25, .ref a26, .int 0, .ref a28, .ref a29, .ref a30, .ref a31, .ref a32, .ref a33, .int 0, .ref a35, .ref a36]))] s.heap := hP
  have hl := lv_entry ([.ref z, .int p1, .int p2]) (n := 7) (Nat.le_of_ble_eq_true rfl)
  rw [lg_entry_eq]
  generalize (lg_sl ([.ref z, .int p1, .int p2]) ++ List.replicate (7 - (lg_sl ([.ref z, .int p1, .int p2])).length) Slot.unset).toArray = ls at hl ⊢
  have hl : lv_has ls 7 [(0, .ref z), (1, .int p1), (2, .int p2)] := hl
  refine lv_aload_n hx hb dX12_graft_0 rfl (lv_at hl 0 rfl) ?_
  refine lv_iload_n hx hb dX12_graft_1 rfl (lv_at hl 1 rfl) ?_
  have hPc := hP.sub (ws' := [(z, .inr (12, [.ref tm, .int 0, .int 0, .int 0, .int 0, .int 0, .int 0, .int 0, .int 0, .ref a9, .ref nw, .ref a11, .ref a12, .int 0, .int 0, .int 0, .ref a16, .ref a17, .ref a18, .ref a19, .ref a20, .ref a21, .ref a22, .ref a23, .ref a24, .ref a25, .ref a26, .int 0, .ref a28, .ref a29, .ref a30, .ref a31, .ref a32, .ref a33, .int 0, .ref a35, .ref a36]))]) [0] rfl
  have hDc := hD.sub (ws' := [(z, .inr (12, [.ref tm, .int 0, .int 0, .int 0, .int 0, .int 0, .int 0, .int 0, .int 0, .ref a9, .ref nw, .ref a11, .ref a12, .int 0, .int 0, .int 0, .ref a16, .ref a17, .ref a18, .ref a19, .ref a20, .ref a21, .ref a22, .ref a23, .ref a24, .ref a25, .ref a26, .int 0, .ref a28, .ref a29, .ref a30, .ref a31, .ref a32, .ref a33, .int 0, .ref a35, .ref a36]))]) [0] (by decide) rfl
  have hKc := hK.sub (tys' := []) [] rfl
  have hFc := va_free (wc := [(z, .inr (12, [.ref tm, .int 0, .int 0, .int 0, .int 0, .int 0, .int 0, .int 0, .int 0, .ref a9, .ref nw, .ref a11, .ref a12, .int 0, .int 0, .int 0, .ref a16, .ref a17, .ref a18, .ref a19, .ref a20, .ref a21, .ref a22, .ref a23, .ref a24, .ref a25, .ref a26, .int 0, .ref a28, .ref a29, .ref a30, .ref a31, .ref a32, .ref a33, .int 0, .ref a35, .ref a36]))]) hD hS hA [0] rfl
  refine va_calli (va_runV (As := [.int p1]) (rest := []) ⟨hx, hb, hml, hown, hts⟩ (c_X12_pageBy l dC dI (z) (tm) (a9) (nw) (a11) (a12) (a16) (a17) (a18) (a19) (a20) (a21) (a22) (a23) (a24) (a25) (a26) (a28) (a29) (a30) (a31) (a32) (a33) (a35) (a36) (p1) s.heap.size) (cwV 1 hts (kz_gV qw_958 qw_959 qw_960 qw_5 qw_961) rfl rfl rfl (by decide +kernel) ⟨Nat.le_of_ble_eq_true rfl, Nat.le_of_ble_eq_true rfl⟩) (⟨(kz_preS hPc hKc hDc).1, (va_recv hKc hPc (ci := 12) (q0 := 0) rfl rfl), (kz_preS hPc hKc hDc).2⟩) rfl rfl hl.1 rfl (lv_room (Nat.le_of_ble_eq_true rfl)) dX12_graft_2 ⟨Nat.le_of_ble_eq_true rfl, Nat.le_of_ble_eq_true rfl⟩) hS (fun q _ h => hFc q h) hFc (fun r_1 u_2 t H1 locs ht hvm hw hB hz1 hk1 hS => ?_)
  try dsimp only at hw
  obtain ⟨hP1, hK1, hD1⟩ := hB
  rw [ht] at hP1
  have hK1 := va_K.moved hvm.symm hK1
  obtain ⟨hP, hD⟩ := va_join (wr := []) (w1 := [(z, .inr (12, [.ref tm, .int 0, .int 0, .int 0, .int 0, .int 0, .int 0, .int 0, .int 0, .ref a9, .ref nw, .ref a11, .ref a12, .int 0, .int 0, .int 0, .ref a16, .ref a17, .ref a18, .ref a19, .ref a20, .ref a21, .ref a22, .ref a23, .ref a24, .ref a25, .ref a26, .int 0, .ref a28, .ref a29, .ref a30, .ref a31, .ref a32, .ref a33, .int 0, .ref a35, .ref a36]))]) hP hD [0] [] rfl rfl (by decide) (by decide) hk1 hFc hP1 hD1
  have hK := (hK.sub (tys' := []) [] rfl).app hK1
  generalize H1 = H at hP hS ⊢
  have hP : va_P (dC, dI) vwCl [(z, .inr (12, [.ref tm, .int 0, .int 0, .int 0, .int 0, .int 0, .int 0, .int 0, .int 0, .ref a9, .ref nw, .ref a11, .ref a12, .int 0, .int 0, .int 0, .ref a16, .ref a17, .ref a18, .ref a19, .ref a20, .ref a21, .ref a22, .ref a23, .ref a24, .ref a25, .ref a26, .int 0, .ref a28, .ref a29, .ref a30, .ref a31, .ref a32, .ref a33, .int 0, .ref a35, .ref a36]))] H := hP
  have hD : va_D A [(z, .inr (12, [.ref tm, .int 0, .int 0, .int 0, .int 0, .int 0, .int 0, .int 0, .int 0, .ref a9, .ref nw, .ref a11, .ref a12, .int 0, .int 0, .int 0, .ref a16, .ref a17, .ref a18, .ref a19, .ref a20, .ref a21, .ref a22, .ref a23, .ref a24, .ref a25, .ref a26, .int 0, .ref a28, .ref a29, .ref a30, .ref a31, .ref a32, .ref a33, .int 0, .ref a35, .ref a36]))] := hD
  have hK : va_K (dC, dI) vwCl [] s := hK
  obtain rfl : r_1 = (-1) := hw
  refine lv_istore_n (lv' := [(3, .int (-1)), (0, .ref z), (1, .int p1), (2, .int p2)]) hx hb dX12_graft_5 rfl hl (by decide) rfl (fun ls hl => ?_)
  refine lv_aload_n hx hb dX12_graft_6 rfl (lv_at hl 1 rfl) ?_
  refine lv_iload_n hx hb dX12_graft_7 rfl (lv_at hl 3 rfl) ?_
  have hPc := hP.sub (ws' := [(z, .inr (12, [.ref tm, .int 0, .int 0, .int 0, .int 0, .int 0, .int 0, .int 0, .int 0, .ref a9, .ref nw, .ref a11, .ref a12, .int 0, .int 0, .int 0, .ref a16, .ref a17, .ref a18, .ref a19, .ref a20, .ref a21, .ref a22, .ref a23, .ref a24, .ref a25, .ref a26, .int 0, .ref a28, .ref a29, .ref a30, .ref a31, .ref a32, .ref a33, .int 0, .ref a35, .ref a36]))]) [0] rfl
  have hDc := hD.sub (ws' := [(z, .inr (12, [.ref tm, .int 0, .int 0, .int 0, .int 0, .int 0, .int 0, .int 0, .int 0, .ref a9, .ref nw, .ref a11, .ref a12, .int 0, .int 0, .int 0, .ref a16, .ref a17, .ref a18, .ref a19, .ref a20, .ref a21, .ref a22, .ref a23, .ref a24, .ref a25, .ref a26, .int 0, .ref a28, .ref a29, .ref a30, .ref a31, .ref a32, .ref a33, .int 0, .ref a35, .ref a36]))]) [0] (by decide) rfl
  have hKc := hK.sub (tys' := []) [] rfl
  have hFc := va_free (wc := [(z, .inr (12, [.ref tm, .int 0, .int 0, .int 0, .int 0, .int 0, .int 0, .int 0, .int 0, .ref a9, .ref nw, .ref a11, .ref a12, .int 0, .int 0, .int 0, .ref a16, .ref a17, .ref a18, .ref a19, .ref a20, .ref a21, .ref a22, .ref a23, .ref a24, .ref a25, .ref a26, .int 0, .ref a28, .ref a29, .ref a30, .ref a31, .ref a32, .ref a33, .int 0, .ref a35, .ref a36]))]) hD hS hA [0] rfl
  refine va_calli (va_runV (As := [.int p2]) (rest := []) ⟨hx, hb, hml, hown, hts⟩ (c_X12_pageBy l dC dI (z) (tm) (a9) (nw) (a11) (a12) (a16) (a17) (a18) (a19) (a20) (a21) (a22) (a23) (a24) (a25) (a26) (a28) (a29) (a30) (a31) (a32) (a33) (a35) (a36) (p2) H.size) (cwV 1 hts (kz_gV qw_958 qw_959 qw_960 qw_5 qw_961) rfl rfl rfl (by decide +kernel) ⟨Nat.le_of_ble_eq_true rfl, Nat.le_of_ble_eq_true rfl⟩) (⟨(kz_preS hPc hKc hDc).1, (va_recv hKc hPc (ci := 12) (q0 := 0) rfl rfl), (kz_preS hPc hKc hDc).2⟩) rfl rfl hl.1 rfl (lv_room (Nat.le_of_ble_eq_true rfl)) dX12_graft_8 ⟨Nat.le_of_ble_eq_true rfl, Nat.le_of_ble_eq_true rfl⟩) hS (fun q _ h => hFc q h) hFc (fun r_3 u_4 t H1 locs ht hvm hw hB hz1 hk1 hS => ?_)
  try dsimp only at hw
  obtain ⟨hP1, hK1, hD1⟩ := hB
  rw [ht] at hP1
  have hK1 := va_K.moved hvm.symm hK1
  obtain ⟨hP, hD⟩ := va_join (wr := []) (w1 := [(z, .inr (12, [.ref tm, .int 0, .int 0, .int 0, .int 0, .int 0, .int 0, .int 0, .int 0, .ref a9, .ref nw, .ref a11, .ref a12, .int 0, .int 0, .int 0, .ref a16, .ref a17, .ref a18, .ref a19, .ref a20, .ref a21, .ref a22, .ref a23, .ref a24, .ref a25, .ref a26, .int 0, .ref a28, .ref a29, .ref a30, .ref a31, .ref a32, .ref a33, .int 0, .ref a35, .ref a36]))]) hP hD [0] [] rfl rfl (by decide) (by decide) hk1 hFc hP1 hD1
  have hK := (hK.sub (tys' := []) [] rfl).app hK1
  generalize H1 = H at hP hS ⊢
  have hP : va_P (dC, dI) vwCl [(z, .inr (12, [.ref tm, .int 0, .int 0, .int 0, .int 0, .int 0, .int 0, .int 0, .int 0, .ref a9, .ref nw, .ref a11, .ref a12, .int 0, .int 0, .int 0, .ref a16, .ref a17, .ref a18, .ref a19, .ref a20, .ref a21, .ref a22, .ref a23, .ref a24, .ref a25, .ref a26, .int 0, .ref a28, .ref a29, .ref a30, .ref a31, .ref a32, .ref a33, .int 0, .ref a35, .ref a36]))] H := hP
  have hD : va_D A [(z, .inr (12, [.ref tm, .int 0, .int 0, .int 0, .int 0, .int 0, .int 0, .int 0, .int 0, .ref a9, .ref nw, .ref a11, .ref a12, .int 0, .int 0, .int 0, .ref a16, .ref a17, .ref a18, .ref a19, .ref a20, .ref a21, .ref a22, .ref a23, .ref a24, .ref a25, .ref a26, .int 0, .ref a28, .ref a29, .ref a30, .ref a31, .ref a32, .ref a33, .int 0, .ref a35, .ref a36]))] := hD
  have hK : va_K (dC, dI) vwCl [] s := hK
  obtain rfl : r_3 = (-1) := hw
  refine lv_istore (lv' := [(4, .int (-1)), (3, .int (-1)), (0, .ref z), (1, .int p1), (2, .int p2)]) hx hb dX12_graft_11 hl (by decide) rfl (fun ls hl => ?_)
  refine lv_iload_n hx hb dX12_graft_13 rfl (lv_at hl 1 rfl) ?_
  refine lv_iconst (v := (-1)) hx hb dX12_graft_14 (by decide) ?_
  refine lv_icmp_eq (tgt := 36) hx hb dX12_graft_15 (by decide) (fun _ => ?_) (fun c9 => absurd (by decide) c9)
  refine lv_iconst (v := (-1)) hx hb dX12_graft_36 (by decide) ?_
  exact W.iret (v := (-1)) hx hb hr (fun t ht hW => ⟨⟨(-1), (), rfl, rfl, trivial⟩, hS.F ht⟩) hS.2.2 dX12_graft_37
set_option maxHeartbeats 4000000 in
set_option maxRecDepth 100000 in
theorem c_X12_page (l : Launch) (dC : Nat → ClassId) (dI : Nat → Nat → Nat) (z : Nat) (tm : Nat) (a9 : Nat) (nw : Nat) (a11 : Nat) (a12 : Nat) (a16 : Nat) (a17 : Nat) (a18 : Nat) (a19 : Nat) (a20 : Nat) (a21 : Nat) (a22 : Nat) (a23 : Nat) (a24 : Nat) (a25 : Nat) (a26 : Nat) (a28 : Nat) (a29 : Nat) (a30 : Nat) (a31 : Nat) (a32 : Nat) (a33 : Nat) (a35 : Nat) (a36 : Nat) (p1 : Int32) (p2 : Int32) (sz : Nat) : Met l yX12_page (Cond.code yX12_page cX12_page 4 (some .int) :: wsU) ({ frames := 2, cells := 0, slots := 0, locals := 46 }) (va_Pc [.ref z, .int p1, .int p2] (kz_B (dC, dI) sz [(z, .inr (12, [.ref tm, .int 0, .int 0, .int 0, .int 0, .int 0, .int 0, .int 0, .int 0, .ref a9, .ref nw, .ref a11, .ref a12, .int 0, .int 0, .int 0, .ref a16, .ref a17, .ref a18, .ref a19, .ref a20, .ref a21, .ref a22, .ref a23, .ref a24, .ref a25, .ref a26, .int 0, .ref a28, .ref a29, .ref a30, .ref a31, .ref a32, .ref a33, .int 0, .ref a35, .ref a36]))] [])) (va_Qi (fun (r : Int32) (_ : Unit) => r = (-2147483648)) (fun _ _ => True) (va_A [(z, .inr (12, [.ref tm, .int 0, .int 0, .int 0, .int 0, .int 0, .int 0, .int 0, .int 0, .ref a9, .ref nw, .ref a11, .ref a12, .int 0, .int 0, .int 0, .ref a16, .ref a17, .ref a18, .ref a19, .ref a20, .ref a21, .ref a22, .ref a23, .ref a24, .ref a25, .ref a26, .int 0, .ref a28, .ref a29, .ref a30, .ref a31, .ref a32, .ref a33, .int 0, .ref a35, .ref a36]))] sz)) 0 0 (va_A [(z, .inr (12, [.ref tm, .int 0, .int 0, .int 0, .int 0, .int 0, .int 0, .int 0, .int 0, .ref a9, .ref nw, .ref a11, .ref a12, .int 0, .int 0, .int 0, .ref a16, .ref a17, .ref a18, .ref a19, .ref a20, .ref a21, .ref a22, .ref a23, .ref a24, .ref a25, .ref a26, .int 0, .ref a28, .ref a29, .ref a30, .ref a31, .ref a32, .ref a33, .int 0, .ref a35, .ref a36]))] sz) := by
  refine Met.ofW (cc := cX12_page) (maxL := 4) (ret := (some .int)) (by decide) rfl ?_
  intro p e s m args below meth c s₁ B hml hv
  obtain ⟨rfl, hsz, hP, hK, hD0⟩ := hv
  have hx := B.exec
  have hb := B.bytes
  have hr := B.returns
  have hts := atoms_spec (ws := (Cond.code yX12_page cX12_page 4 (some .int) :: wsU)) B.pre
  have hts : ∀ w ∈ wsU, w.before _ s = true := fun w h => hts w (List.mem_cons_of_mem _ h)
  have hown : s.vm.findClass RX12 = some m.cls := findClass_of_methodNamed B.named
  have hlocks := B.notSynchronized
  subst hsz
  have hD := hD0.self (sz := s.heap.size)
  generalize hAe : va_A [(z, .inr (12, [.ref tm, .int 0, .int 0, .int 0, .int 0, .int 0, .int 0, .int 0, .int 0, .ref a9, .ref nw, .ref a11, .ref a12, .int 0, .int 0, .int 0, .ref a16, .ref a17, .ref a18, .ref a19, .ref a20, .ref a21, .ref a22, .ref a23, .ref a24, .ref a25, .ref a26, .int 0, .ref a28, .ref a29, .ref a30, .ref a31, .ref a32, .ref a33, .int 0, .ref a35, .ref a36]))] s.heap.size = A at hD ⊢
  have hA : ∀ q : Nat, s.heap.size ≤ q → A q := fun q h => by rw [← hAe]; exact Or.inr h
  have hS : va_S A s.heap s.heap [] := va_S.rf
  have hP : va_P (dC, dI) vwCl [(z, .inr (12, [.ref tm, .int 0, .int 0, .int 0, .int 0, .int 0, .int 0, .int 0, .int 0, .ref a9, .ref nw, .ref a11, .ref a12, .int 0, .int 0, .int 0, .ref a16, .ref a17, .ref a18, .ref a19, .ref a20, .ref a21, .ref a22, .ref a23, .ref a24, .ref a25, .ref a26, .int 0, .ref a28, .ref a29, .ref a30, .ref a31, .ref a32, .ref a33, .int 0, .ref a35, .ref a36]))] s.heap := hP
  have hl := lv_entry ([.ref z, .int p1, .int p2]) (n := 4) (Nat.le_of_ble_eq_true rfl)
  rw [lg_entry_eq]
  generalize (lg_sl ([.ref z, .int p1, .int p2]) ++ List.replicate (4 - (lg_sl ([.ref z, .int p1, .int p2])).length) Slot.unset).toArray = ls at hl ⊢
  have hl : lv_has ls 4 [(0, .ref z), (1, .int p1), (2, .int p2)] := hl
  refine lv_aload_n hx hb dX12_page_0 rfl (lv_at hl 0 rfl) ?_
  refine lv_iload_n hx hb dX12_page_1 rfl (lv_at hl 1 rfl) ?_
  have hPc := hP.sub (ws' := [(z, .inr (12, [.ref tm, .int 0, .int 0, .int 0, .int 0, .int 0, .int 0, .int 0, .int 0, .ref a9, .ref nw, .ref a11, .ref a12, .int 0, .int 0, .int 0, .ref a16, .ref a17, .ref a18, .ref a19, .ref a20, .ref a21, .ref a22, .ref a23, .ref a24, .ref a25, .ref a26, .int 0, .ref a28, .ref a29, .ref a30, .ref a31, .ref a32, .ref a33, .int 0, .ref a35, .ref a36]))]) [0] rfl
  have hDc := hD.sub (ws' := [(z, .inr (12, [.ref tm, .int 0, .int 0, .int 0, .int 0, .int 0, .int 0, .int 0, .int 0, .ref a9, .ref nw, .ref a11, .ref a12, .int 0, .int 0, .int 0, .ref a16, .ref a17, .ref a18, .ref a19, .ref a20, .ref a21, .ref a22, .ref a23, .ref a24, .ref a25, .ref a26, .int 0, .ref a28, .ref a29, .ref a30, .ref a31, .ref a32, .ref a33, .int 0, .ref a35, .ref a36]))]) [0] (by decide) rfl
  have hKc := hK.sub (tys' := []) [] rfl
  have hFc := va_free (wc := [(z, .inr (12, [.ref tm, .int 0, .int 0, .int 0, .int 0, .int 0, .int 0, .int 0, .int 0, .ref a9, .ref nw, .ref a11, .ref a12, .int 0, .int 0, .int 0, .ref a16, .ref a17, .ref a18, .ref a19, .ref a20, .ref a21, .ref a22, .ref a23, .ref a24, .ref a25, .ref a26, .int 0, .ref a28, .ref a29, .ref a30, .ref a31, .ref a32, .ref a33, .int 0, .ref a35, .ref a36]))]) hD hS hA [0] rfl
  refine va_calli (va_runV (As := [.int p1]) (rest := []) ⟨hx, hb, hml, hown, hts⟩ (c_X12_pageBy l dC dI (z) (tm) (a9) (nw) (a11) (a12) (a16) (a17) (a18) (a19) (a20) (a21) (a22) (a23) (a24) (a25) (a26) (a28) (a29) (a30) (a31) (a32) (a33) (a35) (a36) (p1) s.heap.size) (cwV 1 hts (kz_gV qw_958 qw_959 qw_960 qw_5 qw_961) rfl rfl rfl (by decide +kernel) ⟨Nat.le_of_ble_eq_true rfl, Nat.le_of_ble_eq_true rfl⟩) (⟨(kz_preS hPc hKc hDc).1, (va_recv hKc hPc (ci := 12) (q0 := 0) rfl rfl), (kz_preS hPc hKc hDc).2⟩) rfl rfl hl.1 rfl (lv_room (Nat.le_of_ble_eq_true rfl)) dX12_page_2 ⟨Nat.le_of_ble_eq_true rfl, Nat.le_of_ble_eq_true rfl⟩) hS (fun q _ h => hFc q h) hFc (fun r_1 u_2 t H1 locs ht hvm hw hB hz1 hk1 hS => ?_)
  try dsimp only at hw
  obtain ⟨hP1, hK1, hD1⟩ := hB
  rw [ht] at hP1
  have hK1 := va_K.moved hvm.symm hK1
  obtain ⟨hP, hD⟩ := va_join (wr := []) (w1 := [(z, .inr (12, [.ref tm, .int 0, .int 0, .int 0, .int 0, .int 0, .int 0, .int 0, .int 0, .ref a9, .ref nw, .ref a11, .ref a12, .int 0, .int 0, .int 0, .ref a16, .ref a17, .ref a18, .ref a19, .ref a20, .ref a21, .ref a22, .ref a23, .ref a24, .ref a25, .ref a26, .int 0, .ref a28, .ref a29, .ref a30, .ref a31, .ref a32, .ref a33, .int 0, .ref a35, .ref a36]))]) hP hD [0] [] rfl rfl (by decide) (by decide) hk1 hFc hP1 hD1
  have hK := (hK.sub (tys' := []) [] rfl).app hK1
  generalize H1 = H at hP hS ⊢
  have hP : va_P (dC, dI) vwCl [(z, .inr (12, [.ref tm, .int 0, .int 0, .int 0, .int 0, .int 0, .int 0, .int 0, .int 0, .ref a9, .ref nw, .ref a11, .ref a12, .int 0, .int 0, .int 0, .ref a16, .ref a17, .ref a18, .ref a19, .ref a20, .ref a21, .ref a22, .ref a23, .ref a24, .ref a25, .ref a26, .int 0, .ref a28, .ref a29, .ref a30, .ref a31, .ref a32, .ref a33, .int 0, .ref a35, .ref a36]))] H := hP
  have hD : va_D A [(z, .inr (12, [.ref tm, .int 0, .int 0, .int 0, .int 0, .int 0, .int 0, .int 0, .int 0, .ref a9, .ref nw, .ref a11, .ref a12, .int 0, .int 0, .int 0, .ref a16, .ref a17, .ref a18, .ref a19, .ref a20, .ref a21, .ref a22, .ref a23, .ref a24, .ref a25, .ref a26, .int 0, .ref a28, .ref a29, .ref a30, .ref a31, .ref a32, .ref a33, .int 0, .ref a35, .ref a36]))] := hD
  have hK : va_K (dC, dI) vwCl [] s := hK
  obtain rfl : r_1 = (-1) := hw
  refine lv_istore_n (lv' := [(3, .int (-1)), (0, .ref z), (1, .int p1), (2, .int p2)]) hx hb dX12_page_5 rfl hl (by decide) rfl (fun ls hl => ?_)
  refine lv_iload_n hx hb dX12_page_6 rfl (lv_at hl 0 rfl) ?_
  refine lv_iconst (v := (-1)) hx hb dX12_page_7 (by decide) ?_
  refine lv_icmp_eq (tgt := 23) hx hb dX12_page_8 (by decide) (fun _ => ?_) (fun c9 => absurd (by decide) c9)
  refine lv_ldcw (v := (-2147483648)) hx hb hown (hts _ qw_1063) dX12_page_23 ?_
  exact W.iret (v := (-2147483648)) hx hb hr (fun t ht hW => ⟨⟨(-2147483648), (), rfl, rfl, trivial⟩, hS.F ht⟩) hS.2.2 dX12_page_26
set_option maxHeartbeats 4000000 in
set_option maxRecDepth 100000 in
theorem c_X12_entry (l : Launch) (dC : Nat → ClassId) (dI : Nat → Nat → Nat) (z : Nat) (tm : Nat) (a9 : Nat) (nw : Nat) (a11 : Nat) (a12 : Nat) (a16 : Nat) (a17 : Nat) (a18 : Nat) (a19 : Nat) (a20 : Nat) (a21 : Nat) (a22 : Nat) (a23 : Nat) (a24 : Nat) (a25 : Nat) (a26 : Nat) (a28 : Nat) (a29 : Nat) (a30 : Nat) (a31 : Nat) (a32 : Nat) (a33 : Nat) (a35 : Nat) (a36 : Nat) (p1 : Int32) (p2 : Int32) (sz : Nat) : Met l yX12_entry (Cond.code yX12_entry cX12_entry 5 (some .int) :: wsU) ({ frames := 2, cells := 0, slots := 0, locals := 46 }) (va_Pc [.ref z, .int p1, .int p2] (kz_B (dC, dI) sz [(z, .inr (12, [.ref tm, .int 0, .int 0, .int 0, .int 0, .int 0, .int 0, .int 0, .int 0, .ref a9, .ref nw, .ref a11, .ref a12, .int 0, .int 0, .int 0, .ref a16, .ref a17, .ref a18, .ref a19, .ref a20, .ref a21, .ref a22, .ref a23, .ref a24, .ref a25, .ref a26, .int 0, .ref a28, .ref a29, .ref a30, .ref a31, .ref a32, .ref a33, .int 0, .ref a35, .ref a36]))] [])) (va_Qi (fun (r : Int32) (_ : Unit) => r = (-1)) (fun _ _ => True) (va_A [(z, .inr (12, [.ref tm, .int 0, .int 0, .int 0, .int 0, .int 0, .int 0, .int 0, .int 0, .ref a9, .ref nw, .ref a11, .ref a12, .int 0, .int 0, .int 0, .ref a16, .ref a17, .ref a18, .ref a19, .ref a20, .ref a21, .ref a22, .ref a23, .ref a24, .ref a25, .ref a26, .int 0, .ref a28, .ref a29, .ref a30, .ref a31, .ref a32, .ref a33, .int 0, .ref a35, .ref a36]))] sz)) 0 0 (va_A [(z, .inr (12, [.ref tm, .int 0, .int 0, .int 0, .int 0, .int 0, .int 0, .int 0, .int 0, .ref a9, .ref nw, .ref a11, .ref a12, .int 0, .int 0, .int 0, .ref a16, .ref a17, .ref a18, .ref a19, .ref a20, .ref a21, .ref a22, .ref a23, .ref a24, .ref a25, .ref a26, .int 0, .ref a28, .ref a29, .ref a30, .ref a31, .ref a32, .ref a33, .int 0, .ref a35, .ref a36]))] sz) := by
  refine Met.ofW (cc := cX12_entry) (maxL := 5) (ret := (some .int)) (by decide) rfl ?_
  intro p e s m args below meth c s₁ B hml hv
  obtain ⟨rfl, hsz, hP, hK, hD0⟩ := hv
  have hx := B.exec
  have hb := B.bytes
  have hr := B.returns
  have hts := atoms_spec (ws := (Cond.code yX12_entry cX12_entry 5 (some .int) :: wsU)) B.pre
  have hts : ∀ w ∈ wsU, w.before _ s = true := fun w h => hts w (List.mem_cons_of_mem _ h)
  have hown : s.vm.findClass RX12 = some m.cls := findClass_of_methodNamed B.named
  have hlocks := B.notSynchronized
  subst hsz
  have hD := hD0.self (sz := s.heap.size)
  generalize hAe : va_A [(z, .inr (12, [.ref tm, .int 0, .int 0, .int 0, .int 0, .int 0, .int 0, .int 0, .int 0, .ref a9, .ref nw, .ref a11, .ref a12, .int 0, .int 0, .int 0, .ref a16, .ref a17, .ref a18, .ref a19, .ref a20, .ref a21, .ref a22, .ref a23, .ref a24, .ref a25, .ref a26, .int 0, .ref a28, .ref a29, .ref a30, .ref a31, .ref a32, .ref a33, .int 0, .ref a35, .ref a36]))] s.heap.size = A at hD ⊢
  have hA : ∀ q : Nat, s.heap.size ≤ q → A q := fun q h => by rw [← hAe]; exact Or.inr h
  have hS : va_S A s.heap s.heap [] := va_S.rf
  have hP : va_P (dC, dI) vwCl [(z, .inr (12, [.ref tm, .int 0, .int 0, .int 0, .int 0, .int 0, .int 0, .int 0, .int 0, .ref a9, .ref nw, .ref a11, .ref a12, .int 0, .int 0, .int 0, .ref a16, .ref a17, .ref a18, .ref a19, .ref a20, .ref a21, .ref a22, .ref a23, .ref a24, .ref a25, .ref a26, .int 0, .ref a28, .ref a29, .ref a30, .ref a31, .ref a32, .ref a33, .int 0, .ref a35, .ref a36]))] s.heap := hP
  have hl := lv_entry ([.ref z, .int p1, .int p2]) (n := 5) (Nat.le_of_ble_eq_true rfl)
  rw [lg_entry_eq]
  generalize (lg_sl ([.ref z, .int p1, .int p2]) ++ List.replicate (5 - (lg_sl ([.ref z, .int p1, .int p2])).length) Slot.unset).toArray = ls at hl ⊢
  have hl : lv_has ls 5 [(0, .ref z), (1, .int p1), (2, .int p2)] := hl
  refine lv_aload_n hx hb dX12_entry_0 rfl (lv_at hl 0 rfl) ?_
  refine lv_iload_n hx hb dX12_entry_1 rfl (lv_at hl 1 rfl) ?_
  have hPc := hP.sub (ws' := [(z, .inr (12, [.ref tm, .int 0, .int 0, .int 0, .int 0, .int 0, .int 0, .int 0, .int 0, .ref a9, .ref nw, .ref a11, .ref a12, .int 0, .int 0, .int 0, .ref a16, .ref a17, .ref a18, .ref a19, .ref a20, .ref a21, .ref a22, .ref a23, .ref a24, .ref a25, .ref a26, .int 0, .ref a28, .ref a29, .ref a30, .ref a31, .ref a32, .ref a33, .int 0, .ref a35, .ref a36]))]) [0] rfl
  have hDc := hD.sub (ws' := [(z, .inr (12, [.ref tm, .int 0, .int 0, .int 0, .int 0, .int 0, .int 0, .int 0, .int 0, .ref a9, .ref nw, .ref a11, .ref a12, .int 0, .int 0, .int 0, .ref a16, .ref a17, .ref a18, .ref a19, .ref a20, .ref a21, .ref a22, .ref a23, .ref a24, .ref a25, .ref a26, .int 0, .ref a28, .ref a29, .ref a30, .ref a31, .ref a32, .ref a33, .int 0, .ref a35, .ref a36]))]) [0] (by decide) rfl
  have hKc := hK.sub (tys' := []) [] rfl
  have hFc := va_free (wc := [(z, .inr (12, [.ref tm, .int 0, .int 0, .int 0, .int 0, .int 0, .int 0, .int 0, .int 0, .ref a9, .ref nw, .ref a11, .ref a12, .int 0, .int 0, .int 0, .ref a16, .ref a17, .ref a18, .ref a19, .ref a20, .ref a21, .ref a22, .ref a23, .ref a24, .ref a25, .ref a26, .int 0, .ref a28, .ref a29, .ref a30, .ref a31, .ref a32, .ref a33, .int 0, .ref a35, .ref a36]))]) hD hS hA [0] rfl
  refine va_calli (va_runV (As := [.int p1]) (rest := []) ⟨hx, hb, hml, hown, hts⟩ (c_X12_pageBy l dC dI (z) (tm) (a9) (nw) (a11) (a12) (a16) (a17) (a18) (a19) (a20) (a21) (a22) (a23) (a24) (a25) (a26) (a28) (a29) (a30) (a31) (a32) (a33) (a35) (a36) (p1) s.heap.size) (cwV 1 hts (kz_gV qw_958 qw_959 qw_960 qw_5 qw_961) rfl rfl rfl (by decide +kernel) ⟨Nat.le_of_ble_eq_true rfl, Nat.le_of_ble_eq_true rfl⟩) (⟨(kz_preS hPc hKc hDc).1, (va_recv hKc hPc (ci := 12) (q0 := 0) rfl rfl), (kz_preS hPc hKc hDc).2⟩) rfl rfl hl.1 rfl (lv_room (Nat.le_of_ble_eq_true rfl)) dX12_entry_2 ⟨Nat.le_of_ble_eq_true rfl, Nat.le_of_ble_eq_true rfl⟩) hS (fun q _ h => hFc q h) hFc (fun r_1 u_2 t H1 locs ht hvm hw hB hz1 hk1 hS => ?_)
  try dsimp only at hw
  obtain ⟨hP1, hK1, hD1⟩ := hB
  rw [ht] at hP1
  have hK1 := va_K.moved hvm.symm hK1
  obtain ⟨hP, hD⟩ := va_join (wr := []) (w1 := [(z, .inr (12, [.ref tm, .int 0, .int 0, .int 0, .int 0, .int 0, .int 0, .int 0, .int 0, .ref a9, .ref nw, .ref a11, .ref a12, .int 0, .int 0, .int 0, .ref a16, .ref a17, .ref a18, .ref a19, .ref a20, .ref a21, .ref a22, .ref a23, .ref a24, .ref a25, .ref a26, .int 0, .ref a28, .ref a29, .ref a30, .ref a31, .ref a32, .ref a33, .int 0, .ref a35, .ref a36]))]) hP hD [0] [] rfl rfl (by decide) (by decide) hk1 hFc hP1 hD1
  have hK := (hK.sub (tys' := []) [] rfl).app hK1
  generalize H1 = H at hP hS ⊢
  have hP : va_P (dC, dI) vwCl [(z, .inr (12, [.ref tm, .int 0, .int 0, .int 0, .int 0, .int 0, .int 0, .int 0, .int 0, .ref a9, .ref nw, .ref a11, .ref a12, .int 0, .int 0, .int 0, .ref a16, .ref a17, .ref a18, .ref a19, .ref a20, .ref a21, .ref a22, .ref a23, .ref a24, .ref a25, .ref a26, .int 0, .ref a28, .ref a29, .ref a30, .ref a31, .ref a32, .ref a33, .int 0, .ref a35, .ref a36]))] H := hP
  have hD : va_D A [(z, .inr (12, [.ref tm, .int 0, .int 0, .int 0, .int 0, .int 0, .int 0, .int 0, .int 0, .ref a9, .ref nw, .ref a11, .ref a12, .int 0, .int 0, .int 0, .ref a16, .ref a17, .ref a18, .ref a19, .ref a20, .ref a21, .ref a22, .ref a23, .ref a24, .ref a25, .ref a26, .int 0, .ref a28, .ref a29, .ref a30, .ref a31, .ref a32, .ref a33, .int 0, .ref a35, .ref a36]))] := hD
  have hK : va_K (dC, dI) vwCl [] s := hK
  obtain rfl : r_1 = (-1) := hw
  refine lv_istore_n (lv' := [(3, .int (-1)), (0, .ref z), (1, .int p1), (2, .int p2)]) hx hb dX12_entry_5 rfl hl (by decide) rfl (fun ls hl => ?_)
  refine lv_iload_n hx hb dX12_entry_6 rfl (lv_at hl 0 rfl) ?_
  refine lv_iconst (v := (-1)) hx hb dX12_entry_7 (by decide) ?_
  refine lv_icmp_eq (tgt := 33) hx hb dX12_entry_8 (by decide) (fun _ => ?_) (fun c9 => absurd (by decide) c9)
  refine lv_iconst (v := (-1)) hx hb dX12_entry_33 (by decide) ?_
  exact W.iret (v := (-1)) hx hb hr (fun t ht hW => ⟨⟨(-1), (), rfl, rfl, trivial⟩, hS.F ht⟩) hS.2.2 dX12_entry_34
set_option maxHeartbeats 4000000 in
set_option maxRecDepth 100000 in
theorem c_X12_grid (l : Launch) (dC : Nat → ClassId) (dI : Nat → Nat → Nat) (z : Nat) (tm : Nat) (a9 : Nat) (nw : Nat) (a11 : Nat) (a12 : Nat) (a16 : Nat) (a17 : Nat) (a18 : Nat) (a19 : Nat) (a20 : Nat) (a21 : Nat) (a22 : Nat) (a23 : Nat) (a24 : Nat) (a25 : Nat) (a26 : Nat) (a28 : Nat) (a29 : Nat) (a30 : Nat) (a31 : Nat) (a32 : Nat) (a33 : Nat) (a35 : Nat) (a36 : Nat) (p1 : Int32) (sz : Nat) : Met l yX12_grid (Cond.code yX12_grid cX12_grid 6 (some .long) :: wsU) ({ frames := 1, cells := 0, slots := 0, locals := 20 }) (va_Pc [.ref z, .int p1] (kz_B (dC, dI) sz [(z, .inr (12, [.ref tm, .int 0, .int 0, .int 0, .int 0, .int 0, .int 0, .int 0, .int 0, .ref a9, .ref nw, .ref a11, .ref a12, .int 0, .int 0, .int 0, .ref a16, .ref a17, .ref a18, .ref a19, .ref a20, .ref a21, .ref a22, .ref a23, .ref a24, .ref a25, .ref a26, .int 0, .ref a28, .ref a29, .ref a30, .ref a31, .ref a32, .ref a33, .int 0, .ref a35, .ref a36]))] [])) (va_Ql (fun (r : Int64) (_ : Unit) => r = 0) (fun _ _ => True) (va_A [(z, .inr (12, [.ref tm, .int 0, .int 0, .int 0, .int 0, .int 0, .int 0, .int 0, .int 0, .ref a9, .ref nw, .ref a11, .ref a12, .int 0, .int 0, .int 0, .ref a16, .ref a17, .ref a18, .ref a19, .ref a20, .ref a21, .ref a22, .ref a23, .ref a24, .ref a25, .ref a26, .int 0, .ref a28, .ref a29, .ref a30, .ref a31, .ref a32, .ref a33, .int 0, .ref a35, .ref a36]))] sz)) 0 0 (va_A [(z, .inr (12, [.ref tm, .int 0, .int 0, .int 0, .int 0, .int 0, .int 0, .int 0, .int 0, .ref a9, .ref nw, .ref a11, .ref a12, .int 0, .int 0, .int 0, .ref a16, .ref a17, .ref a18, .ref a19, .ref a20, .ref a21, .ref a22, .ref a23, .ref a24, .ref a25, .ref a26, .int 0, .ref a28, .ref a29, .ref a30, .ref a31, .ref a32, .ref a33, .int 0, .ref a35, .ref a36]))] sz) := by
  refine Met.ofW (cc := cX12_grid) (maxL := 6) (ret := (some .long)) (by decide) rfl ?_
  intro p e s m args below meth c s₁ B hml hv
  obtain ⟨rfl, hsz, hP, hK, hD0⟩ := hv
  have hx := B.exec
  have hb := B.bytes
  have hr := B.returns
  have hts := atoms_spec (ws := (Cond.code yX12_grid cX12_grid 6 (some .long) :: wsU)) B.pre
  have hts : ∀ w ∈ wsU, w.before _ s = true := fun w h => hts w (List.mem_cons_of_mem _ h)
  have hown : s.vm.findClass RX12 = some m.cls := findClass_of_methodNamed B.named
  have hlocks := B.notSynchronized
  subst hsz
  have hD := hD0.self (sz := s.heap.size)
  generalize hAe : va_A [(z, .inr (12, [.ref tm, .int 0, .int 0, .int 0, .int 0, .int 0, .int 0, .int 0, .int 0, .ref a9, .ref nw, .ref a11, .ref a12, .int 0, .int 0, .int 0, .ref a16, .ref a17, .ref a18, .ref a19, .ref a20, .ref a21, .ref a22, .ref a23, .ref a24, .ref a25, .ref a26, .int 0, .ref a28, .ref a29, .ref a30, .ref a31, .ref a32, .ref a33, .int 0, .ref a35, .ref a36]))] s.heap.size = A at hD ⊢
  have hA : ∀ q : Nat, s.heap.size ≤ q → A q := fun q h => by rw [← hAe]; exact Or.inr h
  have hS : va_S A s.heap s.heap [] := va_S.rf
  have hP : va_P (dC, dI) vwCl [(z, .inr (12, [.ref tm, .int 0, .int 0, .int 0, .int 0, .int 0, .int 0, .int 0, .int 0, .ref a9, .ref nw, .ref a11, .ref a12, .int 0, .int 0, .int 0, .ref a16, .ref a17, .ref a18, .ref a19, .ref a20, .ref a21, .ref a22, .ref a23, .ref a24, .ref a25, .ref a26, .int 0, .ref a28, .ref a29, .ref a30, .ref a31, .ref a32, .ref a33, .int 0, .ref a35, .ref a36]))] s.heap := hP
  have hl := lv_entry ([.ref z, .int p1]) (n := 6) (Nat.le_of_ble_eq_true rfl)
  rw [lg_entry_eq]
  generalize (lg_sl ([.ref z, .int p1]) ++ List.replicate (6 - (lg_sl ([.ref z, .int p1])).length) Slot.unset).toArray = ls at hl ⊢
  have hl : lv_has ls 6 [(0, .ref z), (1, .int p1)] := hl
  refine lv_lconst (v := 0) hx hb dX12_grid_0 (by decide) ?_
  refine lv_lstore_n (lv' := [(2, .long 0), (0, .ref z), (1, .int p1)]) hx hb dX12_grid_1 rfl hl (by decide) rfl (fun ls hl => ?_)
  refine lv_iconst (v := 0) hx hb dX12_grid_2 (by decide) ?_
  refine lv_istore (lv' := [(4, .int 0), (2, .long 0), (0, .ref z), (1, .int p1)]) hx hb dX12_grid_3 hl (by decide) rfl (fun ls hl => ?_)
  refine lv_iload hx hb dX12_grid_5 (lv_at hl 0 rfl) ?_
  refine lv_bipush (v := 100) hx hb dX12_grid_7 (by decide) ?_
  refine lv_icmp_ge (tgt := 55) hx hb dX12_grid_9 (by decide) (fun c9 => absurd c9 (by decide)) (fun _ => ?_)
  refine lv_aload_n hx hb dX12_grid_12 rfl (lv_at hl 2 rfl) ?_
  refine va_get (D := (dC, dI)) (ci := 12) (v := .int 0) (C := RX12) (T := TX12) (N := 37) hx hb hts inlX12 hown hK hP 0 rfl rfl 13 (by decide) (hts _ qw_602) (fun _ h9 => h9) rfl dX12_grid_13 ?_
  refine lv_if_eq (tgt := 55) hx hb dX12_grid_16 (by decide) (fun _ => ?_) (fun c9 => absurd (by decide) c9)
  refine lv_aload_n hx hb dX12_grid_55 rfl (lv_at hl 2 rfl) ?_
  have hPc := hP.sub (ws' := [(z, .inr (12, [.ref tm, .int 0, .int 0, .int 0, .int 0, .int 0, .int 0, .int 0, .int 0, .ref a9, .ref nw, .ref a11, .ref a12, .int 0, .int 0, .int 0, .ref a16, .ref a17, .ref a18, .ref a19, .ref a20, .ref a21, .ref a22, .ref a23, .ref a24, .ref a25, .ref a26, .int 0, .ref a28, .ref a29, .ref a30, .ref a31, .ref a32, .ref a33, .int 0, .ref a35, .ref a36]))]) [0] rfl
  have hDc := hD.sub (ws' := [(z, .inr (12, [.ref tm, .int 0, .int 0, .int 0, .int 0, .int 0, .int 0, .int 0, .int 0, .ref a9, .ref nw, .ref a11, .ref a12, .int 0, .int 0, .int 0, .ref a16, .ref a17, .ref a18, .ref a19, .ref a20, .ref a21, .ref a22, .ref a23, .ref a24, .ref a25, .ref a26, .int 0, .ref a28, .ref a29, .ref a30, .ref a31, .ref a32, .ref a33, .int 0, .ref a35, .ref a36]))]) [0] (by decide) rfl
  have hKc := hK.sub (tys' := []) [] rfl
  have hFc := va_free (wc := [(z, .inr (12, [.ref tm, .int 0, .int 0, .int 0, .int 0, .int 0, .int 0, .int 0, .int 0, .ref a9, .ref nw, .ref a11, .ref a12, .int 0, .int 0, .int 0, .ref a16, .ref a17, .ref a18, .ref a19, .ref a20, .ref a21, .ref a22, .ref a23, .ref a24, .ref a25, .ref a26, .int 0, .ref a28, .ref a29, .ref a30, .ref a31, .ref a32, .ref a33, .int 0, .ref a35, .ref a36]))]) hD hS hA [0] rfl
  refine va_callv (va_runV (As := []) (rest := []) ⟨hx, hb, hml, hown, hts⟩ (c_X12_numbers l dC dI (z) (tm) (a9) (nw) (a11) (a12) (a16) (a17) (a18) (a19) (a20) (a21) (a22) (a23) (a24) (a25) (a26) (a28) (a29) (a30) (a31) (a32) (a33) (a35) (a36) s.heap.size) (cwV 0 hts (kz_gV qw_815 qw_816 qw_817 qw_5 qw_818) rfl rfl rfl (by decide +kernel) ⟨Nat.le_of_ble_eq_true rfl, Nat.le_of_ble_eq_true rfl⟩) (⟨(kz_preS hPc hKc hDc).1, (va_recv hKc hPc (ci := 12) (q0 := 0) rfl rfl), (kz_preS hPc hKc hDc).2⟩) rfl rfl hl.1 rfl (lv_room (Nat.le_of_ble_eq_true rfl)) dX12_grid_56 ⟨Nat.le_of_ble_eq_true rfl, Nat.le_of_ble_eq_true rfl⟩) hS (fun q _ h => hFc q h) hFc (fun u_2 t H1 locs ht hvm hw hB hz1 hk1 hS => ?_)
  try dsimp only at hw
  obtain ⟨hP1, hK1, hD1⟩ := hB
  rw [ht] at hP1
  have hK1 := va_K.moved hvm.symm hK1
  obtain ⟨hP, hD⟩ := va_join (wr := []) (w1 := [(z, .inr (12, [.ref tm, .int 0, .int 0, .int 0, .int 0, .int 0, .int 0, .int 0, .int 0, .ref a9, .ref nw, .ref a11, .ref a12, .int 0, .int 0, .int 0, .ref a16, .ref a17, .ref a18, .ref a19, .ref a20, .ref a21, .ref a22, .ref a23, .ref a24, .ref a25, .ref a26, .int 0, .ref a28, .ref a29, .ref a30, .ref a31, .ref a32, .ref a33, .int 0, .ref a35, .ref a36]))]) hP hD [0] [] rfl rfl (by decide) (by decide) hk1 hFc hP1 hD1
  have hK := (hK.sub (tys' := []) [] rfl).app hK1
  generalize H1 = H at hP hS ⊢
  have hP : va_P (dC, dI) vwCl [(z, .inr (12, [.ref tm, .int 0, .int 0, .int 0, .int 0, .int 0, .int 0, .int 0, .int 0, .ref a9, .ref nw, .ref a11, .ref a12, .int 0, .int 0, .int 0, .ref a16, .ref a17, .ref a18, .ref a19, .ref a20, .ref a21, .ref a22, .ref a23, .ref a24, .ref a25, .ref a26, .int 0, .ref a28, .ref a29, .ref a30, .ref a31, .ref a32, .ref a33, .int 0, .ref a35, .ref a36]))] H := hP
  have hD : va_D A [(z, .inr (12, [.ref tm, .int 0, .int 0, .int 0, .int 0, .int 0, .int 0, .int 0, .int 0, .ref a9, .ref nw, .ref a11, .ref a12, .int 0, .int 0, .int 0, .ref a16, .ref a17, .ref a18, .ref a19, .ref a20, .ref a21, .ref a22, .ref a23, .ref a24, .ref a25, .ref a26, .int 0, .ref a28, .ref a29, .ref a30, .ref a31, .ref a32, .ref a33, .int 0, .ref a35, .ref a36]))] := hD
  have hK : va_K (dC, dI) vwCl [] s := hK
  refine lv_iconst (v := 0) hx hb dX12_grid_59 (by decide) ?_
  refine lv_istore (lv' := [(4, .int 0), (2, .long 0), (0, .ref z), (1, .int p1)]) hx hb dX12_grid_60 hl (by decide) rfl (fun ls hl => ?_)
  refine lv_iload hx hb dX12_grid_62 (lv_at hl 0 rfl) ?_
  refine lv_aload_n hx hb dX12_grid_64 rfl (lv_at hl 2 rfl) ?_
  refine va_get (D := (dC, dI)) (ci := 12) (v := .int 0) (C := RX12) (T := TX12) (N := 37) hx hb hts inlX12 hown hK hP 0 rfl rfl 27 (by decide) (hts _ qw_814) (fun _ h9 => h9) rfl dX12_grid_65 ?_
  refine lv_icmp_ge (tgt := 132) hx hb dX12_grid_68 (by decide) (fun _ => ?_) (fun c9 => absurd (by decide) c9)
  refine lv_lload_n hx hb dX12_grid_132 rfl (lv_at hl 1 rfl) ?_
  exact W.lret (v := 0) hx hb hr (fun t ht hW => ⟨⟨0, (), rfl, rfl, trivial⟩, hS.F ht⟩) hS.2.2 dX12_grid_133
set_option maxHeartbeats 4000000 in
set_option maxRecDepth 100000 in
theorem c_X12_isRect (l : Launch) (dC : Nat → ClassId) (dI : Nat → Nat → Nat) (z : Nat) (tm : Nat) (a9 : Nat) (nw : Nat) (a11 : Nat) (a12 : Nat) (a16 : Nat) (a17 : Nat) (a18 : Nat) (a19 : Nat) (a20 : Nat) (a21 : Nat) (a22 : Nat) (a23 : Nat) (a24 : Nat) (a25 : Nat) (a26 : Nat) (a28 : Nat) (a29 : Nat) (a30 : Nat) (a31 : Nat) (a32 : Nat) (a33 : Nat) (a35 : Nat) (a36 : Nat) (cI : ClassId) (p1 : Int32) (sz : Nat) : Met l yX12_isRect (Cond.code yX12_isRect cX12_isRect 2 (some .boolean) :: wsU) ({ frames := 1, cells := 0, slots := 0, locals := 25 }) (va_Pc [.ref z, .int p1] (kz_B (dC, dI) sz [(z, .inr (12, [.ref tm, .int 0, .int 0, .int 0, .int 0, .int 0, .int 0, .int 0, .int 0, .ref a9, .ref nw, .ref a11, .ref a12, .int 0, .int 0, .int 0, .ref a16, .ref a17, .ref a18, .ref a19, .ref a20, .ref a21, .ref a22, .ref a23, .ref a24, .ref a25, .ref a26, .int 0, .ref a28, .ref a29, .ref a30, .ref a31, .ref a32, .ref a33, .int 0, .ref a35, .ref a36])), (nw, .inl (cI, 12507, .inl (fun _ => 0)))] [(cI, .int)])) (va_Qi (fun (r : Int32) (_ : Unit) => r = 0) (fun _ _ => True) (va_A [(z, .inr (12, [.ref tm, .int 0, .int 0, .int 0, .int 0, .int 0, .int 0, .int 0, .int 0, .ref a9, .ref nw, .ref a11, .ref a12, .int 0, .int 0, .int 0, .ref a16, .ref a17, .ref a18, .ref a19, .ref a20, .ref a21, .ref a22, .ref a23, .ref a24, .ref a25, .ref a26, .int 0, .ref a28, .ref a29, .ref a30, .ref a31, .ref a32, .ref a33, .int 0, .ref a35, .ref a36])), (nw, .inl (cI, 12507, .inl (fun _ => 0)))] sz)) 0 0 (va_A [(z, .inr (12, [.ref tm, .int 0, .int 0, .int 0, .int 0, .int 0, .int 0, .int 0, .int 0, .ref a9, .ref nw, .ref a11, .ref a12, .int 0, .int 0, .int 0, .ref a16, .ref a17, .ref a18, .ref a19, .ref a20, .ref a21, .ref a22, .ref a23, .ref a24, .ref a25, .ref a26, .int 0, .ref a28, .ref a29, .ref a30, .ref a31, .ref a32, .ref a33, .int 0, .ref a35, .ref a36])), (nw, .inl (cI, 12507, .inl (fun _ => 0)))] sz) := by
  refine Met.ofW (cc := cX12_isRect) (maxL := 2) (ret := (some .boolean)) (by decide) rfl ?_
  intro p e s m args below meth c s₁ B hml hv
  obtain ⟨rfl, hsz, hP, hK, hD0⟩ := hv
  have hx := B.exec
  have hb := B.bytes
  have hr := B.returns
  have hts := atoms_spec (ws := (Cond.code yX12_isRect cX12_isRect 2 (some .boolean) :: wsU)) B.pre
  have hts : ∀ w ∈ wsU, w.before _ s = true := fun w h => hts w (List.mem_cons_of_mem _ h)
  have hown : s.vm.findClass RX12 = some m.cls := findClass_of_methodNamed B.named
  have hlocks := B.notSynchronized
  subst hsz
  have hD := hD0.self (sz := s.heap.size)
  generalize hAe : va_A [(z, .inr (12, [.ref tm, .int 0, .int 0, .int 0, .int 0, .int 0, .int 0, .int 0, .int 0, .ref a9, .ref nw, .ref a11, .ref a12, .int 0, .int 0, .int 0, .ref a16, .ref a17, .ref a18, .ref a19, .ref a20, .ref a21, .ref a22, .ref a23, .ref a24, .ref a25, .ref a26, .int 0, .ref a28, .ref a29, .ref a30, .ref a31, .ref a32, .ref a33, .int 0, .ref a35, .ref a36])), (nw, .inl (cI, 12507, .inl (fun _ => 0)))] s.heap.size = A at hD ⊢
  have hA : ∀ q : Nat, s.heap.size ≤ q → A q := fun q h => by rw [← hAe]; exact Or.inr h
  have hS : va_S A s.heap s.heap [] := va_S.rf
  have hP : va_P (dC, dI) vwCl [(z, .inr (12, [.ref tm, .int 0, .int 0, .int 0, .int 0, .int 0, .int 0, .int 0, .int 0, .ref a9, .ref nw, .ref a11, .ref a12, .int 0, .int 0, .int 0, .ref a16, .ref a17, .ref a18, .ref a19, .ref a20, .ref a21, .ref a22, .ref a23, .ref a24, .ref a25, .ref a26, .int 0, .ref a28, .ref a29, .ref a30, .ref a31, .ref a32, .ref a33, .int 0, .ref a35, .ref a36])), (nw, .inl (cI, 12507, .inl (fun _ => 0)))] s.heap := hP
  have hl := lv_entry ([.ref z, .int p1]) (n := 2) (Nat.le_of_ble_eq_true rfl)
  rw [lg_entry_eq]
  generalize (lg_sl ([.ref z, .int p1]) ++ List.replicate (2 - (lg_sl ([.ref z, .int p1])).length) Slot.unset).toArray = ls at hl ⊢
  have hl : lv_has ls 2 [(0, .ref z), (1, .int p1)] := hl
  refine lv_iload_n hx hb dX12_isRect_0 rfl (lv_at hl 1 rfl) ?_
  refine lv_i2l (v := p1.toInt64) hx hb dX12_isRect_1 rfl ?_
  refine lv_lconst (v := 0) hx hb dX12_isRect_2 (by decide) ?_
  refine lv_ldc2 (v := 99) hx hb hown (hts _ qw_793) dX12_isRect_3 ?_
  have hPc := hP.sub (ws' := []) [] rfl
  have hDc := hD.sub (ws' := []) [] (by decide) rfl
  have hKc := hK.sub (tys' := []) [] rfl
  have hFc := va_free (wc := []) hD hS hA [] rfl
  refine va_calli (va_runS (As := [.long p1.toInt64, .long 0, .long 99]) (rest := []) ⟨hx, hb, hml, hown, hts⟩ (c_X12_in l dC dI (p1.toInt64) (0) (99) s.heap.size) (va_cwS 3 hts (kz_gS qw_624 qw_625 qw_5 qw_626) rfl rfl rfl (by decide +kernel) ⟨Nat.le_of_ble_eq_true rfl, Nat.le_of_ble_eq_true rfl⟩) (kz_preS hPc hKc hDc) rfl rfl hl.1 rfl (lv_room (Nat.le_of_ble_eq_true rfl)) dX12_isRect_6 ⟨Nat.le_of_ble_eq_true rfl, Nat.le_of_ble_eq_true rfl⟩) hS (fun q _ h => hFc q h) hFc (fun r_1 u_2 t H1 locs ht hvm hw hB hz1 hk1 hS => ?_)
  try dsimp only at hw
  have hP1 : va_P (dC, dI) vwCl [] H1 := kz_P0
  have hD1 : va_D (va_A [] s.heap.size) [] := kz_D0
  have hK1 : va_K (dC, dI) vwCl [] s := hK.sub [] rfl
  obtain ⟨hP, hD⟩ := va_join (wr := [(z, .inr (12, [.ref tm, .int 0, .int 0, .int 0, .int 0, .int 0, .int 0, .int 0, .int 0, .ref a9, .ref nw, .ref a11, .ref a12, .int 0, .int 0, .int 0, .ref a16, .ref a17, .ref a18, .ref a19, .ref a20, .ref a21, .ref a22, .ref a23, .ref a24, .ref a25, .ref a26, .int 0, .ref a28, .ref a29, .ref a30, .ref a31, .ref a32, .ref a33, .int 0, .ref a35, .ref a36])), (nw, .inl (cI, 12507, .inl (fun _ => 0)))]) (w1 := []) hP hD [] [0, 1] rfl rfl (by decide) (by decide) hk1 hFc hP1 hD1
  have hK := (hK.sub (tys' := [(cI, .int)]) [0] rfl).app hK1
  generalize H1 = H at hP hS ⊢
  have hP : va_P (dC, dI) vwCl [(z, .inr (12, [.ref tm, .int 0, .int 0, .int 0, .int 0, .int 0, .int 0, .int 0, .int 0, .ref a9, .ref nw, .ref a11, .ref a12, .int 0, .int 0, .int 0, .ref a16, .ref a17, .ref a18, .ref a19, .ref a20, .ref a21, .ref a22, .ref a23, .ref a24, .ref a25, .ref a26, .int 0, .ref a28, .ref a29, .ref a30, .ref a31, .ref a32, .ref a33, .int 0, .ref a35, .ref a36])), (nw, .inl (cI, 12507, .inl (fun _ => 0)))] H := hP
  have hD : va_D A [(z, .inr (12, [.ref tm, .int 0, .int 0, .int 0, .int 0, .int 0, .int 0, .int 0, .int 0, .ref a9, .ref nw, .ref a11, .ref a12, .int 0, .int 0, .int 0, .ref a16, .ref a17, .ref a18, .ref a19, .ref a20, .ref a21, .ref a22, .ref a23, .ref a24, .ref a25, .ref a26, .int 0, .ref a28, .ref a29, .ref a30, .ref a31, .ref a32, .ref a33, .int 0, .ref a35, .ref a36])), (nw, .inl (cI, 12507, .inl (fun _ => 0)))] := hD
  have hK : va_K (dC, dI) vwCl [(cI, .int)] s := hK
  have hw3 := hw
  refine lv_if_eq (tgt := 30) hx hb dX12_isRect_9 (by decide) (fun c_4 => ?_) (fun c_4 => ?_)
  · refine lv_iconst (v := 0) hx hb dX12_isRect_30 (by decide) ?_
    exact W.zret (v := 0) hx hb hr rfl (fun t ht hW => ⟨⟨0, (), rfl, rfl, trivial⟩, hS.F ht⟩) hS.2.2 dX12_isRect_31
  · refine lv_aload_n hx hb dX12_isRect_12 rfl (lv_at hl 0 rfl) ?_
    refine va_get (D := (dC, dI)) (ci := 12) (v := .ref nw) (C := RX12) (T := TX12) (N := 37) hx hb hts inlX12 hown hK hP 0 rfl rfl 10 (by decide) (hts _ qw_159) (fun _ h9 => h9) rfl dX12_isRect_13 ?_
    refine lv_iload_n hx hb dX12_isRect_16 rfl (lv_at hl 1 rfl) ?_
    refine lv_iconst (v := 0) hx hb dX12_isRect_17 (by decide) ?_
    have hPc := hP.sub (ws' := []) [] rfl
    have hDc := hD.sub (ws' := []) [] (by decide) rfl
    have hKc := hK.sub (tys' := []) [] rfl
    have hFc := va_free (wc := []) hD hS hA [] rfl
    refine va_calli (va_runS (As := [.int p1, .int 0]) (rest := [.ref nw]) ⟨hx, hb, hml, hown, hts⟩ (c_X12_r l dC dI (p1) (0) H.size) (va_cwS 2 hts (kz_gS qw_663 qw_664 qw_5 qw_665) rfl rfl rfl (by decide +kernel) ⟨Nat.le_of_ble_eq_true rfl, Nat.le_of_ble_eq_true rfl⟩) (kz_preS hPc hKc hDc) rfl rfl hl.1 rfl (lv_room (Nat.le_of_ble_eq_true rfl)) dX12_isRect_18 ⟨Nat.le_of_ble_eq_true rfl, Nat.le_of_ble_eq_true rfl⟩) hS (fun q _ h => hFc q h) hFc (fun r_5 u_6 t H1 locs ht hvm hw hB hz1 hk1 hS => ?_)
    try dsimp only at hw
    have hP1 : va_P (dC, dI) vwCl [] H1 := kz_P0
    have hD1 : va_D (va_A [] H.size) [] := kz_D0
    have hK1 : va_K (dC, dI) vwCl [] s := hK.sub [] rfl
    obtain ⟨hP, hD⟩ := va_join (wr := [(z, .inr (12, [.ref tm, .int 0, .int 0, .int 0, .int 0, .int 0, .int 0, .int 0, .int 0, .ref a9, .ref nw, .ref a11, .ref a12, .int 0, .int 0, .int 0, .ref a16, .ref a17, .ref a18, .ref a19, .ref a20, .ref a21, .ref a22, .ref a23, .ref a24, .ref a25, .ref a26, .int 0, .ref a28, .ref a29, .ref a30, .ref a31, .ref a32, .ref a33, .int 0, .ref a35, .ref a36])), (nw, .inl (cI, 12507, .inl (fun _ => 0)))]) (w1 := []) hP hD [] [0, 1] rfl rfl (by decide) (by decide) hk1 hFc hP1 hD1
    have hK := (hK.sub (tys' := [(cI, .int)]) [0] rfl).app hK1
    generalize H1 = H at hP hS ⊢
    have hP : va_P (dC, dI) vwCl [(z, .inr (12, [.ref tm, .int 0, .int 0, .int 0, .int 0, .int 0, .int 0, .int 0, .int 0, .ref a9, .ref nw, .ref a11, .ref a12, .int 0, .int 0, .int 0, .ref a16, .ref a17, .ref a18, .ref a19, .ref a20, .ref a21, .ref a22, .ref a23, .ref a24, .ref a25, .ref a26, .int 0, .ref a28, .ref a29, .ref a30, .ref a31, .ref a32, .ref a33, .int 0, .ref a35, .ref a36])), (nw, .inl (cI, 12507, .inl (fun _ => 0)))] H := hP
    have hD : va_D A [(z, .inr (12, [.ref tm, .int 0, .int 0, .int 0, .int 0, .int 0, .int 0, .int 0, .int 0, .ref a9, .ref nw, .ref a11, .ref a12, .int 0, .int 0, .int 0, .ref a16, .ref a17, .ref a18, .ref a19, .ref a20, .ref a21, .ref a22, .ref a23, .ref a24, .ref a25, .ref a26, .int 0, .ref a28, .ref a29, .ref a30, .ref a31, .ref a32, .ref a33, .int 0, .ref a35, .ref a36])), (nw, .inl (cI, 12507, .inl (fun _ => 0)))] := hD
    have hK : va_K (dC, dI) vwCl [(cI, .int)] s := hK
    have hw7 := hw
    refine va_iald hx hb hK hP 1 0 rfl rfl (i := r_5) (kz_rect hw3 c_4 hw7) dX12_isRect_21 ?_
    refine kz_topi (y := 0) rfl ?_
    refine lv_iconst (v := 1) hx hb dX12_isRect_22 (by decide) ?_
    refine lv_icmp_ne (tgt := 30) hx hb dX12_isRect_23 (by decide) (fun _ => ?_) (fun c9 => absurd c9 (by decide))
    refine lv_iconst (v := 0) hx hb dX12_isRect_30 (by decide) ?_
    exact W.zret (v := 0) hx hb hr rfl (fun t ht hW => ⟨⟨0, (), rfl, rfl, trivial⟩, hS.F ht⟩) hS.2.2 dX12_isRect_31
set_option maxHeartbeats 4000000 in
set_option maxRecDepth 100000 in
theorem c_X12_remove (l : Launch) (dC : Nat → ClassId) (dI : Nat → Nat → Nat) (z : Nat) (tm : Nat) (a9 : Nat) (nw : Nat) (a11 : Nat) (a12 : Nat) (a16 : Nat) (a17 : Nat) (a18 : Nat) (a19 : Nat) (a20 : Nat) (a21 : Nat) (a22 : Nat) (a23 : Nat) (a24 : Nat) (a25 : Nat) (a26 : Nat) (a28 : Nat) (a29 : Nat) (a30 : Nat) (a31 : Nat) (a32 : Nat) (a33 : Nat) (a35 : Nat) (a36 : Nat) (cI : ClassId) (p1 : Int32) (sz : Nat) : Met l yX12_remove (Cond.code yX12_remove cX12_remove 2 (some .int) :: wsU) ({ frames := 2, cells := 0, slots := 0, locals := 46 }) (va_Pc [.ref z, .int p1] (kz_B (dC, dI) sz [(z, .inr (12, [.ref tm, .int 0, .int 0, .int 0, .int 0, .int 0, .int 0, .int 0, .int 0, .ref a9, .ref nw, .ref a11, .ref a12, .int 0, .int 0, .int 0, .ref a16, .ref a17, .ref a18, .ref a19, .ref a20, .ref a21, .ref a22, .ref a23, .ref a24, .ref a25, .ref a26, .int 0, .ref a28, .ref a29, .ref a30, .ref a31, .ref a32, .ref a33, .int 0, .ref a35, .ref a36])), (nw, .inl (cI, 12507, .inl (fun _ => 0)))] [(cI, .int)])) (va_Qi (fun (r : Int32) (_ : Unit) => r = (-1)) (fun _ _ => True) (va_A [(z, .inr (12, [.ref tm, .int 0, .int 0, .int 0, .int 0, .int 0, .int 0, .int 0, .int 0, .ref a9, .ref nw, .ref a11, .ref a12, .int 0, .int 0, .int 0, .ref a16, .ref a17, .ref a18, .ref a19, .ref a20, .ref a21, .ref a22, .ref a23, .ref a24, .ref a25, .ref a26, .int 0, .ref a28, .ref a29, .ref a30, .ref a31, .ref a32, .ref a33, .int 0, .ref a35, .ref a36])), (nw, .inl (cI, 12507, .inl (fun _ => 0)))] sz)) 0 0 (va_A [(z, .inr (12, [.ref tm, .int 0, .int 0, .int 0, .int 0, .int 0, .int 0, .int 0, .int 0, .ref a9, .ref nw, .ref a11, .ref a12, .int 0, .int 0, .int 0, .ref a16, .ref a17, .ref a18, .ref a19, .ref a20, .ref a21, .ref a22, .ref a23, .ref a24, .ref a25, .ref a26, .int 0, .ref a28, .ref a29, .ref a30, .ref a31, .ref a32, .ref a33, .int 0, .ref a35, .ref a36])), (nw, .inl (cI, 12507, .inl (fun _ => 0)))] sz) := by
  refine Met.ofW (cc := cX12_remove) (maxL := 2) (ret := (some .int)) (by decide) rfl ?_
  intro p e s m args below meth c s₁ B hml hv
  obtain ⟨rfl, hsz, hP, hK, hD0⟩ := hv
  have hx := B.exec
  have hb := B.bytes
  have hr := B.returns
  have hts := atoms_spec (ws := (Cond.code yX12_remove cX12_remove 2 (some .int) :: wsU)) B.pre
  have hts : ∀ w ∈ wsU, w.before _ s = true := fun w h => hts w (List.mem_cons_of_mem _ h)
  have hown : s.vm.findClass RX12 = some m.cls := findClass_of_methodNamed B.named
  have hlocks := B.notSynchronized
  subst hsz
  have hD := hD0.self (sz := s.heap.size)
  generalize hAe : va_A [(z, .inr (12, [.ref tm, .int 0, .int 0, .int 0, .int 0, .int 0, .int 0, .int 0, .int 0, .ref a9, .ref nw, .ref a11, .ref a12, .int 0, .int 0, .int 0, .ref a16, .ref a17, .ref a18, .ref a19, .ref a20, .ref a21, .ref a22, .ref a23, .ref a24, .ref a25, .ref a26, .int 0, .ref a28, .ref a29, .ref a30, .ref a31, .ref a32, .ref a33, .int 0, .ref a35, .ref a36])), (nw, .inl (cI, 12507, .inl (fun _ => 0)))] s.heap.size = A at hD ⊢
  have hA : ∀ q : Nat, s.heap.size ≤ q → A q := fun q h => by rw [← hAe]; exact Or.inr h
  have hS : va_S A s.heap s.heap [] := va_S.rf
  have hP : va_P (dC, dI) vwCl [(z, .inr (12, [.ref tm, .int 0, .int 0, .int 0, .int 0, .int 0, .int 0, .int 0, .int 0, .ref a9, .ref nw, .ref a11, .ref a12, .int 0, .int 0, .int 0, .ref a16, .ref a17, .ref a18, .ref a19, .ref a20, .ref a21, .ref a22, .ref a23, .ref a24, .ref a25, .ref a26, .int 0, .ref a28, .ref a29, .ref a30, .ref a31, .ref a32, .ref a33, .int 0, .ref a35, .ref a36])), (nw, .inl (cI, 12507, .inl (fun _ => 0)))] s.heap := hP
  have hl := lv_entry ([.ref z, .int p1]) (n := 2) (Nat.le_of_ble_eq_true rfl)
  rw [lg_entry_eq]
  generalize (lg_sl ([.ref z, .int p1]) ++ List.replicate (2 - (lg_sl ([.ref z, .int p1])).length) Slot.unset).toArray = ls at hl ⊢
  have hl : lv_has ls 2 [(0, .ref z), (1, .int p1)] := hl
  refine lv_aload_n hx hb dX12_remove_0 rfl (lv_at hl 0 rfl) ?_
  refine lv_iload_n hx hb dX12_remove_1 rfl (lv_at hl 1 rfl) ?_
  have hPc := hP.sub (ws' := [(z, .inr (12, [.ref tm, .int 0, .int 0, .int 0, .int 0, .int 0, .int 0, .int 0, .int 0, .ref a9, .ref nw, .ref a11, .ref a12, .int 0, .int 0, .int 0, .ref a16, .ref a17, .ref a18, .ref a19, .ref a20, .ref a21, .ref a22, .ref a23, .ref a24, .ref a25, .ref a26, .int 0, .ref a28, .ref a29, .ref a30, .ref a31, .ref a32, .ref a33, .int 0, .ref a35, .ref a36])), (nw, .inl (cI, 12507, .inl (fun _ => 0)))]) [0, 1] rfl
  have hDc := hD.sub (ws' := [(z, .inr (12, [.ref tm, .int 0, .int 0, .int 0, .int 0, .int 0, .int 0, .int 0, .int 0, .ref a9, .ref nw, .ref a11, .ref a12, .int 0, .int 0, .int 0, .ref a16, .ref a17, .ref a18, .ref a19, .ref a20, .ref a21, .ref a22, .ref a23, .ref a24, .ref a25, .ref a26, .int 0, .ref a28, .ref a29, .ref a30, .ref a31, .ref a32, .ref a33, .int 0, .ref a35, .ref a36])), (nw, .inl (cI, 12507, .inl (fun _ => 0)))]) [0, 1] (by decide) rfl
  have hKc := hK.sub (tys' := [(cI, .int)]) [0] rfl
  have hFc := va_free (wc := [(z, .inr (12, [.ref tm, .int 0, .int 0, .int 0, .int 0, .int 0, .int 0, .int 0, .int 0, .ref a9, .ref nw, .ref a11, .ref a12, .int 0, .int 0, .int 0, .ref a16, .ref a17, .ref a18, .ref a19, .ref a20, .ref a21, .ref a22, .ref a23, .ref a24, .ref a25, .ref a26, .int 0, .ref a28, .ref a29, .ref a30, .ref a31, .ref a32, .ref a33, .int 0, .ref a35, .ref a36])), (nw, .inl (cI, 12507, .inl (fun _ => 0)))]) hD hS hA [0, 1] rfl
  refine va_calli (va_runV (As := [.int p1]) (rest := []) ⟨hx, hb, hml, hown, hts⟩ (c_X12_isRect l dC dI (z) (tm) (a9) (nw) (a11) (a12) (a16) (a17) (a18) (a19) (a20) (a21) (a22) (a23) (a24) (a25) (a26) (a28) (a29) (a30) (a31) (a32) (a33) (a35) (a36) (cI) (p1) s.heap.size) (cwV 1 hts (kz_gV qw_798 qw_799 qw_800 qw_5 qw_801) rfl rfl rfl (by decide +kernel) ⟨Nat.le_of_ble_eq_true rfl, Nat.le_of_ble_eq_true rfl⟩) (⟨(kz_preS hPc hKc hDc).1, (va_recv hKc hPc (ci := 12) (q0 := 0) rfl rfl), (kz_preS hPc hKc hDc).2⟩) rfl rfl hl.1 rfl (lv_room (Nat.le_of_ble_eq_true rfl)) dX12_remove_2 ⟨Nat.le_of_ble_eq_true rfl, Nat.le_of_ble_eq_true rfl⟩) hS (fun q _ h => hFc q h) hFc (fun r_1 u_2 t H1 locs ht hvm hw hB hz1 hk1 hS => ?_)
  try dsimp only at hw
  have hP1 : va_P (dC, dI) vwCl [] H1 := kz_P0
  have hD1 : va_D (va_A [(z, .inr (12, [.ref tm, .int 0, .int 0, .int 0, .int 0, .int 0, .int 0, .int 0, .int 0, .ref a9, .ref nw, .ref a11, .ref a12, .int 0, .int 0, .int 0, .ref a16, .ref a17, .ref a18, .ref a19, .ref a20, .ref a21, .ref a22, .ref a23, .ref a24, .ref a25, .ref a26, .int 0, .ref a28, .ref a29, .ref a30, .ref a31, .ref a32, .ref a33, .int 0, .ref a35, .ref a36])), (nw, .inl (cI, 12507, .inl (fun _ => 0)))] s.heap.size) [] := kz_D0
  have hK1 : va_K (dC, dI) vwCl [] s := hK.sub [] rfl
  obtain ⟨hP, hD⟩ := va_join (wr := []) (w1 := []) hP hD [0, 1] [] rfl rfl (by decide) (by decide) hk1 hFc hP1 hD1
  have hK := (hK.sub (tys' := []) [] rfl).app hK1
  generalize H1 = H at hP hS ⊢
  have hP : va_P (dC, dI) vwCl [] H := hP
  have hD : va_D A [] := hD
  have hK : va_K (dC, dI) vwCl [] s := hK
  obtain rfl : r_1 = 0 := hw
  refine lv_if_ne (tgt := 10) hx hb dX12_remove_5 (by decide) (fun c9 => absurd c9 (by decide)) (fun _ => ?_)
  refine lv_iconst (v := (-1)) hx hb dX12_remove_8 (by decide) ?_
  exact W.iret (v := (-1)) hx hb hr (fun t ht hW => ⟨⟨(-1), (), rfl, rfl, trivial⟩, hS.F ht⟩) hS.2.2 dX12_remove_9
set_option maxHeartbeats 4000000 in
set_option maxRecDepth 100000 in
theorem c_X12_shift (l : Launch) (dC : Nat → ClassId) (dI : Nat → Nat → Nat) (z : Nat) (tm : Nat) (a9 : Nat) (nw : Nat) (a11 : Nat) (a12 : Nat) (a16 : Nat) (a17 : Nat) (a18 : Nat) (a19 : Nat) (a20 : Nat) (a21 : Nat) (a22 : Nat) (a23 : Nat) (a24 : Nat) (a25 : Nat) (a26 : Nat) (a28 : Nat) (a29 : Nat) (a30 : Nat) (a31 : Nat) (a32 : Nat) (a33 : Nat) (a35 : Nat) (a36 : Nat) (cI : ClassId) (p1 : Int32) (p2 : Int32) (p3 : Int32) (sz : Nat) : Met l yX12_shift (Cond.code yX12_shift cX12_shift 7 (some .int) :: wsU) ({ frames := 2, cells := 0, slots := 0, locals := 46 }) (va_Pc [.ref z, .int p1, .int p2, .int p3] (kz_B (dC, dI) sz [(z, .inr (12, [.ref tm, .int 0, .int 0, .int 0, .int 0, .int 0, .int 0, .int 0, .int 0, .ref a9, .ref nw, .ref a11, .ref a12, .int 0, .int 0, .int 0, .ref a16, .ref a17, .ref a18, .ref a19, .ref a20, .ref a21, .ref a22, .ref a23, .ref a24, .ref a25, .ref a26, .int 0, .ref a28, .ref a29, .ref a30, .ref a31, .ref a32, .ref a33, .int 0, .ref a35, .ref a36])), (nw, .inl (cI, 12507, .inl (fun _ => 0)))] [(cI, .int)])) (va_Qi (fun (r : Int32) (_ : Unit) => r = (-1)) (fun _ _ => True) (va_A [(z, .inr (12, [.ref tm, .int 0, .int 0, .int 0, .int 0, .int 0, .int 0, .int 0, .int 0, .ref a9, .ref nw, .ref a11, .ref a12, .int 0, .int 0, .int 0, .ref a16, .ref a17, .ref a18, .ref a19, .ref a20, .ref a21, .ref a22, .ref a23, .ref a24, .ref a25, .ref a26, .int 0, .ref a28, .ref a29, .ref a30, .ref a31, .ref a32, .ref a33, .int 0, .ref a35, .ref a36])), (nw, .inl (cI, 12507, .inl (fun _ => 0)))] sz)) 0 0 (va_A [(z, .inr (12, [.ref tm, .int 0, .int 0, .int 0, .int 0, .int 0, .int 0, .int 0, .int 0, .ref a9, .ref nw, .ref a11, .ref a12, .int 0, .int 0, .int 0, .ref a16, .ref a17, .ref a18, .ref a19, .ref a20, .ref a21, .ref a22, .ref a23, .ref a24, .ref a25, .ref a26, .int 0, .ref a28, .ref a29, .ref a30, .ref a31, .ref a32, .ref a33, .int 0, .ref a35, .ref a36])), (nw, .inl (cI, 12507, .inl (fun _ => 0)))] sz) := by
  refine Met.ofW (cc := cX12_shift) (maxL := 7) (ret := (some .int)) (by decide) rfl ?_
  intro p e s m args below meth c s₁ B hml hv
  obtain ⟨rfl, hsz, hP, hK, hD0⟩ := hv
  have hx := B.exec
  have hb := B.bytes
  have hr := B.returns
  have hts := atoms_spec (ws := (Cond.code yX12_shift cX12_shift 7 (some .int) :: wsU)) B.pre
  have hts : ∀ w ∈ wsU, w.before _ s = true := fun w h => hts w (List.mem_cons_of_mem _ h)
  have hown : s.vm.findClass RX12 = some m.cls := findClass_of_methodNamed B.named
  have hlocks := B.notSynchronized
  subst hsz
  have hD := hD0.self (sz := s.heap.size)
  generalize hAe : va_A [(z, .inr (12, [.ref tm, .int 0, .int 0, .int 0, .int 0, .int 0, .int 0, .int 0, .int 0, .ref a9, .ref nw, .ref a11, .ref a12, .int 0, .int 0, .int 0, .ref a16, .ref a17, .ref a18, .ref a19, .ref a20, .ref a21, .ref a22, .ref a23, .ref a24, .ref a25, .ref a26, .int 0, .ref a28, .ref a29, .ref a30, .ref a31, .ref a32, .ref a33, .int 0, .ref a35, .ref a36])), (nw, .inl (cI, 12507, .inl (fun _ => 0)))] s.heap.size = A at hD ⊢
  have hA : ∀ q : Nat, s.heap.size ≤ q → A q := fun q h => by rw [← hAe]; exact Or.inr h
  have hS : va_S A s.heap s.heap [] := va_S.rf
  have hP : va_P (dC, dI) vwCl [(z, .inr (12, [.ref tm, .int 0, .int 0, .int 0, .int 0, .int 0, .int 0, .int 0, .int 0, .ref a9, .ref nw, .ref a11, .ref a12, .int 0, .int 0, .int 0, .ref a16, .ref a17, .ref a18, .ref a19, .ref a20, .ref a21, .ref a22, .ref a23, .ref a24, .ref a25, .ref a26, .int 0, .ref a28, .ref a29, .ref a30, .ref a31, .ref a32, .ref a33, .int 0, .ref a35, .ref a36])), (nw, .inl (cI, 12507, .inl (fun _ => 0)))] s.heap := hP
  have hl := lv_entry ([.ref z, .int p1, .int p2, .int p3]) (n := 7) (Nat.le_of_ble_eq_true rfl)
  rw [lg_entry_eq]
  generalize (lg_sl ([.ref z, .int p1, .int p2, .int p3]) ++ List.replicate (7 - (lg_sl ([.ref z, .int p1, .int p2, .int p3])).length) Slot.unset).toArray = ls at hl ⊢
  have hl : lv_has ls 7 [(0, .ref z), (1, .int p1), (2, .int p2), (3, .int p3)] := hl
  refine lv_aload_n hx hb dX12_shift_0 rfl (lv_at hl 0 rfl) ?_
  refine lv_iload_n hx hb dX12_shift_1 rfl (lv_at hl 1 rfl) ?_
  have hPc := hP.sub (ws' := [(z, .inr (12, [.ref tm, .int 0, .int 0, .int 0, .int 0, .int 0, .int 0, .int 0, .int 0, .ref a9, .ref nw, .ref a11, .ref a12, .int 0, .int 0, .int 0, .ref a16, .ref a17, .ref a18, .ref a19, .ref a20, .ref a21, .ref a22, .ref a23, .ref a24, .ref a25, .ref a26, .int 0, .ref a28, .ref a29, .ref a30, .ref a31, .ref a32, .ref a33, .int 0, .ref a35, .ref a36])), (nw, .inl (cI, 12507, .inl (fun _ => 0)))]) [0, 1] rfl
  have hDc := hD.sub (ws' := [(z, .inr (12, [.ref tm, .int 0, .int 0, .int 0, .int 0, .int 0, .int 0, .int 0, .int 0, .ref a9, .ref nw, .ref a11, .ref a12, .int 0, .int 0, .int 0, .ref a16, .ref a17, .ref a18, .ref a19, .ref a20, .ref a21, .ref a22, .ref a23, .ref a24, .ref a25, .ref a26, .int 0, .ref a28, .ref a29, .ref a30, .ref a31, .ref a32, .ref a33, .int 0, .ref a35, .ref a36])), (nw, .inl (cI, 12507, .inl (fun _ => 0)))]) [0, 1] (by decide) rfl
  have hKc := hK.sub (tys' := [(cI, .int)]) [0] rfl
  have hFc := va_free (wc := [(z, .inr (12, [.ref tm, .int 0, .int 0, .int 0, .int 0, .int 0, .int 0, .int 0, .int 0, .ref a9, .ref nw, .ref a11, .ref a12, .int 0, .int 0, .int 0, .ref a16, .ref a17, .ref a18, .ref a19, .ref a20, .ref a21, .ref a22, .ref a23, .ref a24, .ref a25, .ref a26, .int 0, .ref a28, .ref a29, .ref a30, .ref a31, .ref a32, .ref a33, .int 0, .ref a35, .ref a36])), (nw, .inl (cI, 12507, .inl (fun _ => 0)))]) hD hS hA [0, 1] rfl
  refine va_calli (va_runV (As := [.int p1]) (rest := []) ⟨hx, hb, hml, hown, hts⟩ (c_X12_isRect l dC dI (z) (tm) (a9) (nw) (a11) (a12) (a16) (a17) (a18) (a19) (a20) (a21) (a22) (a23) (a24) (a25) (a26) (a28) (a29) (a30) (a31) (a32) (a33) (a35) (a36) (cI) (p1) s.heap.size) (cwV 1 hts (kz_gV qw_798 qw_799 qw_800 qw_5 qw_801) rfl rfl rfl (by decide +kernel) ⟨Nat.le_of_ble_eq_true rfl, Nat.le_of_ble_eq_true rfl⟩) (⟨(kz_preS hPc hKc hDc).1, (va_recv hKc hPc (ci := 12) (q0 := 0) rfl rfl), (kz_preS hPc hKc hDc).2⟩) rfl rfl hl.1 rfl (lv_room (Nat.le_of_ble_eq_true rfl)) dX12_shift_2 ⟨Nat.le_of_ble_eq_true rfl, Nat.le_of_ble_eq_true rfl⟩) hS (fun q _ h => hFc q h) hFc (fun r_1 u_2 t H1 locs ht hvm hw hB hz1 hk1 hS => ?_)
  try dsimp only at hw
  have hP1 : va_P (dC, dI) vwCl [] H1 := kz_P0
  have hD1 : va_D (va_A [(z, .inr (12, [.ref tm, .int 0, .int 0, .int 0, .int 0, .int 0, .int 0, .int 0, .int 0, .ref a9, .ref nw, .ref a11, .ref a12, .int 0, .int 0, .int 0, .ref a16, .ref a17, .ref a18, .ref a19, .ref a20, .ref a21, .ref a22, .ref a23, .ref a24, .ref a25, .ref a26, .int 0, .ref a28, .ref a29, .ref a30, .ref a31, .ref a32, .ref a33, .int 0, .ref a35, .ref a36])), (nw, .inl (cI, 12507, .inl (fun _ => 0)))] s.heap.size) [] := kz_D0
  have hK1 : va_K (dC, dI) vwCl [] s := hK.sub [] rfl
  obtain ⟨hP, hD⟩ := va_join (wr := []) (w1 := []) hP hD [0, 1] [] rfl rfl (by decide) (by decide) hk1 hFc hP1 hD1
  have hK := (hK.sub (tys' := []) [] rfl).app hK1
  generalize H1 = H at hP hS ⊢
  have hP : va_P (dC, dI) vwCl [] H := hP
  have hD : va_D A [] := hD
  have hK : va_K (dC, dI) vwCl [] s := hK
  obtain rfl : r_1 = 0 := hw
  refine lv_if_ne (tgt := 10) hx hb dX12_shift_5 (by decide) (fun c9 => absurd c9 (by decide)) (fun _ => ?_)
  refine lv_iconst (v := (-1)) hx hb dX12_shift_8 (by decide) ?_
  exact W.iret (v := (-1)) hx hb hr (fun t ht hW => ⟨⟨(-1), (), rfl, rfl, trivial⟩, hS.F ht⟩) hS.2.2 dX12_shift_9
set_option maxHeartbeats 4000000 in
set_option maxRecDepth 100000 in
theorem c_X12_rect (l : Launch) (dC : Nat → ClassId) (dI : Nat → Nat → Nat) (z : Nat) (tm : Nat) (a9 : Nat) (nw : Nat) (a11 : Nat) (a12 : Nat) (a16 : Nat) (a17 : Nat) (a18 : Nat) (a19 : Nat) (a20 : Nat) (a21 : Nat) (a22 : Nat) (a23 : Nat) (a24 : Nat) (a25 : Nat) (a26 : Nat) (a28 : Nat) (a29 : Nat) (a30 : Nat) (a31 : Nat) (a32 : Nat) (a33 : Nat) (a35 : Nat) (a36 : Nat) (cI : ClassId) (p1 : Int32) (p2 : Int32) (sz : Nat) : Met l yX12_rect (Cond.code yX12_rect cX12_rect 3 (some .int) :: wsU) ({ frames := 2, cells := 0, slots := 0, locals := 46 }) (va_Pc [.ref z, .int p1, .int p2] (kz_B (dC, dI) sz [(z, .inr (12, [.ref tm, .int 0, .int 0, .int 0, .int 0, .int 0, .int 0, .int 0, .int 0, .ref a9, .ref nw, .ref a11, .ref a12, .int 0, .int 0, .int 0, .ref a16, .ref a17, .ref a18, .ref a19, .ref a20, .ref a21, .ref a22, .ref a23, .ref a24, .ref a25, .ref a26, .int 0, .ref a28, .ref a29, .ref a30, .ref a31, .ref a32, .ref a33, .int 0, .ref a35, .ref a36])), (nw, .inl (cI, 12507, .inl (fun _ => 0)))] [(cI, .int)])) (va_Qi (fun (r : Int32) (_ : Unit) => r = (-2147483648)) (fun _ _ => True) (va_A [(z, .inr (12, [.ref tm, .int 0, .int 0, .int 0, .int 0, .int 0, .int 0, .int 0, .int 0, .ref a9, .ref nw, .ref a11, .ref a12, .int 0, .int 0, .int 0, .ref a16, .ref a17, .ref a18, .ref a19, .ref a20, .ref a21, .ref a22, .ref a23, .ref a24, .ref a25, .ref a26, .int 0, .ref a28, .ref a29, .ref a30, .ref a31, .ref a32, .ref a33, .int 0, .ref a35, .ref a36])), (nw, .inl (cI, 12507, .inl (fun _ => 0)))] sz)) 0 0 (va_A [(z, .inr (12, [.ref tm, .int 0, .int 0, .int 0, .int 0, .int 0, .int 0, .int 0, .int 0, .ref a9, .ref nw, .ref a11, .ref a12, .int 0, .int 0, .int 0, .ref a16, .ref a17, .ref a18, .ref a19, .ref a20, .ref a21, .ref a22, .ref a23, .ref a24, .ref a25, .ref a26, .int 0, .ref a28, .ref a29, .ref a30, .ref a31, .ref a32, .ref a33, .int 0, .ref a35, .ref a36])), (nw, .inl (cI, 12507, .inl (fun _ => 0)))] sz) := by
  refine Met.ofW (cc := cX12_rect) (maxL := 3) (ret := (some .int)) (by decide) rfl ?_
  intro p e s m args below meth c s₁ B hml hv
  obtain ⟨rfl, hsz, hP, hK, hD0⟩ := hv
  have hx := B.exec
  have hb := B.bytes
  have hr := B.returns
  have hts := atoms_spec (ws := (Cond.code yX12_rect cX12_rect 3 (some .int) :: wsU)) B.pre
  have hts : ∀ w ∈ wsU, w.before _ s = true := fun w h => hts w (List.mem_cons_of_mem _ h)
  have hown : s.vm.findClass RX12 = some m.cls := findClass_of_methodNamed B.named
  have hlocks := B.notSynchronized
  subst hsz
  have hD := hD0.self (sz := s.heap.size)
  generalize hAe : va_A [(z, .inr (12, [.ref tm, .int 0, .int 0, .int 0, .int 0, .int 0, .int 0, .int 0, .int 0, .ref a9, .ref nw, .ref a11, .ref a12, .int 0, .int 0, .int 0, .ref a16, .ref a17, .ref a18, .ref a19, .ref a20, .ref a21, .ref a22, .ref a23, .ref a24, .ref a25, .ref a26, .int 0, .ref a28, .ref a29, .ref a30, .ref a31, .ref a32, .ref a33, .int 0, .ref a35, .ref a36])), (nw, .inl (cI, 12507, .inl (fun _ => 0)))] s.heap.size = A at hD ⊢
  have hA : ∀ q : Nat, s.heap.size ≤ q → A q := fun q h => by rw [← hAe]; exact Or.inr h
  have hS : va_S A s.heap s.heap [] := va_S.rf
  have hP : va_P (dC, dI) vwCl [(z, .inr (12, [.ref tm, .int 0, .int 0, .int 0, .int 0, .int 0, .int 0, .int 0, .int 0, .ref a9, .ref nw, .ref a11, .ref a12, .int 0, .int 0, .int 0, .ref a16, .ref a17, .ref a18, .ref a19, .ref a20, .ref a21, .ref a22, .ref a23, .ref a24, .ref a25, .ref a26, .int 0, .ref a28, .ref a29, .ref a30, .ref a31, .ref a32, .ref a33, .int 0, .ref a35, .ref a36])), (nw, .inl (cI, 12507, .inl (fun _ => 0)))] s.heap := hP
  have hl := lv_entry ([.ref z, .int p1, .int p2]) (n := 3) (Nat.le_of_ble_eq_true rfl)
  rw [lg_entry_eq]
  generalize (lg_sl ([.ref z, .int p1, .int p2]) ++ List.replicate (3 - (lg_sl ([.ref z, .int p1, .int p2])).length) Slot.unset).toArray = ls at hl ⊢
  have hl : lv_has ls 3 [(0, .ref z), (1, .int p1), (2, .int p2)] := hl
  refine lv_aload_n hx hb dX12_rect_0 rfl (lv_at hl 0 rfl) ?_
  refine lv_iload_n hx hb dX12_rect_1 rfl (lv_at hl 1 rfl) ?_
  have hPc := hP.sub (ws' := [(z, .inr (12, [.ref tm, .int 0, .int 0, .int 0, .int 0, .int 0, .int 0, .int 0, .int 0, .ref a9, .ref nw, .ref a11, .ref a12, .int 0, .int 0, .int 0, .ref a16, .ref a17, .ref a18, .ref a19, .ref a20, .ref a21, .ref a22, .ref a23, .ref a24, .ref a25, .ref a26, .int 0, .ref a28, .ref a29, .ref a30, .ref a31, .ref a32, .ref a33, .int 0, .ref a35, .ref a36])), (nw, .inl (cI, 12507, .inl (fun _ => 0)))]) [0, 1] rfl
  have hDc := hD.sub (ws' := [(z, .inr (12, [.ref tm, .int 0, .int 0, .int 0, .int 0, .int 0, .int 0, .int 0, .int 0, .ref a9, .ref nw, .ref a11, .ref a12, .int 0, .int 0, .int 0, .ref a16, .ref a17, .ref a18, .ref a19, .ref a20, .ref a21, .ref a22, .ref a23, .ref a24, .ref a25, .ref a26, .int 0, .ref a28, .ref a29, .ref a30, .ref a31, .ref a32, .ref a33, .int 0, .ref a35, .ref a36])), (nw, .inl (cI, 12507, .inl (fun _ => 0)))]) [0, 1] (by decide) rfl
  have hKc := hK.sub (tys' := [(cI, .int)]) [0] rfl
  have hFc := va_free (wc := [(z, .inr (12, [.ref tm, .int 0, .int 0, .int 0, .int 0, .int 0, .int 0, .int 0, .int 0, .ref a9, .ref nw, .ref a11, .ref a12, .int 0, .int 0, .int 0, .ref a16, .ref a17, .ref a18, .ref a19, .ref a20, .ref a21, .ref a22, .ref a23, .ref a24, .ref a25, .ref a26, .int 0, .ref a28, .ref a29, .ref a30, .ref a31, .ref a32, .ref a33, .int 0, .ref a35, .ref a36])), (nw, .inl (cI, 12507, .inl (fun _ => 0)))]) hD hS hA [0, 1] rfl
  refine va_calli (va_runV (As := [.int p1]) (rest := []) ⟨hx, hb, hml, hown, hts⟩ (c_X12_isRect l dC dI (z) (tm) (a9) (nw) (a11) (a12) (a16) (a17) (a18) (a19) (a20) (a21) (a22) (a23) (a24) (a25) (a26) (a28) (a29) (a30) (a31) (a32) (a33) (a35) (a36) (cI) (p1) s.heap.size) (cwV 1 hts (kz_gV qw_798 qw_799 qw_800 qw_5 qw_801) rfl rfl rfl (by decide +kernel) ⟨Nat.le_of_ble_eq_true rfl, Nat.le_of_ble_eq_true rfl⟩) (⟨(kz_preS hPc hKc hDc).1, (va_recv hKc hPc (ci := 12) (q0 := 0) rfl rfl), (kz_preS hPc hKc hDc).2⟩) rfl rfl hl.1 rfl (lv_room (Nat.le_of_ble_eq_true rfl)) dX12_rect_2 ⟨Nat.le_of_ble_eq_true rfl, Nat.le_of_ble_eq_true rfl⟩) hS (fun q _ h => hFc q h) hFc (fun r_1 u_2 t H1 locs ht hvm hw hB hz1 hk1 hS => ?_)
  try dsimp only at hw
  have hP1 : va_P (dC, dI) vwCl [] H1 := kz_P0
  have hD1 : va_D (va_A [(z, .inr (12, [.ref tm, .int 0, .int 0, .int 0, .int 0, .int 0, .int 0, .int 0, .int 0, .ref a9, .ref nw, .ref a11, .ref a12, .int 0, .int 0, .int 0, .ref a16, .ref a17, .ref a18, .ref a19, .ref a20, .ref a21, .ref a22, .ref a23, .ref a24, .ref a25, .ref a26, .int 0, .ref a28, .ref a29, .ref a30, .ref a31, .ref a32, .ref a33, .int 0, .ref a35, .ref a36])), (nw, .inl (cI, 12507, .inl (fun _ => 0)))] s.heap.size) [] := kz_D0
  have hK1 : va_K (dC, dI) vwCl [] s := hK.sub [] rfl
  obtain ⟨hP, hD⟩ := va_join (wr := []) (w1 := []) hP hD [0, 1] [] rfl rfl (by decide) (by decide) hk1 hFc hP1 hD1
  have hK := (hK.sub (tys' := []) [] rfl).app hK1
  generalize H1 = H at hP hS ⊢
  have hP : va_P (dC, dI) vwCl [] H := hP
  have hD : va_D A [] := hD
  have hK : va_K (dC, dI) vwCl [] s := hK
  obtain rfl : r_1 = 0 := hw
  refine lv_if_eq (tgt := 20) hx hb dX12_rect_5 (by decide) (fun _ => ?_) (fun c9 => absurd (by decide) c9)
  refine lv_ldcw (v := (-2147483648)) hx hb hown (hts _ qw_1063) dX12_rect_20 ?_
  exact W.iret (v := (-2147483648)) hx hb hr (fun t ht hW => ⟨⟨(-2147483648), (), rfl, rfl, trivial⟩, hS.F ht⟩) hS.2.2 dX12_rect_23
set_option maxHeartbeats 4000000 in
set_option maxRecDepth 100000 in
theorem c_X12_isKept (l : Launch) (dC : Nat → ClassId) (dI : Nat → Nat → Nat) (z : Nat) (tm : Nat) (a9 : Nat) (nw : Nat) (a11 : Nat) (a12 : Nat) (a16 : Nat) (a17 : Nat) (a18 : Nat) (a19 : Nat) (a20 : Nat) (a21 : Nat) (a22 : Nat) (a23 : Nat) (a24 : Nat) (a25 : Nat) (a26 : Nat) (a28 : Nat) (a29 : Nat) (a30 : Nat) (a31 : Nat) (a32 : Nat) (a33 : Nat) (a35 : Nat) (a36 : Nat) (p1 : Int32) (sz : Nat) : Met l yX12_isKept (Cond.code yX12_isKept cX12_isKept 2 (some .boolean) :: wsU) ({ frames := 0, cells := 0, slots := 0, locals := 0 }) (va_Pc [.ref z, .int p1] (kz_B (dC, dI) sz [(z, .inr (12, [.ref tm, .int 0, .int 0, .int 0, .int 0, .int 0, .int 0, .int 0, .int 0, .ref a9, .ref nw, .ref a11, .ref a12, .int 0, .int 0, .int 0, .ref a16, .ref a17, .ref a18, .ref a19, .ref a20, .ref a21, .ref a22, .ref a23, .ref a24, .ref a25, .ref a26, .int 0, .ref a28, .ref a29, .ref a30, .ref a31, .ref a32, .ref a33, .int 0, .ref a35, .ref a36]))] [])) (va_Qi (fun (r : Int32) (_ : Unit) => r = 0) (fun _ _ => True) (va_A [(z, .inr (12, [.ref tm, .int 0, .int 0, .int 0, .int 0, .int 0, .int 0, .int 0, .int 0, .ref a9, .ref nw, .ref a11, .ref a12, .int 0, .int 0, .int 0, .ref a16, .ref a17, .ref a18, .ref a19, .ref a20, .ref a21, .ref a22, .ref a23, .ref a24, .ref a25, .ref a26, .int 0, .ref a28, .ref a29, .ref a30, .ref a31, .ref a32, .ref a33, .int 0, .ref a35, .ref a36]))] sz)) 0 0 (va_A [(z, .inr (12, [.ref tm, .int 0, .int 0, .int 0, .int 0, .int 0, .int 0, .int 0, .int 0, .ref a9, .ref nw, .ref a11, .ref a12, .int 0, .int 0, .int 0, .ref a16, .ref a17, .ref a18, .ref a19, .ref a20, .ref a21, .ref a22, .ref a23, .ref a24, .ref a25, .ref a26, .int 0, .ref a28, .ref a29, .ref a30, .ref a31, .ref a32, .ref a33, .int 0, .ref a35, .ref a36]))] sz) := by
  refine Met.ofW (cc := cX12_isKept) (maxL := 2) (ret := (some .boolean)) (by decide) rfl ?_
  intro p e s m args below meth c s₁ B hml hv
  obtain ⟨rfl, hsz, hP, hK, hD0⟩ := hv
  have hx := B.exec
  have hb := B.bytes
  have hr := B.returns
  have hts := atoms_spec (ws := (Cond.code yX12_isKept cX12_isKept 2 (some .boolean) :: wsU)) B.pre
  have hts : ∀ w ∈ wsU, w.before _ s = true := fun w h => hts w (List.mem_cons_of_mem _ h)
  have hown : s.vm.findClass RX12 = some m.cls := findClass_of_methodNamed B.named
  have hlocks := B.notSynchronized
  subst hsz
  have hD := hD0.self (sz := s.heap.size)
  generalize hAe : va_A [(z, .inr (12, [.ref tm, .int 0, .int 0, .int 0, .int 0, .int 0, .int 0, .int 0, .int 0, .ref a9, .ref nw, .ref a11, .ref a12, .int 0, .int 0, .int 0, .ref a16, .ref a17, .ref a18, .ref a19, .ref a20, .ref a21, .ref a22, .ref a23, .ref a24, .ref a25, .ref a26, .int 0, .ref a28, .ref a29, .ref a30, .ref a31, .ref a32, .ref a33, .int 0, .ref a35, .ref a36]))] s.heap.size = A at hD ⊢
  have hA : ∀ q : Nat, s.heap.size ≤ q → A q := fun q h => by rw [← hAe]; exact Or.inr h
  have hS : va_S A s.heap s.heap [] := va_S.rf
  have hP : va_P (dC, dI) vwCl [(z, .inr (12, [.ref tm, .int 0, .int 0, .int 0, .int 0, .int 0, .int 0, .int 0, .int 0, .ref a9, .ref nw, .ref a11, .ref a12, .int 0, .int 0, .int 0, .ref a16, .ref a17, .ref a18, .ref a19, .ref a20, .ref a21, .ref a22, .ref a23, .ref a24, .ref a25, .ref a26, .int 0, .ref a28, .ref a29, .ref a30, .ref a31, .ref a32, .ref a33, .int 0, .ref a35, .ref a36]))] s.heap := hP
  have hl := lv_entry ([.ref z, .int p1]) (n := 2) (Nat.le_of_ble_eq_true rfl)
  rw [lg_entry_eq]
  generalize (lg_sl ([.ref z, .int p1]) ++ List.replicate (2 - (lg_sl ([.ref z, .int p1])).length) Slot.unset).toArray = ls at hl ⊢
  have hl : lv_has ls 2 [(0, .ref z), (1, .int p1)] := hl
  refine lv_aload_n hx hb dX12_isKept_0 rfl (lv_at hl 0 rfl) ?_
  refine va_get (D := (dC, dI)) (ci := 12) (v := .int 0) (C := RX12) (T := TX12) (N := 37) hx hb hts inlX12 hown hK hP 0 rfl rfl 15 (by decide) (hts _ qw_1036) (fun _ h9 => h9) rfl dX12_isKept_1 ?_
  refine lv_iload_n hx hb dX12_isKept_4 rfl (lv_at hl 1 rfl) ?_
  refine lv_ishr hx hb dX12_isKept_5 ?_
  refine kz_topi (y := 0) (kz_shr0 _) ?_
  refine lv_iconst (v := 1) hx hb dX12_isKept_6 (by decide) ?_
  refine lv_iand hx hb dX12_isKept_7 ?_
  refine kz_topi (y := 0) (by decide) ?_
  refine lv_iconst (v := 1) hx hb dX12_isKept_8 (by decide) ?_
  refine lv_icmp_ne (tgt := 16) hx hb dX12_isKept_9 (by decide) (fun _ => ?_) (fun c9 => absurd c9 (by decide))
  refine lv_iconst (v := 0) hx hb dX12_isKept_16 (by decide) ?_
  exact W.zret (v := 0) hx hb hr rfl (fun t ht hW => ⟨⟨0, (), rfl, rfl, trivial⟩, hS.F ht⟩) hS.2.2 dX12_isKept_17
set_option maxHeartbeats 4000000 in
set_option maxRecDepth 100000 in
theorem c_X12_back (l : Launch) (dC : Nat → ClassId) (dI : Nat → Nat → Nat) (z : Nat) (tm : Nat) (a9 : Nat) (nw : Nat) (a11 : Nat) (a12 : Nat) (a16 : Nat) (a17 : Nat) (a18 : Nat) (a19 : Nat) (a20 : Nat) (a21 : Nat) (a22 : Nat) (a23 : Nat) (a24 : Nat) (a25 : Nat) (a26 : Nat) (a28 : Nat) (a29 : Nat) (a30 : Nat) (a31 : Nat) (a32 : Nat) (a33 : Nat) (a35 : Nat) (a36 : Nat) (p1 : Int32) (sz : Nat) : Met l yX12_back (Cond.code yX12_back cX12_back 3 (some .int) :: wsU) ({ frames := 1, cells := 0, slots := 0, locals := 25 }) (va_Pc [.ref z, .int p1] (kz_B (dC, dI) sz [(z, .inr (12, [.ref tm, .int 0, .int 0, .int 0, .int 0, .int 0, .int 0, .int 0, .int 0, .ref a9, .ref nw, .ref a11, .ref a12, .int 0, .int 0, .int 0, .ref a16, .ref a17, .ref a18, .ref a19, .ref a20, .ref a21, .ref a22, .ref a23, .ref a24, .ref a25, .ref a26, .int 0, .ref a28, .ref a29, .ref a30, .ref a31, .ref a32, .ref a33, .int 0, .ref a35, .ref a36]))] [])) (va_Qi (fun (r : Int32) (_ : Unit) => r = (if spI p1.toInt64 0 1 = 0 then -1 else -2)) (fun _ _ => True) (va_A [(z, .inr (12, [.ref tm, .int 0, .int 0, .int 0, .int 0, .int 0, .int 0, .int 0, .int 0, .ref a9, .ref nw, .ref a11, .ref a12, .int 0, .int 0, .int 0, .ref a16, .ref a17, .ref a18, .ref a19, .ref a20, .ref a21, .ref a22, .ref a23, .ref a24, .ref a25, .ref a26, .int 0, .ref a28, .ref a29, .ref a30, .ref a31, .ref a32, .ref a33, .int 0, .ref a35, .ref a36]))] sz)) 0 0 (va_A [(z, .inr (12, [.ref tm, .int 0, .int 0, .int 0, .int 0, .int 0, .int 0, .int 0, .int 0, .ref a9, .ref nw, .ref a11, .ref a12, .int 0, .int 0, .int 0, .ref a16, .ref a17, .ref a18, .ref a19, .ref a20, .ref a21, .ref a22, .ref a23, .ref a24, .ref a25, .ref a26, .int 0, .ref a28, .ref a29, .ref a30, .ref a31, .ref a32, .ref a33, .int 0, .ref a35, .ref a36]))] sz) := by
  refine Met.ofW (cc := cX12_back) (maxL := 3) (ret := (some .int)) (by decide) rfl ?_
  intro p e s m args below meth c s₁ B hml hv
  obtain ⟨rfl, hsz, hP, hK, hD0⟩ := hv
  have hx := B.exec
  have hb := B.bytes
  have hr := B.returns
  have hts := atoms_spec (ws := (Cond.code yX12_back cX12_back 3 (some .int) :: wsU)) B.pre
  have hts : ∀ w ∈ wsU, w.before _ s = true := fun w h => hts w (List.mem_cons_of_mem _ h)
  have hown : s.vm.findClass RX12 = some m.cls := findClass_of_methodNamed B.named
  have hlocks := B.notSynchronized
  subst hsz
  have hD := hD0.self (sz := s.heap.size)
  generalize hAe : va_A [(z, .inr (12, [.ref tm, .int 0, .int 0, .int 0, .int 0, .int 0, .int 0, .int 0, .int 0, .ref a9, .ref nw, .ref a11, .ref a12, .int 0, .int 0, .int 0, .ref a16, .ref a17, .ref a18, .ref a19, .ref a20, .ref a21, .ref a22, .ref a23, .ref a24, .ref a25, .ref a26, .int 0, .ref a28, .ref a29, .ref a30, .ref a31, .ref a32, .ref a33, .int 0, .ref a35, .ref a36]))] s.heap.size = A at hD ⊢
  have hA : ∀ q : Nat, s.heap.size ≤ q → A q := fun q h => by rw [← hAe]; exact Or.inr h
  have hS : va_S A s.heap s.heap [] := va_S.rf
  have hP : va_P (dC, dI) vwCl [(z, .inr (12, [.ref tm, .int 0, .int 0, .int 0, .int 0, .int 0, .int 0, .int 0, .int 0, .ref a9, .ref nw, .ref a11, .ref a12, .int 0, .int 0, .int 0, .ref a16, .ref a17, .ref a18, .ref a19, .ref a20, .ref a21, .ref a22, .ref a23, .ref a24, .ref a25, .ref a26, .int 0, .ref a28, .ref a29, .ref a30, .ref a31, .ref a32, .ref a33, .int 0, .ref a35, .ref a36]))] s.heap := hP
  have hl := lv_entry ([.ref z, .int p1]) (n := 3) (Nat.le_of_ble_eq_true rfl)
  rw [lg_entry_eq]
  generalize (lg_sl ([.ref z, .int p1]) ++ List.replicate (3 - (lg_sl ([.ref z, .int p1])).length) Slot.unset).toArray = ls at hl ⊢
  have hl : lv_has ls 3 [(0, .ref z), (1, .int p1)] := hl
  refine lv_iload_n hx hb dX12_back_0 rfl (lv_at hl 1 rfl) ?_
  refine lv_i2l (v := p1.toInt64) hx hb dX12_back_1 rfl ?_
  refine lv_lconst (v := 0) hx hb dX12_back_2 (by decide) ?_
  refine lv_lconst (v := 1) hx hb dX12_back_3 (by decide) ?_
  have hPc := hP.sub (ws' := []) [] rfl
  have hDc := hD.sub (ws' := []) [] (by decide) rfl
  have hKc := hK.sub (tys' := []) [] rfl
  have hFc := va_free (wc := []) hD hS hA [] rfl
  refine va_calli (va_runS (As := [.long p1.toInt64, .long 0, .long 1]) (rest := []) ⟨hx, hb, hml, hown, hts⟩ (c_X12_in l dC dI (p1.toInt64) (0) (1) s.heap.size) (va_cwS 3 hts (kz_gS qw_624 qw_625 qw_5 qw_626) rfl rfl rfl (by decide +kernel) ⟨Nat.le_of_ble_eq_true rfl, Nat.le_of_ble_eq_true rfl⟩) (kz_preS hPc hKc hDc) rfl rfl hl.1 rfl (lv_room (Nat.le_of_ble_eq_true rfl)) dX12_back_4 ⟨Nat.le_of_ble_eq_true rfl, Nat.le_of_ble_eq_true rfl⟩) hS (fun q _ h => hFc q h) hFc (fun r_1 u_2 t H1 locs ht hvm hw hB hz1 hk1 hS => ?_)
  try dsimp only at hw
  have hP1 : va_P (dC, dI) vwCl [] H1 := kz_P0
  have hD1 : va_D (va_A [] s.heap.size) [] := kz_D0
  have hK1 : va_K (dC, dI) vwCl [] s := hK.sub [] rfl
  obtain ⟨hP, hD⟩ := va_join (wr := [(z, .inr (12, [.ref tm, .int 0, .int 0, .int 0, .int 0, .int 0, .int 0, .int 0, .int 0, .ref a9, .ref nw, .ref a11, .ref a12, .int 0, .int 0, .int 0, .ref a16, .ref a17, .ref a18, .ref a19, .ref a20, .ref a21, .ref a22, .ref a23, .ref a24, .ref a25, .ref a26, .int 0, .ref a28, .ref a29, .ref a30, .ref a31, .ref a32, .ref a33, .int 0, .ref a35, .ref a36]))]) (w1 := []) hP hD [] [0] rfl rfl (by decide) (by decide) hk1 hFc hP1 hD1
  have hK := (hK.sub (tys' := []) [] rfl).app hK1
  generalize H1 = H at hP hS ⊢
  have hP : va_P (dC, dI) vwCl [(z, .inr (12, [.ref tm, .int 0, .int 0, .int 0, .int 0, .int 0, .int 0, .int 0, .int 0, .ref a9, .ref nw, .ref a11, .ref a12, .int 0, .int 0, .int 0, .ref a16, .ref a17, .ref a18, .ref a19, .ref a20, .ref a21, .ref a22, .ref a23, .ref a24, .ref a25, .ref a26, .int 0, .ref a28, .ref a29, .ref a30, .ref a31, .ref a32, .ref a33, .int 0, .ref a35, .ref a36]))] H := hP
  have hD : va_D A [(z, .inr (12, [.ref tm, .int 0, .int 0, .int 0, .int 0, .int 0, .int 0, .int 0, .int 0, .ref a9, .ref nw, .ref a11, .ref a12, .int 0, .int 0, .int 0, .ref a16, .ref a17, .ref a18, .ref a19, .ref a20, .ref a21, .ref a22, .ref a23, .ref a24, .ref a25, .ref a26, .int 0, .ref a28, .ref a29, .ref a30, .ref a31, .ref a32, .ref a33, .int 0, .ref a35, .ref a36]))] := hD
  have hK : va_K (dC, dI) vwCl [] s := hK
  have hw3 := hw
  refine lv_if_ne (tgt := 12) hx hb dX12_back_7 (by decide) (fun c_4 => ?_) (fun c_4 => ?_)
  · refine lv_aload_n hx hb dX12_back_12 rfl (lv_at hl 0 rfl) ?_
    refine lv_iload_n hx hb dX12_back_13 rfl (lv_at hl 1 rfl) ?_
    have hPc := hP.sub (ws' := [(z, .inr (12, [.ref tm, .int 0, .int 0, .int 0, .int 0, .int 0, .int 0, .int 0, .int 0, .ref a9, .ref nw, .ref a11, .ref a12, .int 0, .int 0, .int 0, .ref a16, .ref a17, .ref a18, .ref a19, .ref a20, .ref a21, .ref a22, .ref a23, .ref a24, .ref a25, .ref a26, .int 0, .ref a28, .ref a29, .ref a30, .ref a31, .ref a32, .ref a33, .int 0, .ref a35, .ref a36]))]) [0] rfl
    have hDc := hD.sub (ws' := [(z, .inr (12, [.ref tm, .int 0, .int 0, .int 0, .int 0, .int 0, .int 0, .int 0, .int 0, .ref a9, .ref nw, .ref a11, .ref a12, .int 0, .int 0, .int 0, .ref a16, .ref a17, .ref a18, .ref a19, .ref a20, .ref a21, .ref a22, .ref a23, .ref a24, .ref a25, .ref a26, .int 0, .ref a28, .ref a29, .ref a30, .ref a31, .ref a32, .ref a33, .int 0, .ref a35, .ref a36]))]) [0] (by decide) rfl
    have hKc := hK.sub (tys' := []) [] rfl
    have hFc := va_free (wc := [(z, .inr (12, [.ref tm, .int 0, .int 0, .int 0, .int 0, .int 0, .int 0, .int 0, .int 0, .ref a9, .ref nw, .ref a11, .ref a12, .int 0, .int 0, .int 0, .ref a16, .ref a17, .ref a18, .ref a19, .ref a20, .ref a21, .ref a22, .ref a23, .ref a24, .ref a25, .ref a26, .int 0, .ref a28, .ref a29, .ref a30, .ref a31, .ref a32, .ref a33, .int 0, .ref a35, .ref a36]))]) hD hS hA [0] rfl
    refine va_calli (va_runV (As := [.int p1]) (rest := []) ⟨hx, hb, hml, hown, hts⟩ (c_X12_isKept l dC dI (z) (tm) (a9) (nw) (a11) (a12) (a16) (a17) (a18) (a19) (a20) (a21) (a22) (a23) (a24) (a25) (a26) (a28) (a29) (a30) (a31) (a32) (a33) (a35) (a36) (p1) H.size) (cwV 1 hts (kz_gV qw_1049 qw_1050 qw_1051 qw_5 qw_1052) rfl rfl rfl (by decide +kernel) ⟨Nat.le_of_ble_eq_true rfl, Nat.le_of_ble_eq_true rfl⟩) (⟨(kz_preS hPc hKc hDc).1, (va_recv hKc hPc (ci := 12) (q0 := 0) rfl rfl), (kz_preS hPc hKc hDc).2⟩) rfl rfl hl.1 rfl (lv_room (Nat.le_of_ble_eq_true rfl)) dX12_back_14 ⟨Nat.le_of_ble_eq_true rfl, Nat.le_of_ble_eq_true rfl⟩) hS (fun q _ h => hFc q h) hFc (fun r_5 u_6 t H1 locs ht hvm hw hB hz1 hk1 hS => ?_)
    try dsimp only at hw
    have hP1 : va_P (dC, dI) vwCl [] H1 := kz_P0
    have hD1 : va_D (va_A [(z, .inr (12, [.ref tm, .int 0, .int 0, .int 0, .int 0, .int 0, .int 0, .int 0, .int 0, .ref a9, .ref nw, .ref a11, .ref a12, .int 0, .int 0, .int 0, .ref a16, .ref a17, .ref a18, .ref a19, .ref a20, .ref a21, .ref a22, .ref a23, .ref a24, .ref a25, .ref a26, .int 0, .ref a28, .ref a29, .ref a30, .ref a31, .ref a32, .ref a33, .int 0, .ref a35, .ref a36]))] H.size) [] := kz_D0
    have hK1 : va_K (dC, dI) vwCl [] s := hK.sub [] rfl
    obtain ⟨hP, hD⟩ := va_join (wr := []) (w1 := []) hP hD [0] [] rfl rfl (by decide) (by decide) hk1 hFc hP1 hD1
    have hK := (hK.sub (tys' := []) [] rfl).app hK1
    generalize H1 = H at hP hS ⊢
    have hP : va_P (dC, dI) vwCl [] H := hP
    have hD : va_D A [] := hD
    have hK : va_K (dC, dI) vwCl [] s := hK
    obtain rfl : r_5 = 0 := hw
    refine lv_if_ne (tgt := 23) hx hb dX12_back_17 (by decide) (fun c9 => absurd c9 (by decide)) (fun _ => ?_)
    refine lv_bipush (v := (-2)) hx hb dX12_back_20 (by decide) ?_
    exact W.iret (v := (-2)) hx hb hr (fun t ht hW => ⟨⟨(-2), (), rfl, (by rw [← hw3]; simp [c_4]), trivial⟩, hS.F ht⟩) hS.2.2 dX12_back_22
  · refine lv_iconst (v := (-1)) hx hb dX12_back_10 (by decide) ?_
    exact W.iret (v := (-1)) hx hb hr (fun t ht hW => ⟨⟨(-1), (), rfl, (by rw [← hw3]; simp [c_4]), trivial⟩, hS.F ht⟩) hS.2.2 dX12_back_11
set_option maxHeartbeats 4000000 in
set_option maxRecDepth 100000 in
theorem c_X12_draws (l : Launch) (dC : Nat → ClassId) (dI : Nat → Nat → Nat) (z : Nat) (tm : Nat) (a9 : Nat) (nw : Nat) (a11 : Nat) (a12 : Nat) (a16 : Nat) (a17 : Nat) (a18 : Nat) (a19 : Nat) (a20 : Nat) (a21 : Nat) (a22 : Nat) (a23 : Nat) (a24 : Nat) (a25 : Nat) (a26 : Nat) (a28 : Nat) (a29 : Nat) (a30 : Nat) (a31 : Nat) (a32 : Nat) (a33 : Nat) (a35 : Nat) (a36 : Nat) (cI : ClassId) (p1 : Int32) (sz : Nat) : Met l yX12_draws (Cond.code yX12_draws cX12_draws 3 (some .int) :: wsU) ({ frames := 0, cells := 0, slots := 0, locals := 0 }) (va_Pc [.ref z, .int p1] (kz_B (dC, dI) sz [(z, .inr (12, [.ref tm, .int 0, .int 0, .int 0, .int 0, .int 0, .int 0, .int 0, .int 0, .ref a9, .ref nw, .ref a11, .ref a12, .int 0, .int 0, .int 0, .ref a16, .ref a17, .ref a18, .ref a19, .ref a20, .ref a21, .ref a22, .ref a23, .ref a24, .ref a25, .ref a26, .int 0, .ref a28, .ref a29, .ref a30, .ref a31, .ref a32, .ref a33, .int 0, .ref a35, .ref a36])), (nw, .inl (cI, 12507, .inl (fun _ => 0)))] [(cI, .int)])) (va_Qi (fun (r : Int32) (_ : Unit) => r = (spD p1)) (fun _ _ => True) (va_A [(z, .inr (12, [.ref tm, .int 0, .int 0, .int 0, .int 0, .int 0, .int 0, .int 0, .int 0, .ref a9, .ref nw, .ref a11, .ref a12, .int 0, .int 0, .int 0, .ref a16, .ref a17, .ref a18, .ref a19, .ref a20, .ref a21, .ref a22, .ref a23, .ref a24, .ref a25, .ref a26, .int 0, .ref a28, .ref a29, .ref a30, .ref a31, .ref a32, .ref a33, .int 0, .ref a35, .ref a36])), (nw, .inl (cI, 12507, .inl (fun _ => 0)))] sz)) 0 0 (va_A [(z, .inr (12, [.ref tm, .int 0, .int 0, .int 0, .int 0, .int 0, .int 0, .int 0, .int 0, .ref a9, .ref nw, .ref a11, .ref a12, .int 0, .int 0, .int 0, .ref a16, .ref a17, .ref a18, .ref a19, .ref a20, .ref a21, .ref a22, .ref a23, .ref a24, .ref a25, .ref a26, .int 0, .ref a28, .ref a29, .ref a30, .ref a31, .ref a32, .ref a33, .int 0, .ref a35, .ref a36])), (nw, .inl (cI, 12507, .inl (fun _ => 0)))] sz) := by
  refine Met.ofW (cc := cX12_draws) (maxL := 3) (ret := (some .int)) (by decide) rfl ?_
  intro p e s m args below meth c s₁ B hml hv
  obtain ⟨rfl, hsz, hP, hK, hD0⟩ := hv
  have hx := B.exec
  have hb := B.bytes
  have hr := B.returns
  have hts := atoms_spec (ws := (Cond.code yX12_draws cX12_draws 3 (some .int) :: wsU)) B.pre
  have hts : ∀ w ∈ wsU, w.before _ s = true := fun w h => hts w (List.mem_cons_of_mem _ h)
  have hown : s.vm.findClass RX12 = some m.cls := findClass_of_methodNamed B.named
  have hlocks := B.notSynchronized
  subst hsz
  have hD := hD0.self (sz := s.heap.size)
  generalize hAe : va_A [(z, .inr (12, [.ref tm, .int 0, .int 0, .int 0, .int 0, .int 0, .int 0, .int 0, .int 0, .ref a9, .ref nw, .ref a11, .ref a12, .int 0, .int 0, .int 0, .ref a16, .ref a17, .ref a18, .ref a19, .ref a20, .ref a21, .ref a22, .ref a23, .ref a24, .ref a25, .ref a26, .int 0, .ref a28, .ref a29, .ref a30, .ref a31, .ref a32, .ref a33, .int 0, .ref a35, .ref a36])), (nw, .inl (cI, 12507, .inl (fun _ => 0)))] s.heap.size = A at hD ⊢
  have hA : ∀ q : Nat, s.heap.size ≤ q → A q := fun q h => by rw [← hAe]; exact Or.inr h
  have hS : va_S A s.heap s.heap [] := va_S.rf
  have hP : va_P (dC, dI) vwCl [(z, .inr (12, [.ref tm, .int 0, .int 0, .int 0, .int 0, .int 0, .int 0, .int 0, .int 0, .ref a9, .ref nw, .ref a11, .ref a12, .int 0, .int 0, .int 0, .ref a16, .ref a17, .ref a18, .ref a19, .ref a20, .ref a21, .ref a22, .ref a23, .ref a24, .ref a25, .ref a26, .int 0, .ref a28, .ref a29, .ref a30, .ref a31, .ref a32, .ref a33, .int 0, .ref a35, .ref a36])), (nw, .inl (cI, 12507, .inl (fun _ => 0)))] s.heap := hP
  have hl := lv_entry ([.ref z, .int p1]) (n := 3) (Nat.le_of_ble_eq_true rfl)
  rw [lg_entry_eq]
  generalize (lg_sl ([.ref z, .int p1]) ++ List.replicate (3 - (lg_sl ([.ref z, .int p1])).length) Slot.unset).toArray = ls at hl ⊢
  have hl : lv_has ls 3 [(0, .ref z), (1, .int p1)] := hl
  refine lv_iload_n hx hb dX12_draws_0 rfl (lv_at hl 1 rfl) ?_
  refine lv_if_ge (tgt := 6) hx hb dX12_draws_1 (by decide) (fun c_1 => ?_) (fun c_1 => ?_)
  · refine lv_aload_n hx hb dX12_draws_6 rfl (lv_at hl 0 rfl) ?_
    refine va_get (D := (dC, dI)) (ci := 12) (v := .ref nw) (C := RX12) (T := TX12) (N := 37) hx hb hts inlX12 hown hK hP 0 rfl rfl 10 (by decide) (hts _ qw_159) (fun _ h9 => h9) rfl dX12_draws_7 ?_
    refine lv_sipush (v := 12506) hx hb dX12_draws_10 (by decide) ?_
    refine va_iald hx hb hK hP 1 0 rfl rfl (i := 12506) (kz_in (by decide +kernel)) dX12_draws_13 ?_
    refine kz_topi (y := 0) rfl ?_
    refine lv_istore_n (lv' := [(2, .int 0), (0, .ref z), (1, .int p1)]) hx hb dX12_draws_14 rfl hl (by decide) rfl (fun ls hl => ?_)
    refine lv_aload_n hx hb dX12_draws_15 rfl (lv_at hl 1 rfl) ?_
    refine va_get (D := (dC, dI)) (ci := 12) (v := .ref nw) (C := RX12) (T := TX12) (N := 37) hx hb hts inlX12 hown hK hP 0 rfl rfl 10 (by decide) (hts _ qw_159) (fun _ h9 => h9) rfl dX12_draws_16 ?_
    refine lv_sipush (v := 12506) hx hb dX12_draws_19 (by decide) ?_
    refine lv_iload_n hx hb dX12_draws_22 rfl (lv_at hl 2 rfl) ?_
    refine va_iast hx hb hK hP hD hS 1 0 rfl rfl (i := 12506) (x := p1) (kz_in (by decide +kernel)) dX12_draws_23 (fun H locs hP hD hS => ?_)
    generalize hf9 : upd (fun _ => 0) _ _ = f2 at hP hD
    have hP : va_P (dC, dI) vwCl [(z, .inr (12, [.ref tm, .int 0, .int 0, .int 0, .int 0, .int 0, .int 0, .int 0, .int 0, .ref a9, .ref nw, .ref a11, .ref a12, .int 0, .int 0, .int 0, .ref a16, .ref a17, .ref a18, .ref a19, .ref a20, .ref a21, .ref a22, .ref a23, .ref a24, .ref a25, .ref a26, .int 0, .ref a28, .ref a29, .ref a30, .ref a31, .ref a32, .ref a33, .int 0, .ref a35, .ref a36])), (nw, .inl (cI, 12507, .inl f2))] H := hP
    have hD : va_D A [(z, .inr (12, [.ref tm, .int 0, .int 0, .int 0, .int 0, .int 0, .int 0, .int 0, .int 0, .ref a9, .ref nw, .ref a11, .ref a12, .int 0, .int 0, .int 0, .ref a16, .ref a17, .ref a18, .ref a19, .ref a20, .ref a21, .ref a22, .ref a23, .ref a24, .ref a25, .ref a26, .int 0, .ref a28, .ref a29, .ref a30, .ref a31, .ref a32, .ref a33, .int 0, .ref a35, .ref a36])), (nw, .inl (cI, 12507, .inl f2))] := hD
    refine lv_iload_n hx hb dX12_draws_24 rfl (lv_at hl 0 rfl) ?_
    exact W.iret (v := 0) hx hb hr (fun t ht hW => ⟨⟨0, (), rfl, (by simp [spD, c_1]), trivial⟩, hS.F ht⟩) hS.2.2 dX12_draws_25
  · refine lv_iconst (v := (-1)) hx hb dX12_draws_4 (by decide) ?_
    exact W.iret (v := (-1)) hx hb hr (fun t ht hW => ⟨⟨(-1), (), rfl, (by simp [spD, c_1]), trivial⟩, hS.F ht⟩) hS.2.2 dX12_draws_5
set_option maxHeartbeats 4000000 in
set_option maxRecDepth 100000 in
theorem c_X12_end (l : Launch) (dC : Nat → ClassId) (dI : Nat → Nat → Nat) (z : Nat) (tm : Nat) (a9 : Nat) (nw : Nat) (a11 : Nat) (a12 : Nat) (a16 : Nat) (a17 : Nat) (a18 : Nat) (a19 : Nat) (a20 : Nat) (a21 : Nat) (a22 : Nat) (a23 : Nat) (a24 : Nat) (a25 : Nat) (a26 : Nat) (a28 : Nat) (a29 : Nat) (a30 : Nat) (a31 : Nat) (a32 : Nat) (a33 : Nat) (a35 : Nat) (a36 : Nat) (p1 : Int32) (sz : Nat) : Met l yX12_end (Cond.code yX12_end cX12_end 2 (some .int) :: wsU) ({ frames := 0, cells := 0, slots := 0, locals := 0 }) (va_Pc [.ref z, .int p1] (kz_B (dC, dI) sz [(z, .inr (12, [.ref tm, .int 0, .int 0, .int 0, .int 0, .int 0, .int 0, .int 0, .int 0, .ref a9, .ref nw, .ref a11, .ref a12, .int 0, .int 0, .int 0, .ref a16, .ref a17, .ref a18, .ref a19, .ref a20, .ref a21, .ref a22, .ref a23, .ref a24, .ref a25, .ref a26, .int 0, .ref a28, .ref a29, .ref a30, .ref a31, .ref a32, .ref a33, .int 0, .ref a35, .ref a36]))] [])) (va_Qi (fun (r : Int32) (_ : Unit) => r = (spE p1)) (fun _ _ => True) (va_A [(z, .inr (12, [.ref tm, .int 0, .int 0, .int 0, .int 0, .int 0, .int 0, .int 0, .int 0, .ref a9, .ref nw, .ref a11, .ref a12, .int 0, .int 0, .int 0, .ref a16, .ref a17, .ref a18, .ref a19, .ref a20, .ref a21, .ref a22, .ref a23, .ref a24, .ref a25, .ref a26, .int 0, .ref a28, .ref a29, .ref a30, .ref a31, .ref a32, .ref a33, .int 0, .ref a35, .ref a36]))] sz)) 0 0 (va_A [(z, .inr (12, [.ref tm, .int 0, .int 0, .int 0, .int 0, .int 0, .int 0, .int 0, .int 0, .ref a9, .ref nw, .ref a11, .ref a12, .int 0, .int 0, .int 0, .ref a16, .ref a17, .ref a18, .ref a19, .ref a20, .ref a21, .ref a22, .ref a23, .ref a24, .ref a25, .ref a26, .int 0, .ref a28, .ref a29, .ref a30, .ref a31, .ref a32, .ref a33, .int 0, .ref a35, .ref a36]))] sz) := by
  refine Met.ofW (cc := cX12_end) (maxL := 2) (ret := (some .int)) (by decide) rfl ?_
  intro p e s m args below meth c s₁ B hml hv
  obtain ⟨rfl, hsz, hP, hK, hD0⟩ := hv
  have hx := B.exec
  have hb := B.bytes
  have hr := B.returns
  have hts := atoms_spec (ws := (Cond.code yX12_end cX12_end 2 (some .int) :: wsU)) B.pre
  have hts : ∀ w ∈ wsU, w.before _ s = true := fun w h => hts w (List.mem_cons_of_mem _ h)
  have hown : s.vm.findClass RX12 = some m.cls := findClass_of_methodNamed B.named
  have hlocks := B.notSynchronized
  subst hsz
  have hD := hD0.self (sz := s.heap.size)
  generalize hAe : va_A [(z, .inr (12, [.ref tm, .int 0, .int 0, .int 0, .int 0, .int 0, .int 0, .int 0, .int 0, .ref a9, .ref nw, .ref a11, .ref a12, .int 0, .int 0, .int 0, .ref a16, .ref a17, .ref a18, .ref a19, .ref a20, .ref a21, .ref a22, .ref a23, .ref a24, .ref a25, .ref a26, .int 0, .ref a28, .ref a29, .ref a30, .ref a31, .ref a32, .ref a33, .int 0, .ref a35, .ref a36]))] s.heap.size = A at hD ⊢
  have hA : ∀ q : Nat, s.heap.size ≤ q → A q := fun q h => by rw [← hAe]; exact Or.inr h
  have hS : va_S A s.heap s.heap [] := va_S.rf
  have hP : va_P (dC, dI) vwCl [(z, .inr (12, [.ref tm, .int 0, .int 0, .int 0, .int 0, .int 0, .int 0, .int 0, .int 0, .ref a9, .ref nw, .ref a11, .ref a12, .int 0, .int 0, .int 0, .ref a16, .ref a17, .ref a18, .ref a19, .ref a20, .ref a21, .ref a22, .ref a23, .ref a24, .ref a25, .ref a26, .int 0, .ref a28, .ref a29, .ref a30, .ref a31, .ref a32, .ref a33, .int 0, .ref a35, .ref a36]))] s.heap := hP
  have hl := lv_entry ([.ref z, .int p1]) (n := 2) (Nat.le_of_ble_eq_true rfl)
  rw [lg_entry_eq]
  generalize (lg_sl ([.ref z, .int p1]) ++ List.replicate (2 - (lg_sl ([.ref z, .int p1])).length) Slot.unset).toArray = ls at hl ⊢
  have hl : lv_has ls 2 [(0, .ref z), (1, .int p1)] := hl
  refine lv_iload_n hx hb dX12_end_0 rfl (lv_at hl 1 rfl) ?_
  refine lv_if_lt (tgt := 12) hx hb dX12_end_1 (by decide) (fun c_1 => ?_) (fun c_1 => ?_)
  · refine lv_iconst (v := (-1)) hx hb dX12_end_12 (by decide) ?_
    exact W.iret (v := (-1)) hx hb hr (fun t ht hW => ⟨⟨(-1), (), rfl, (by simp [spE, c_1]), trivial⟩, hS.F ht⟩) hS.2.2 dX12_end_13
  · refine lv_iload_n hx hb dX12_end_4 rfl (lv_at hl 1 rfl) ?_
    refine lv_aload_n hx hb dX12_end_5 rfl (lv_at hl 0 rfl) ?_
    refine va_get (D := (dC, dI)) (ci := 12) (v := .int 0) (C := RX12) (T := TX12) (N := 37) hx hb hts inlX12 hown hK hP 0 rfl rfl 1 (by decide) (hts _ qw_199) (fun _ h9 => h9) rfl dX12_end_6 ?_
    refine lv_icmp_le (tgt := 14) hx hb dX12_end_9 (by decide) (fun c_2 => ?_) (fun c_2 => ?_)
    · refine lv_aload_n hx hb dX12_end_14 rfl (lv_at hl 0 rfl) ?_
      refine lv_iload_n hx hb dX12_end_15 rfl (lv_at hl 1 rfl) ?_
      refine va_put (D := (dC, dI)) (ci := 12) (v := .int p1) (ty := .int) (C := RX12) (T := TX12) (N := 37) hx hb hts inlX12 tyX12 tyX12_ok nmX12 hown hK hP hD hS 0 rfl rfl 1 (by decide) (hts _ qw_199) (fun _ h9 => h9) rfl (by decide +kernel) rfl rfl (Nat.le_of_ble_eq_true rfl) dX12_end_16 (fun H locs hP hD hS => ?_)
      have hP : va_P (dC, dI) vwCl [(z, .inr (12, [.ref tm, .int p1, .int 0, .int 0, .int 0, .int 0, .int 0, .int 0, .int 0, .ref a9, .ref nw, .ref a11, .ref a12, .int 0, .int 0, .int 0, .ref a16, .ref a17, .ref a18, .ref a19, .ref a20, .ref a21, .ref a22, .ref a23, .ref a24, .ref a25, .ref a26, .int 0, .ref a28, .ref a29, .ref a30, .ref a31, .ref a32, .ref a33, .int 0, .ref a35, .ref a36]))] H := hP
      have hD : va_D A [(z, .inr (12, [.ref tm, .int p1, .int 0, .int 0, .int 0, .int 0, .int 0, .int 0, .int 0, .ref a9, .ref nw, .ref a11, .ref a12, .int 0, .int 0, .int 0, .ref a16, .ref a17, .ref a18, .ref a19, .ref a20, .ref a21, .ref a22, .ref a23, .ref a24, .ref a25, .ref a26, .int 0, .ref a28, .ref a29, .ref a30, .ref a31, .ref a32, .ref a33, .int 0, .ref a35, .ref a36]))] := hD
      refine lv_iload_n hx hb dX12_end_19 rfl (lv_at hl 1 rfl) ?_
      exact W.iret (v := p1) hx hb hr (fun t ht hW => ⟨⟨p1, (), rfl, (by simp [spE, c_1, c_2]), trivial⟩, hS.F ht⟩) hS.2.2 dX12_end_20
    · refine lv_iconst (v := (-1)) hx hb dX12_end_12 (by decide) ?_
      exact W.iret (v := (-1)) hx hb hr (fun t ht hW => ⟨⟨(-1), (), rfl, (by simp [spE, c_1, c_2]), trivial⟩, hS.F ht⟩) hS.2.2 dX12_end_13
set_option maxHeartbeats 4000000 in
set_option maxRecDepth 100000 in
theorem c_X12_count (l : Launch) (dC : Nat → ClassId) (dI : Nat → Nat → Nat) (z : Nat) (tm : Nat) (a9 : Nat) (nw : Nat) (a11 : Nat) (a12 : Nat) (a16 : Nat) (a17 : Nat) (a18 : Nat) (a19 : Nat) (a20 : Nat) (a21 : Nat) (a22 : Nat) (a23 : Nat) (a24 : Nat) (a25 : Nat) (a26 : Nat) (a28 : Nat) (a29 : Nat) (a30 : Nat) (a31 : Nat) (a32 : Nat) (a33 : Nat) (a35 : Nat) (a36 : Nat) (cI : ClassId) (p1 : Int32) (sz : Nat) : Met l yX12_count (Cond.code yX12_count cX12_count 2 (some .int) :: wsU) ({ frames := 1, cells := 0, slots := 0, locals := 25 }) (va_Pc [.ref z, .int p1] (kz_B (dC, dI) sz [(z, .inr (12, [.ref tm, .int 0, .int 0, .int 0, .int 0, .int 0, .int 0, .int 0, .int 0, .ref a9, .ref nw, .ref a11, .ref a12, .int 0, .int 0, .int 0, .ref a16, .ref a17, .ref a18, .ref a19, .ref a20, .ref a21, .ref a22, .ref a23, .ref a24, .ref a25, .ref a26, .int 0, .ref a28, .ref a29, .ref a30, .ref a31, .ref a32, .ref a33, .int 0, .ref a35, .ref a36])), (nw, .inl (cI, 12507, .inl (fun _ => 0)))] [(cI, .int)])) (va_Qi (fun (r : Int32) (_ : Unit) => r = (spC p1)) (fun _ _ => True) (va_A [(z, .inr (12, [.ref tm, .int 0, .int 0, .int 0, .int 0, .int 0, .int 0, .int 0, .int 0, .ref a9, .ref nw, .ref a11, .ref a12, .int 0, .int 0, .int 0, .ref a16, .ref a17, .ref a18, .ref a19, .ref a20, .ref a21, .ref a22, .ref a23, .ref a24, .ref a25, .ref a26, .int 0, .ref a28, .ref a29, .ref a30, .ref a31, .ref a32, .ref a33, .int 0, .ref a35, .ref a36])), (nw, .inl (cI, 12507, .inl (fun _ => 0)))] sz)) 0 0 (va_A [(z, .inr (12, [.ref tm, .int 0, .int 0, .int 0, .int 0, .int 0, .int 0, .int 0, .int 0, .ref a9, .ref nw, .ref a11, .ref a12, .int 0, .int 0, .int 0, .ref a16, .ref a17, .ref a18, .ref a19, .ref a20, .ref a21, .ref a22, .ref a23, .ref a24, .ref a25, .ref a26, .int 0, .ref a28, .ref a29, .ref a30, .ref a31, .ref a32, .ref a33, .int 0, .ref a35, .ref a36])), (nw, .inl (cI, 12507, .inl (fun _ => 0)))] sz) := by
  refine Met.ofW (cc := cX12_count) (maxL := 2) (ret := (some .int)) (by decide) rfl ?_
  intro p e s m args below meth c s₁ B hml hv
  obtain ⟨rfl, hsz, hP, hK, hD0⟩ := hv
  have hx := B.exec
  have hb := B.bytes
  have hr := B.returns
  have hts := atoms_spec (ws := (Cond.code yX12_count cX12_count 2 (some .int) :: wsU)) B.pre
  have hts : ∀ w ∈ wsU, w.before _ s = true := fun w h => hts w (List.mem_cons_of_mem _ h)
  have hown : s.vm.findClass RX12 = some m.cls := findClass_of_methodNamed B.named
  have hlocks := B.notSynchronized
  subst hsz
  have hD := hD0.self (sz := s.heap.size)
  generalize hAe : va_A [(z, .inr (12, [.ref tm, .int 0, .int 0, .int 0, .int 0, .int 0, .int 0, .int 0, .int 0, .ref a9, .ref nw, .ref a11, .ref a12, .int 0, .int 0, .int 0, .ref a16, .ref a17, .ref a18, .ref a19, .ref a20, .ref a21, .ref a22, .ref a23, .ref a24, .ref a25, .ref a26, .int 0, .ref a28, .ref a29, .ref a30, .ref a31, .ref a32, .ref a33, .int 0, .ref a35, .ref a36])), (nw, .inl (cI, 12507, .inl (fun _ => 0)))] s.heap.size = A at hD ⊢
  have hA : ∀ q : Nat, s.heap.size ≤ q → A q := fun q h => by rw [← hAe]; exact Or.inr h
  have hS : va_S A s.heap s.heap [] := va_S.rf
  have hP : va_P (dC, dI) vwCl [(z, .inr (12, [.ref tm, .int 0, .int 0, .int 0, .int 0, .int 0, .int 0, .int 0, .int 0, .ref a9, .ref nw, .ref a11, .ref a12, .int 0, .int 0, .int 0, .ref a16, .ref a17, .ref a18, .ref a19, .ref a20, .ref a21, .ref a22, .ref a23, .ref a24, .ref a25, .ref a26, .int 0, .ref a28, .ref a29, .ref a30, .ref a31, .ref a32, .ref a33, .int 0, .ref a35, .ref a36])), (nw, .inl (cI, 12507, .inl (fun _ => 0)))] s.heap := hP
  have hl := lv_entry ([.ref z, .int p1]) (n := 2) (Nat.le_of_ble_eq_true rfl)
  rw [lg_entry_eq]
  generalize (lg_sl ([.ref z, .int p1]) ++ List.replicate (2 - (lg_sl ([.ref z, .int p1])).length) Slot.unset).toArray = ls at hl ⊢
  have hl : lv_has ls 2 [(0, .ref z), (1, .int p1)] := hl
  refine lv_iload_n hx hb dX12_count_0 rfl (lv_at hl 1 rfl) ?_
  refine lv_i2l (v := p1.toInt64) hx hb dX12_count_1 rfl ?_
  refine lv_lconst (v := 0) hx hb dX12_count_2 (by decide) ?_
  refine lv_ldc2 (v := 7) hx hb hown (hts _ qw_1076) dX12_count_3 ?_
  have hPc := hP.sub (ws' := []) [] rfl
  have hDc := hD.sub (ws' := []) [] (by decide) rfl
  have hKc := hK.sub (tys' := []) [] rfl
  have hFc := va_free (wc := []) hD hS hA [] rfl
  refine va_calli (va_runS (As := [.long p1.toInt64, .long 0, .long 7]) (rest := []) ⟨hx, hb, hml, hown, hts⟩ (c_X12_in l dC dI (p1.toInt64) (0) (7) s.heap.size) (va_cwS 3 hts (kz_gS qw_624 qw_625 qw_5 qw_626) rfl rfl rfl (by decide +kernel) ⟨Nat.le_of_ble_eq_true rfl, Nat.le_of_ble_eq_true rfl⟩) (kz_preS hPc hKc hDc) rfl rfl hl.1 rfl (lv_room (Nat.le_of_ble_eq_true rfl)) dX12_count_6 ⟨Nat.le_of_ble_eq_true rfl, Nat.le_of_ble_eq_true rfl⟩) hS (fun q _ h => hFc q h) hFc (fun r_1 u_2 t H1 locs ht hvm hw hB hz1 hk1 hS => ?_)
  try dsimp only at hw
  have hP1 : va_P (dC, dI) vwCl [] H1 := kz_P0
  have hD1 : va_D (va_A [] s.heap.size) [] := kz_D0
  have hK1 : va_K (dC, dI) vwCl [] s := hK.sub [] rfl
  obtain ⟨hP, hD⟩ := va_join (wr := [(z, .inr (12, [.ref tm, .int 0, .int 0, .int 0, .int 0, .int 0, .int 0, .int 0, .int 0, .ref a9, .ref nw, .ref a11, .ref a12, .int 0, .int 0, .int 0, .ref a16, .ref a17, .ref a18, .ref a19, .ref a20, .ref a21, .ref a22, .ref a23, .ref a24, .ref a25, .ref a26, .int 0, .ref a28, .ref a29, .ref a30, .ref a31, .ref a32, .ref a33, .int 0, .ref a35, .ref a36])), (nw, .inl (cI, 12507, .inl (fun _ => 0)))]) (w1 := []) hP hD [] [0, 1] rfl rfl (by decide) (by decide) hk1 hFc hP1 hD1
  have hK := (hK.sub (tys' := [(cI, .int)]) [0] rfl).app hK1
  generalize H1 = H at hP hS ⊢
  have hP : va_P (dC, dI) vwCl [(z, .inr (12, [.ref tm, .int 0, .int 0, .int 0, .int 0, .int 0, .int 0, .int 0, .int 0, .ref a9, .ref nw, .ref a11, .ref a12, .int 0, .int 0, .int 0, .ref a16, .ref a17, .ref a18, .ref a19, .ref a20, .ref a21, .ref a22, .ref a23, .ref a24, .ref a25, .ref a26, .int 0, .ref a28, .ref a29, .ref a30, .ref a31, .ref a32, .ref a33, .int 0, .ref a35, .ref a36])), (nw, .inl (cI, 12507, .inl (fun _ => 0)))] H := hP
  have hD : va_D A [(z, .inr (12, [.ref tm, .int 0, .int 0, .int 0, .int 0, .int 0, .int 0, .int 0, .int 0, .ref a9, .ref nw, .ref a11, .ref a12, .int 0, .int 0, .int 0, .ref a16, .ref a17, .ref a18, .ref a19, .ref a20, .ref a21, .ref a22, .ref a23, .ref a24, .ref a25, .ref a26, .int 0, .ref a28, .ref a29, .ref a30, .ref a31, .ref a32, .ref a33, .int 0, .ref a35, .ref a36])), (nw, .inl (cI, 12507, .inl (fun _ => 0)))] := hD
  have hK : va_K (dC, dI) vwCl [(cI, .int)] s := hK
  have hw3 := hw
  refine lv_if_eq (tgt := 29) hx hb dX12_count_9 (by decide) (fun c_4 => ?_) (fun c_4 => ?_)
  · refine lv_iload_n hx hb dX12_count_29 rfl (lv_at hl 1 rfl) ?_
    rcases kz_sw8_11 p1 with rfl | rfl | rfl | rfl | h5
    · refine lv_tableIn (tgt := 60) hx hb dX12_count_30 (by decide) (by decide) rfl (by decide) ?_
      refine lv_aload_n hx hb dX12_count_60 rfl (lv_at hl 0 rfl) ?_
      refine va_get (D := (dC, dI)) (ci := 12) (v := .int 0) (C := RX12) (T := TX12) (N := 37) hx hb hts inlX12 hown hK hP 0 rfl rfl 14 (by decide) (hts _ qw_604) (fun _ h9 => h9) rfl dX12_count_61 ?_
      exact W.iret (v := 0) hx hb hr (fun t ht hW => ⟨⟨0, (), rfl, (by decide), trivial⟩, hS.F ht⟩) hS.2.2 dX12_count_64
    · refine lv_tableIn (tgt := 65) hx hb dX12_count_30 (by decide) (by decide) rfl (by decide) ?_
      refine lv_aload_n hx hb dX12_count_65 rfl (lv_at hl 0 rfl) ?_
      refine va_get (D := (dC, dI)) (ci := 12) (v := .ref nw) (C := RX12) (T := TX12) (N := 37) hx hb hts inlX12 hown hK hP 0 rfl rfl 10 (by decide) (hts _ qw_159) (fun _ h9 => h9) rfl dX12_count_66 ?_
      refine lv_sipush (v := 12506) hx hb dX12_count_69 (by decide) ?_
      refine va_iald hx hb hK hP 1 0 rfl rfl (i := 12506) (kz_in (by decide +kernel)) dX12_count_72 ?_
      refine kz_topi (y := 0) rfl ?_
      exact W.iret (v := 0) hx hb hr (fun t ht hW => ⟨⟨0, (), rfl, (by decide), trivial⟩, hS.F ht⟩) hS.2.2 dX12_count_73
    · refine lv_tableIn (tgt := 74) hx hb dX12_count_30 (by decide) (by decide) rfl (by decide) ?_
      refine lv_aload_n hx hb dX12_count_74 rfl (lv_at hl 0 rfl) ?_
      refine va_get (D := (dC, dI)) (ci := 12) (v := .int 0) (C := RX12) (T := TX12) (N := 37) hx hb hts inlX12 hown hK hP 0 rfl rfl 1 (by decide) (hts _ qw_199) (fun _ h9 => h9) rfl dX12_count_75 ?_
      exact W.iret (v := 0) hx hb hr (fun t ht hW => ⟨⟨0, (), rfl, (by decide), trivial⟩, hS.F ht⟩) hS.2.2 dX12_count_78
    · refine lv_tableIn (tgt := 79) hx hb dX12_count_30 (by decide) (by decide) rfl (by decide) ?_
      refine lv_aload_n hx hb dX12_count_79 rfl (lv_at hl 0 rfl) ?_
      refine va_get (D := (dC, dI)) (ci := 12) (v := .int 0) (C := RX12) (T := TX12) (N := 37) hx hb hts inlX12 hown hK hP 0 rfl rfl 15 (by decide) (hts _ qw_1036) (fun _ h9 => h9) rfl dX12_count_80 ?_
      exact W.iret (v := 0) hx hb hr (fun t ht hW => ⟨⟨0, (), rfl, (by decide), trivial⟩, hS.F ht⟩) hS.2.2 dX12_count_83
    · refine lv_tableOut (tgt := 84) hx hb dX12_count_30 h5 (by decide) ?_
      refine lv_iconst (v := (-1)) hx hb dX12_count_84 (by decide) ?_
      exact W.iret (v := (-1)) hx hb hr (fun t ht hW => ⟨⟨(-1), (), rfl, (kz_cnt_r0 hw3 c_4 h5), trivial⟩, hS.F ht⟩) hS.2.2 dX12_count_85
  · refine lv_aload_n hx hb dX12_count_12 rfl (lv_at hl 0 rfl) ?_
    refine va_get (D := (dC, dI)) (ci := 12) (v := .int 0) (C := RX12) (T := TX12) (N := 37) hx hb hts inlX12 hown hK hP 0 rfl rfl 13 (by decide) (hts _ qw_602) (fun _ h9 => h9) rfl dX12_count_13 ?_
    refine lv_if_eq (tgt := 27) hx hb dX12_count_16 (by decide) (fun _ => ?_) (fun c9 => absurd (by decide) c9)
    refine lv_iconst (v := 0) hx hb dX12_count_27 (by decide) ?_
    exact W.iret (v := 0) hx hb hr (fun t ht hW => ⟨⟨0, (), rfl, (kz_cnt_r1 hw3 c_4), trivial⟩, hS.F ht⟩) hS.2.2 dX12_count_28
set_option maxHeartbeats 4000000 in
set_option maxRecDepth 100000 in
/-- puts(v): four bytes more -/
theorem c_X12_puts (l : Launch) (dC : Nat → ClassId) (dI : Nat → Nat → Nat) (z : Nat) (tm : Nat) (a9 : Nat) (nw : Nat) (a11 : Nat) (a12 : Nat) (a16 : Nat) (a17 : Nat) (a18 : Nat) (a19 : Nat) (a20 : Nat) (a21 : Nat) (a22 : Nat) (a23 : Nat) (a24 : Nat) (a25 : Nat) (a26 : Nat) (a28 : Nat) (a29 : Nat) (a30 : Nat) (a31 : Nat) (a32 : Nat) (a33 : Nat) (a35 : Nat) (a36 : Nat) (cM : ClassId) (f0 : Nat → Int32) (n : Nat) (p1 : Int32) (hn : n + 4 ≤ 300) (sz : Nat) : Met l yX12_puts (Cond.code yX12_puts cX12_puts 3 none :: wsU) ({ frames := 0, cells := 0, slots := 0, locals := 0 }) (va_Pc [.ref z, .int p1] (kz_B (dC, dI) sz [(z, .inr (12, [.ref tm, .int (nI n), .int 0, .int 0, .int 0, .int 0, .int 0, .int 0, .int 0, .ref a9, .ref nw, .ref a11, .ref a12, .int 0, .int 0, .int 0, .ref a16, .ref a17, .ref a18, .ref a19, .ref a20, .ref a21, .ref a22, .ref a23, .ref a24, .ref a25, .ref a26, .int 0, .ref a28, .ref a29, .ref a30, .ref a31, .ref a32, .ref a33, .int 0, .ref a35, .ref a36])), (tm, .inl (cM, 300, .inl f0))] [(cM, .byte)])) (va_Qv (fun (_ : Nat → Int32) => True) (fun (u : Nat → Int32) t => match u with | g => kz_E (dC, dI) (va_A [(z, .inr (12, [.ref tm, .int (nI n), .int 0, .int 0, .int 0, .int 0, .int 0, .int 0, .int 0, .ref a9, .ref nw, .ref a11, .ref a12, .int 0, .int 0, .int 0, .ref a16, .ref a17, .ref a18, .ref a19, .ref a20, .ref a21, .ref a22, .ref a23, .ref a24, .ref a25, .ref a26, .int 0, .ref a28, .ref a29, .ref a30, .ref a31, .ref a32, .ref a33, .int 0, .ref a35, .ref a36])), (tm, .inl (cM, 300, .inl f0))] sz) [(z, .inr (12, [.ref tm, .int (nI (n + 4)), .int 0, .int 0, .int 0, .int 0, .int 0, .int 0, .int 0, .ref a9, .ref nw, .ref a11, .ref a12, .int 0, .int 0, .int 0, .ref a16, .ref a17, .ref a18, .ref a19, .ref a20, .ref a21, .ref a22, .ref a23, .ref a24, .ref a25, .ref a26, .int 0, .ref a28, .ref a29, .ref a30, .ref a31, .ref a32, .ref a33, .int 0, .ref a35, .ref a36])), (tm, .inl (cM, 300, .inl g))] [(cM, .byte)] t) (va_A [(z, .inr (12, [.ref tm, .int (nI n), .int 0, .int 0, .int 0, .int 0, .int 0, .int 0, .int 0, .ref a9, .ref nw, .ref a11, .ref a12, .int 0, .int 0, .int 0, .ref a16, .ref a17, .ref a18, .ref a19, .ref a20, .ref a21, .ref a22, .ref a23, .ref a24, .ref a25, .ref a26, .int 0, .ref a28, .ref a29, .ref a30, .ref a31, .ref a32, .ref a33, .int 0, .ref a35, .ref a36])), (tm, .inl (cM, 300, .inl f0))] sz)) 0 0 (va_A [(z, .inr (12, [.ref tm, .int (nI n), .int 0, .int 0, .int 0, .int 0, .int 0, .int 0, .int 0, .ref a9, .ref nw, .ref a11, .ref a12, .int 0, .int 0, .int 0, .ref a16, .ref a17, .ref a18, .ref a19, .ref a20, .ref a21, .ref a22, .ref a23, .ref a24, .ref a25, .ref a26, .int 0, .ref a28, .ref a29, .ref a30, .ref a31, .ref a32, .ref a33, .int 0, .ref a35, .ref a36])), (tm, .inl (cM, 300, .inl f0))] sz) := by
  refine Met.ofW (cc := cX12_puts) (maxL := 3) (ret := none) (by decide) rfl ?_
  intro p e s m args below meth c s₁ B hml hv
  obtain ⟨rfl, hsz, hP, hK, hD0⟩ := hv
  have hx := B.exec
  have hb := B.bytes
  have hr := B.returns
  have hts := atoms_spec (ws := (Cond.code yX12_puts cX12_puts 3 none :: wsU)) B.pre
  have hts : ∀ w ∈ wsU, w.before _ s = true := fun w h => hts w (List.mem_cons_of_mem _ h)
  have hown : s.vm.findClass RX12 = some m.cls := findClass_of_methodNamed B.named
  have hlocks := B.notSynchronized
  subst hsz
  have hD := hD0.self (sz := s.heap.size)
  generalize hAe : va_A [(z, .inr (12, [.ref tm, .int (nI n), .int 0, .int 0, .int 0, .int 0, .int 0, .int 0, .int 0, .ref a9, .ref nw, .ref a11, .ref a12, .int 0, .int 0, .int 0, .ref a16, .ref a17, .ref a18, .ref a19, .ref a20, .ref a21, .ref a22, .ref a23, .ref a24, .ref a25, .ref a26, .int 0, .ref a28, .ref a29, .ref a30, .ref a31, .ref a32, .ref a33, .int 0, .ref a35, .ref a36])), (tm, .inl (cM, 300, .inl f0))] s.heap.size = A at hD ⊢
  have hA : ∀ q : Nat, s.heap.size ≤ q → A q := fun q h => by rw [← hAe]; exact Or.inr h
  have hS : va_S A s.heap s.heap [] := va_S.rf
  have hP : va_P (dC, dI) vwCl [(z, .inr (12, [.ref tm, .int (nI n), .int 0, .int 0, .int 0, .int 0, .int 0, .int 0, .int 0, .ref a9, .ref nw, .ref a11, .ref a12, .int 0, .int 0, .int 0, .ref a16, .ref a17, .ref a18, .ref a19, .ref a20, .ref a21, .ref a22, .ref a23, .ref a24, .ref a25, .ref a26, .int 0, .ref a28, .ref a29, .ref a30, .ref a31, .ref a32, .ref a33, .int 0, .ref a35, .ref a36])), (tm, .inl (cM, 300, .inl f0))] s.heap := hP
  have hl := lv_entry ([.ref z, .int p1]) (n := 3) (Nat.le_of_ble_eq_true rfl)
  rw [lg_entry_eq]
  generalize (lg_sl ([.ref z, .int p1]) ++ List.replicate (3 - (lg_sl ([.ref z, .int p1])).length) Slot.unset).toArray = ls at hl ⊢
  have hl : lv_has ls 3 [(0, .ref z), (1, .int p1)] := hl
  refine lv_bipush (v := 24) hx hb dX12_puts_0 (by decide) ?_
  refine lv_istore_n (lv' := [(2, .int 24), (0, .ref z), (1, .int p1)]) hx hb dX12_puts_2 rfl hl (by decide) rfl (fun ls hl => ?_)
  refine lv_iload_n hx hb dX12_puts_3 rfl (lv_at hl 0 rfl) ?_
  refine lv_if_lt (tgt := 36) hx hb dX12_puts_4 (by decide) (fun c9 => absurd c9 (by decide)) (fun _ => ?_)
  refine lv_aload_n hx hb dX12_puts_7 rfl (lv_at hl 1 rfl) ?_
  refine va_get (D := (dC, dI)) (ci := 12) (v := .ref tm) (C := RX12) (T := TX12) (N := 37) hx hb hts inlX12 hown hK hP 0 rfl rfl 0 (by decide) (hts _ qw_157) (fun _ h9 => h9) rfl dX12_puts_8 ?_
  refine lv_aload_n hx hb dX12_puts_11 rfl (lv_at hl 1 rfl) ?_
  refine va_get (D := (dC, dI)) (ci := 12) (v := .int (nI n)) (C := RX12) (T := TX12) (N := 37) hx hb hts inlX12 hown hK hP 0 rfl rfl 1 (by decide) (hts _ qw_199) (fun _ h9 => h9) rfl dX12_puts_12 ?_
  refine lv_iload_n hx hb dX12_puts_15 rfl (lv_at hl 2 rfl) ?_
  refine lv_iload_n hx hb dX12_puts_16 rfl (lv_at hl 0 rfl) ?_
  refine lv_ishr hx hb dX12_puts_17 ?_
  refine lv_i2b (v := ((p1 >>> (24 &&& 31))).toInt8.toInt32) hx hb dX12_puts_18 rfl ?_
  refine va_bast hx hb hK hP hD hS 1 0 rfl rfl (i := (nI n)) (x := ((p1 >>> (24 &&& 31))).toInt8.toInt32) (vp_in_nI (by omega) (by decide)) dX12_puts_19 (fun H locs hP hD hS => ?_)
  generalize hf9 : upd f0 _ _ = f1 at hP hD
  have hP : va_P (dC, dI) vwCl [(z, .inr (12, [.ref tm, .int (nI n), .int 0, .int 0, .int 0, .int 0, .int 0, .int 0, .int 0, .ref a9, .ref nw, .ref a11, .ref a12, .int 0, .int 0, .int 0, .ref a16, .ref a17, .ref a18, .ref a19, .ref a20, .ref a21, .ref a22, .ref a23, .ref a24, .ref a25, .ref a26, .int 0, .ref a28, .ref a29, .ref a30, .ref a31, .ref a32, .ref a33, .int 0, .ref a35, .ref a36])), (tm, .inl (cM, 300, .inl f1))] H := hP
  have hD : va_D A [(z, .inr (12, [.ref tm, .int (nI n), .int 0, .int 0, .int 0, .int 0, .int 0, .int 0, .int 0, .ref a9, .ref nw, .ref a11, .ref a12, .int 0, .int 0, .int 0, .ref a16, .ref a17, .ref a18, .ref a19, .ref a20, .ref a21, .ref a22, .ref a23, .ref a24, .ref a25, .ref a26, .int 0, .ref a28, .ref a29, .ref a30, .ref a31, .ref a32, .ref a33, .int 0, .ref a35, .ref a36])), (tm, .inl (cM, 300, .inl f1))] := hD
  refine lv_aload_n hx hb dX12_puts_20 rfl (lv_at hl 1 rfl) ?_
  refine lv_dup hx hb dX12_puts_21 rfl ?_
  refine va_get (D := (dC, dI)) (ci := 12) (v := .int (nI n)) (C := RX12) (T := TX12) (N := 37) hx hb hts inlX12 hown hK hP 0 rfl rfl 1 (by decide) (hts _ qw_199) (fun _ h9 => h9) rfl dX12_puts_22 ?_
  refine lv_iconst (v := 1) hx hb dX12_puts_25 (by decide) ?_
  refine lv_iadd hx hb dX12_puts_26 ?_
  refine kz_topi (y := (nI (n + 1))) (nI_1 n) ?_
  refine va_put (D := (dC, dI)) (ci := 12) (v := .int (nI (n + 1))) (ty := .int) (C := RX12) (T := TX12) (N := 37) hx hb hts inlX12 tyX12 tyX12_ok nmX12 hown hK hP hD hS 0 rfl rfl 1 (by decide) (hts _ qw_199) (fun _ h9 => h9) rfl (by decide +kernel) rfl rfl (Nat.le_of_ble_eq_true rfl) dX12_puts_27 (fun H locs hP hD hS => ?_)
  have hP : va_P (dC, dI) vwCl [(z, .inr (12, [.ref tm, .int (nI (n + 1)), .int 0, .int 0, .int 0, .int 0, .int 0, .int 0, .int 0, .ref a9, .ref nw, .ref a11, .ref a12, .int 0, .int 0, .int 0, .ref a16, .ref a17, .ref a18, .ref a19, .ref a20, .ref a21, .ref a22, .ref a23, .ref a24, .ref a25, .ref a26, .int 0, .ref a28, .ref a29, .ref a30, .ref a31, .ref a32, .ref a33, .int 0, .ref a35, .ref a36])), (tm, .inl (cM, 300, .inl f1))] H := hP
  have hD : va_D A [(z, .inr (12, [.ref tm, .int (nI (n + 1)), .int 0, .int 0, .int 0, .int 0, .int 0, .int 0, .int 0, .ref a9, .ref nw, .ref a11, .ref a12, .int 0, .int 0, .int 0, .ref a16, .ref a17, .ref a18, .ref a19, .ref a20, .ref a21, .ref a22, .ref a23, .ref a24, .ref a25, .ref a26, .int 0, .ref a28, .ref a29, .ref a30, .ref a31, .ref a32, .ref a33, .int 0, .ref a35, .ref a36])), (tm, .inl (cM, 300, .inl f1))] := hD
  refine lv_iinc (v := 16) (lv' := [(2, .int 16), (0, .ref z), (1, .int p1)]) hx hb dX12_puts_30 hl (k := 0) rfl (by decide) (by decide) rfl (fun ls hl => ?_)
  refine lv_goto (tgt := 3) hx hb dX12_puts_33 (by decide) ?_
  refine lv_iload_n hx hb dX12_puts_3 rfl (lv_at hl 0 rfl) ?_
  refine lv_if_lt (tgt := 36) hx hb dX12_puts_4 (by decide) (fun c9 => absurd c9 (by decide)) (fun _ => ?_)
  refine lv_aload_n hx hb dX12_puts_7 rfl (lv_at hl 1 rfl) ?_
  refine va_get (D := (dC, dI)) (ci := 12) (v := .ref tm) (C := RX12) (T := TX12) (N := 37) hx hb hts inlX12 hown hK hP 0 rfl rfl 0 (by decide) (hts _ qw_157) (fun _ h9 => h9) rfl dX12_puts_8 ?_
  refine lv_aload_n hx hb dX12_puts_11 rfl (lv_at hl 1 rfl) ?_
  refine va_get (D := (dC, dI)) (ci := 12) (v := .int (nI (n + 1))) (C := RX12) (T := TX12) (N := 37) hx hb hts inlX12 hown hK hP 0 rfl rfl 1 (by decide) (hts _ qw_199) (fun _ h9 => h9) rfl dX12_puts_12 ?_
  refine lv_iload_n hx hb dX12_puts_15 rfl (lv_at hl 2 rfl) ?_
  refine lv_iload_n hx hb dX12_puts_16 rfl (lv_at hl 0 rfl) ?_
  refine lv_ishr hx hb dX12_puts_17 ?_
  refine lv_i2b (v := ((p1 >>> (16 &&& 31))).toInt8.toInt32) hx hb dX12_puts_18 rfl ?_
  refine va_bast hx hb hK hP hD hS 1 0 rfl rfl (i := (nI (n + 1))) (x := ((p1 >>> (16 &&& 31))).toInt8.toInt32) (vp_in_nI (by omega) (by decide)) dX12_puts_19 (fun H locs hP hD hS => ?_)
  generalize hf9 : upd f1 _ _ = f2 at hP hD
  have hP : va_P (dC, dI) vwCl [(z, .inr (12, [.ref tm, .int (nI (n + 1)), .int 0, .int 0, .int 0, .int 0, .int 0, .int 0, .int 0, .ref a9, .ref nw, .ref a11, .ref a12, .int 0, .int 0, .int 0, .ref a16, .ref a17, .ref a18, .ref a19, .ref a20, .ref a21, .ref a22, .ref a23, .ref a24, .ref a25, .ref a26, .int 0, .ref a28, .ref a29, .ref a30, .ref a31, .ref a32, .ref a33, .int 0, .ref a35, .ref a36])), (tm, .inl (cM, 300, .inl f2))] H := hP
  have hD : va_D A [(z, .inr (12, [.ref tm, .int (nI (n + 1)), .int 0, .int 0, .int 0, .int 0, .int 0, .int 0, .int 0, .ref a9, .ref nw, .ref a11, .ref a12, .int 0, .int 0, .int 0, .ref a16, .ref a17, .ref a18, .ref a19, .ref a20, .ref a21, .ref a22, .ref a23, .ref a24, .ref a25, .ref a26, .int 0, .ref a28, .ref a29, .ref a30, .ref a31, .ref a32, .ref a33, .int 0, .ref a35, .ref a36])), (tm, .inl (cM, 300, .inl f2))] := hD
  refine lv_aload_n hx hb dX12_puts_20 rfl (lv_at hl 1 rfl) ?_
  refine lv_dup hx hb dX12_puts_21 rfl ?_
  refine va_get (D := (dC, dI)) (ci := 12) (v := .int (nI (n + 1))) (C := RX12) (T := TX12) (N := 37) hx hb hts inlX12 hown hK hP 0 rfl rfl 1 (by decide) (hts _ qw_199) (fun _ h9 => h9) rfl dX12_puts_22 ?_
  refine lv_iconst (v := 1) hx hb dX12_puts_25 (by decide) ?_
  refine lv_iadd hx hb dX12_puts_26 ?_
  refine kz_topi (y := (nI (n + 2))) (nI_1 (n + 1)) ?_
  refine va_put (D := (dC, dI)) (ci := 12) (v := .int (nI (n + 2))) (ty := .int) (C := RX12) (T := TX12) (N := 37) hx hb hts inlX12 tyX12 tyX12_ok nmX12 hown hK hP hD hS 0 rfl rfl 1 (by decide) (hts _ qw_199) (fun _ h9 => h9) rfl (by decide +kernel) rfl rfl (Nat.le_of_ble_eq_true rfl) dX12_puts_27 (fun H locs hP hD hS => ?_)
  have hP : va_P (dC, dI) vwCl [(z, .inr (12, [.ref tm, .int (nI (n + 2)), .int 0, .int 0, .int 0, .int 0, .int 0, .int 0, .int 0, .ref a9, .ref nw, .ref a11, .ref a12, .int 0, .int 0, .int 0, .ref a16, .ref a17, .ref a18, .ref a19, .ref a20, .ref a21, .ref a22, .ref a23, .ref a24, .ref a25, .ref a26, .int 0, .ref a28, .ref a29, .ref a30, .ref a31, .ref a32, .ref a33, .int 0, .ref a35, .ref a36])), (tm, .inl (cM, 300, .inl f2))] H := hP
  have hD : va_D A [(z, .inr (12, [.ref tm, .int (nI (n + 2)), .int 0, .int 0, .int 0, .int 0, .int 0, .int 0, .int 0, .ref a9, .ref nw, .ref a11, .ref a12, .int 0, .int 0, .int 0, .ref a16, .ref a17, .ref a18, .ref a19, .ref a20, .ref a21, .ref a22, .ref a23, .ref a24, .ref a25, .ref a26, .int 0, .ref a28, .ref a29, .ref a30, .ref a31, .ref a32, .ref a33, .int 0, .ref a35, .ref a36])), (tm, .inl (cM, 300, .inl f2))] := hD
  refine lv_iinc (v := 8) (lv' := [(2, .int 8), (0, .ref z), (1, .int p1)]) hx hb dX12_puts_30 hl (k := 0) rfl (by decide) (by decide) rfl (fun ls hl => ?_)
  refine lv_goto (tgt := 3) hx hb dX12_puts_33 (by decide) ?_
  refine lv_iload_n hx hb dX12_puts_3 rfl (lv_at hl 0 rfl) ?_
  refine lv_if_lt (tgt := 36) hx hb dX12_puts_4 (by decide) (fun c9 => absurd c9 (by decide)) (fun _ => ?_)
  refine lv_aload_n hx hb dX12_puts_7 rfl (lv_at hl 1 rfl) ?_
  refine va_get (D := (dC, dI)) (ci := 12) (v := .ref tm) (C := RX12) (T := TX12) (N := 37) hx hb hts inlX12 hown hK hP 0 rfl rfl 0 (by decide) (hts _ qw_157) (fun _ h9 => h9) rfl dX12_puts_8 ?_
  refine lv_aload_n hx hb dX12_puts_11 rfl (lv_at hl 1 rfl) ?_
  refine va_get (D := (dC, dI)) (ci := 12) (v := .int (nI (n + 2))) (C := RX12) (T := TX12) (N := 37) hx hb hts inlX12 hown hK hP 0 rfl rfl 1 (by decide) (hts _ qw_199) (fun _ h9 => h9) rfl dX12_puts_12 ?_
  refine lv_iload_n hx hb dX12_puts_15 rfl (lv_at hl 2 rfl) ?_
  refine lv_iload_n hx hb dX12_puts_16 rfl (lv_at hl 0 rfl) ?_
  refine lv_ishr hx hb dX12_puts_17 ?_
  refine lv_i2b (v := ((p1 >>> (8 &&& 31))).toInt8.toInt32) hx hb dX12_puts_18 rfl ?_
  refine va_bast hx hb hK hP hD hS 1 0 rfl rfl (i := (nI (n + 2))) (x := ((p1 >>> (8 &&& 31))).toInt8.toInt32) (vp_in_nI (by omega) (by decide)) dX12_puts_19 (fun H locs hP hD hS => ?_)
  generalize hf9 : upd f2 _ _ = f3 at hP hD
  have hP : va_P (dC, dI) vwCl [(z, .inr (12, [.ref tm, .int (nI (n + 2)), .int 0, .int 0, .int 0, .int 0, .int 0, .int 0, .int 0, .ref a9, .ref nw, .ref a11, .ref a12, .int 0, .int 0, .int 0, .ref a16, .ref a17, .ref a18, .ref a19, .ref a20, .ref a21, .ref a22, .ref a23, .ref a24, .ref a25, .ref a26, .int 0, .ref a28, .ref a29, .ref a30, .ref a31, .ref a32, .ref a33, .int 0, .ref a35, .ref a36])), (tm, .inl (cM, 300, .inl f3))] H := hP
  have hD : va_D A [(z, .inr (12, [.ref tm, .int (nI (n + 2)), .int 0, .int 0, .int 0, .int 0, .int 0, .int 0, .int 0, .ref a9, .ref nw, .ref a11, .ref a12, .int 0, .int 0, .int 0, .ref a16, .ref a17, .ref a18, .ref a19, .ref a20, .ref a21, .ref a22, .ref a23, .ref a24, .ref a25, .ref a26, .int 0, .ref a28, .ref a29, .ref a30, .ref a31, .ref a32, .ref a33, .int 0, .ref a35, .ref a36])), (tm, .inl (cM, 300, .inl f3))] := hD
  refine lv_aload_n hx hb dX12_puts_20 rfl (lv_at hl 1 rfl) ?_
  refine lv_dup hx hb dX12_puts_21 rfl ?_
  refine va_get (D := (dC, dI)) (ci := 12) (v := .int (nI (n + 2))) (C := RX12) (T := TX12) (N := 37) hx hb hts inlX12 hown hK hP 0 rfl rfl 1 (by decide) (hts _ qw_199) (fun _ h9 => h9) rfl dX12_puts_22 ?_
  refine lv_iconst (v := 1) hx hb dX12_puts_25 (by decide) ?_
  refine lv_iadd hx hb dX12_puts_26 ?_
  refine kz_topi (y := (nI (n + 3))) (nI_1 (n + 2)) ?_
  refine va_put (D := (dC, dI)) (ci := 12) (v := .int (nI (n + 3))) (ty := .int) (C := RX12) (T := TX12) (N := 37) hx hb hts inlX12 tyX12 tyX12_ok nmX12 hown hK hP hD hS 0 rfl rfl 1 (by decide) (hts _ qw_199) (fun _ h9 => h9) rfl (by decide +kernel) rfl rfl (Nat.le_of_ble_eq_true rfl) dX12_puts_27 (fun H locs hP hD hS => ?_)
  have hP : va_P (dC, dI) vwCl [(z, .inr (12, [.ref tm, .int (nI (n + 3)), .int 0, .int 0, .int 0, .int 0, .int 0, .int 0, .int 0, .ref a9, .ref nw, .ref a11, .ref a12, .int 0, .int 0, .int 0, .ref a16, .ref a17, .ref a18, .ref a19, .ref a20, .ref a21, .ref a22, .ref a23, .ref a24, .ref a25, .ref a26, .int 0, .ref a28, .ref a29, .ref a30, .ref a31, .ref a32, .ref a33, .int 0, .ref a35, .ref a36])), (tm, .inl (cM, 300, .inl f3))] H := hP
  have hD : va_D A [(z, .inr (12, [.ref tm, .int (nI (n + 3)), .int 0, .int 0, .int 0, .int 0, .int 0, .int 0, .int 0, .ref a9, .ref nw, .ref a11, .ref a12, .int 0, .int 0, .int 0, .ref a16, .ref a17, .ref a18, .ref a19, .ref a20, .ref a21, .ref a22, .ref a23, .ref a24, .ref a25, .ref a26, .int 0, .ref a28, .ref a29, .ref a30, .ref a31, .ref a32, .ref a33, .int 0, .ref a35, .ref a36])), (tm, .inl (cM, 300, .inl f3))] := hD
  refine lv_iinc (v := 0) (lv' := [(2, .int 0), (0, .ref z), (1, .int p1)]) hx hb dX12_puts_30 hl (k := 0) rfl (by decide) (by decide) rfl (fun ls hl => ?_)
  refine lv_goto (tgt := 3) hx hb dX12_puts_33 (by decide) ?_
  refine lv_iload_n hx hb dX12_puts_3 rfl (lv_at hl 0 rfl) ?_
  refine lv_if_lt (tgt := 36) hx hb dX12_puts_4 (by decide) (fun c9 => absurd c9 (by decide)) (fun _ => ?_)
  refine lv_aload_n hx hb dX12_puts_7 rfl (lv_at hl 1 rfl) ?_
  refine va_get (D := (dC, dI)) (ci := 12) (v := .ref tm) (C := RX12) (T := TX12) (N := 37) hx hb hts inlX12 hown hK hP 0 rfl rfl 0 (by decide) (hts _ qw_157) (fun _ h9 => h9) rfl dX12_puts_8 ?_
  refine lv_aload_n hx hb dX12_puts_11 rfl (lv_at hl 1 rfl) ?_
  refine va_get (D := (dC, dI)) (ci := 12) (v := .int (nI (n + 3))) (C := RX12) (T := TX12) (N := 37) hx hb hts inlX12 hown hK hP 0 rfl rfl 1 (by decide) (hts _ qw_199) (fun _ h9 => h9) rfl dX12_puts_12 ?_
  refine lv_iload_n hx hb dX12_puts_15 rfl (lv_at hl 2 rfl) ?_
  refine lv_iload_n hx hb dX12_puts_16 rfl (lv_at hl 0 rfl) ?_
  refine lv_ishr hx hb dX12_puts_17 ?_
  refine lv_i2b (v := ((p1 >>> (0 &&& 31))).toInt8.toInt32) hx hb dX12_puts_18 rfl ?_
  refine va_bast hx hb hK hP hD hS 1 0 rfl rfl (i := (nI (n + 3))) (x := ((p1 >>> (0 &&& 31))).toInt8.toInt32) (vp_in_nI (by omega) (by decide)) dX12_puts_19 (fun H locs hP hD hS => ?_)
  generalize hf9 : upd f3 _ _ = f4 at hP hD
  have hP : va_P (dC, dI) vwCl [(z, .inr (12, [.ref tm, .int (nI (n + 3)), .int 0, .int 0, .int 0, .int 0, .int 0, .int 0, .int 0, .ref a9, .ref nw, .ref a11, .ref a12, .int 0, .int 0, .int 0, .ref a16, .ref a17, .ref a18, .ref a19, .ref a20, .ref a21, .ref a22, .ref a23, .ref a24, .ref a25, .ref a26, .int 0, .ref a28, .ref a29, .ref a30, .ref a31, .ref a32, .ref a33, .int 0, .ref a35, .ref a36])), (tm, .inl (cM, 300, .inl f4))] H := hP
  have hD : va_D A [(z, .inr (12, [.ref tm, .int (nI (n + 3)), .int 0, .int 0, .int 0, .int 0, .int 0, .int 0, .int 0, .ref a9, .ref nw, .ref a11, .ref a12, .int 0, .int 0, .int 0, .ref a16, .ref a17, .ref a18, .ref a19, .ref a20, .ref a21, .ref a22, .ref a23, .ref a24, .ref a25, .ref a26, .int 0, .ref a28, .ref a29, .ref a30, .ref a31, .ref a32, .ref a33, .int 0, .ref a35, .ref a36])), (tm, .inl (cM, 300, .inl f4))] := hD
  refine lv_aload_n hx hb dX12_puts_20 rfl (lv_at hl 1 rfl) ?_
  refine lv_dup hx hb dX12_puts_21 rfl ?_
  refine va_get (D := (dC, dI)) (ci := 12) (v := .int (nI (n + 3))) (C := RX12) (T := TX12) (N := 37) hx hb hts inlX12 hown hK hP 0 rfl rfl 1 (by decide) (hts _ qw_199) (fun _ h9 => h9) rfl dX12_puts_22 ?_
  refine lv_iconst (v := 1) hx hb dX12_puts_25 (by decide) ?_
  refine lv_iadd hx hb dX12_puts_26 ?_
  refine kz_topi (y := (nI (n + 4))) (nI_1 (n + 3)) ?_
  refine va_put (D := (dC, dI)) (ci := 12) (v := .int (nI (n + 4))) (ty := .int) (C := RX12) (T := TX12) (N := 37) hx hb hts inlX12 tyX12 tyX12_ok nmX12 hown hK hP hD hS 0 rfl rfl 1 (by decide) (hts _ qw_199) (fun _ h9 => h9) rfl (by decide +kernel) rfl rfl (Nat.le_of_ble_eq_true rfl) dX12_puts_27 (fun H locs hP hD hS => ?_)
  have hP : va_P (dC, dI) vwCl [(z, .inr (12, [.ref tm, .int (nI (n + 4)), .int 0, .int 0, .int 0, .int 0, .int 0, .int 0, .int 0, .ref a9, .ref nw, .ref a11, .ref a12, .int 0, .int 0, .int 0, .ref a16, .ref a17, .ref a18, .ref a19, .ref a20, .ref a21, .ref a22, .ref a23, .ref a24, .ref a25, .ref a26, .int 0, .ref a28, .ref a29, .ref a30, .ref a31, .ref a32, .ref a33, .int 0, .ref a35, .ref a36])), (tm, .inl (cM, 300, .inl f4))] H := hP
  have hD : va_D A [(z, .inr (12, [.ref tm, .int (nI (n + 4)), .int 0, .int 0, .int 0, .int 0, .int 0, .int 0, .int 0, .ref a9, .ref nw, .ref a11, .ref a12, .int 0, .int 0, .int 0, .ref a16, .ref a17, .ref a18, .ref a19, .ref a20, .ref a21, .ref a22, .ref a23, .ref a24, .ref a25, .ref a26, .int 0, .ref a28, .ref a29, .ref a30, .ref a31, .ref a32, .ref a33, .int 0, .ref a35, .ref a36])), (tm, .inl (cM, 300, .inl f4))] := hD
  refine lv_iinc (v := (-8)) (lv' := [(2, .int (-8)), (0, .ref z), (1, .int p1)]) hx hb dX12_puts_30 hl (k := 0) rfl (by decide) (by decide) rfl (fun ls hl => ?_)
  refine lv_goto (tgt := 3) hx hb dX12_puts_33 (by decide) ?_
  refine lv_iload_n hx hb dX12_puts_3 rfl (lv_at hl 0 rfl) ?_
  refine lv_if_lt (tgt := 36) hx hb dX12_puts_4 (by decide) (fun _ => ?_) (fun c9 => absurd (by decide) c9)
  have hP9 := hP.sub (ws' := [(z, .inr (12, [.ref tm, .int (nI (n + 4)), .int 0, .int 0, .int 0, .int 0, .int 0, .int 0, .int 0, .ref a9, .ref nw, .ref a11, .ref a12, .int 0, .int 0, .int 0, .ref a16, .ref a17, .ref a18, .ref a19, .ref a20, .ref a21, .ref a22, .ref a23, .ref a24, .ref a25, .ref a26, .int 0, .ref a28, .ref a29, .ref a30, .ref a31, .ref a32, .ref a33, .int 0, .ref a35, .ref a36])), (tm, .inl (cM, 300, .inl f4))]) [0, 1] rfl
  have hD9 := hD.sub (ws' := [(z, .inr (12, [.ref tm, .int (nI (n + 4)), .int 0, .int 0, .int 0, .int 0, .int 0, .int 0, .int 0, .ref a9, .ref nw, .ref a11, .ref a12, .int 0, .int 0, .int 0, .ref a16, .ref a17, .ref a18, .ref a19, .ref a20, .ref a21, .ref a22, .ref a23, .ref a24, .ref a25, .ref a26, .int 0, .ref a28, .ref a29, .ref a30, .ref a31, .ref a32, .ref a33, .int 0, .ref a35, .ref a36])), (tm, .inl (cM, 300, .inl f4))]) [0, 1] (by decide) rfl
  have hK9 := hK.sub (tys' := [(cM, .byte)]) [0] rfl
  exact W.vret hx hb hr (fun t ht hW => ⟨⟨(f4), rfl, trivial, ⟨by rw [ht]; exact hP9, va_K.moved hW.alike hK9, hD9⟩⟩, hS.F ht⟩) hS.2.2 dX12_puts_36
set_option maxHeartbeats 4000000 in
set_option maxRecDepth 100000 in
/-- feed on a fresh object -/
theorem c_X12_feed (l : Launch) (dC : Nat → ClassId) (dI : Nat → Nat → Nat) (z : Nat) (tm : Nat) (a9 : Nat) (nw : Nat) (a11 : Nat) (a12 : Nat) (a16 : Nat) (a17 : Nat) (a18 : Nat) (a19 : Nat) (a20 : Nat) (a21 : Nat) (a22 : Nat) (a23 : Nat) (a24 : Nat) (a25 : Nat) (a26 : Nat) (a28 : Nat) (a29 : Nat) (a30 : Nat) (a31 : Nat) (a32 : Nat) (a33 : Nat) (a35 : Nat) (a36 : Nat) (cM : ClassId) (p1 : Int32) (p2 : Int32) (p3 : Int32) (p4 : Int32) (p5 : Int32) (sz : Nat) : Met l yX12_feed (Cond.code yX12_feed cX12_feed 6 (some .int) :: wsU) ({ frames := 1, cells := 0, slots := 0, locals := 22 }) (va_Pc [.ref z, .int p1, .int p2, .int p3, .int p4, .int p5] (kz_B (dC, dI) sz [(z, .inr (12, [.ref tm, .int 0, .int 0, .int 0, .int 0, .int 0, .int 0, .int 0, .int 0, .ref a9, .ref nw, .ref a11, .ref a12, .int 0, .int 0, .int 0, .ref a16, .ref a17, .ref a18, .ref a19, .ref a20, .ref a21, .ref a22, .ref a23, .ref a24, .ref a25, .ref a26, .int 0, .ref a28, .ref a29, .ref a30, .ref a31, .ref a32, .ref a33, .int 0, .ref a35, .ref a36])), (tm, .inl (cM, 300, .inl (fun _ => 0)))] [(cM, .byte)])) (va_Qi (fun (r : Int32) (_ : Unit) => r = 20) (fun _ _ => True) (va_A [(z, .inr (12, [.ref tm, .int 0, .int 0, .int 0, .int 0, .int 0, .int 0, .int 0, .int 0, .ref a9, .ref nw, .ref a11, .ref a12, .int 0, .int 0, .int 0, .ref a16, .ref a17, .ref a18, .ref a19, .ref a20, .ref a21, .ref a22, .ref a23, .ref a24, .ref a25, .ref a26, .int 0, .ref a28, .ref a29, .ref a30, .ref a31, .ref a32, .ref a33, .int 0, .ref a35, .ref a36])), (tm, .inl (cM, 300, .inl (fun _ => 0)))] sz)) 0 0 (va_A [(z, .inr (12, [.ref tm, .int 0, .int 0, .int 0, .int 0, .int 0, .int 0, .int 0, .int 0, .ref a9, .ref nw, .ref a11, .ref a12, .int 0, .int 0, .int 0, .ref a16, .ref a17, .ref a18, .ref a19, .ref a20, .ref a21, .ref a22, .ref a23, .ref a24, .ref a25, .ref a26, .int 0, .ref a28, .ref a29, .ref a30, .ref a31, .ref a32, .ref a33, .int 0, .ref a35, .ref a36])), (tm, .inl (cM, 300, .inl (fun _ => 0)))] sz) := by
  refine Met.ofW (cc := cX12_feed) (maxL := 6) (ret := (some .int)) (by decide) rfl ?_
  intro p e s m args below meth c s₁ B hml hv
  obtain ⟨rfl, hsz, hP, hK, hD0⟩ := hv
  have hx := B.exec
  have hb := B.bytes
  have hr := B.returns
  have hts := atoms_spec (ws := (Cond.code yX12_feed cX12_feed 6 (some .int) :: wsU)) B.pre
  have hts : ∀ w ∈ wsU, w.before _ s = true := fun w h => hts w (List.mem_cons_of_mem _ h)
  have hown : s.vm.findClass RX12 = some m.cls := findClass_of_methodNamed B.named
  have hlocks := B.notSynchronized
  subst hsz
  have hD := hD0.self (sz := s.heap.size)
  generalize hAe : va_A [(z, .inr (12, [.ref tm, .int 0, .int 0, .int 0, .int 0, .int 0, .int 0, .int 0, .int 0, .ref a9, .ref nw, .ref a11, .ref a12, .int 0, .int 0, .int 0, .ref a16, .ref a17, .ref a18, .ref a19, .ref a20, .ref a21, .ref a22, .ref a23, .ref a24, .ref a25, .ref a26, .int 0, .ref a28, .ref a29, .ref a30, .ref a31, .ref a32, .ref a33, .int 0, .ref a35, .ref a36])), (tm, .inl (cM, 300, .inl (fun _ => 0)))] s.heap.size = A at hD ⊢
  have hA : ∀ q : Nat, s.heap.size ≤ q → A q := fun q h => by rw [← hAe]; exact Or.inr h
  have hS : va_S A s.heap s.heap [] := va_S.rf
  have hP : va_P (dC, dI) vwCl [(z, .inr (12, [.ref tm, .int 0, .int 0, .int 0, .int 0, .int 0, .int 0, .int 0, .int 0, .ref a9, .ref nw, .ref a11, .ref a12, .int 0, .int 0, .int 0, .ref a16, .ref a17, .ref a18, .ref a19, .ref a20, .ref a21, .ref a22, .ref a23, .ref a24, .ref a25, .ref a26, .int 0, .ref a28, .ref a29, .ref a30, .ref a31, .ref a32, .ref a33, .int 0, .ref a35, .ref a36])), (tm, .inl (cM, 300, .inl (fun _ => 0)))] s.heap := hP
  have hl := lv_entry ([.ref z, .int p1, .int p2, .int p3, .int p4, .int p5]) (n := 6) (Nat.le_of_ble_eq_true rfl)
  rw [lg_entry_eq]
  generalize (lg_sl ([.ref z, .int p1, .int p2, .int p3, .int p4, .int p5]) ++ List.replicate (6 - (lg_sl ([.ref z, .int p1, .int p2, .int p3, .int p4, .int p5])).length) Slot.unset).toArray = ls at hl ⊢
  have hl : lv_has ls 6 [(0, .ref z), (1, .int p1), (2, .int p2), (3, .int p3), (4, .int p4), (5, .int p5)] := hl
  refine lv_aload_n hx hb dX12_feed_0 rfl (lv_at hl 0 rfl) ?_
  refine va_get (D := (dC, dI)) (ci := 12) (v := .int 0) (C := RX12) (T := TX12) (N := 37) hx hb hts inlX12 hown hK hP 0 rfl rfl 1 (by decide) (hts _ qw_199) (fun _ h9 => h9) rfl dX12_feed_1 ?_
  refine lv_bipush (v := 20) hx hb dX12_feed_4 (by decide) ?_
  refine lv_iadd hx hb dX12_feed_6 ?_
  refine kz_topi (y := 20) (by decide) ?_
  refine lv_sipush (v := 300) hx hb dX12_feed_7 (by decide) ?_
  refine lv_icmp_le (tgt := 15) hx hb dX12_feed_10 (by decide) (fun _ => ?_) (fun c9 => absurd (by decide) c9)
  refine lv_aload_n hx hb dX12_feed_15 rfl (lv_at hl 0 rfl) ?_
  refine lv_iload_n hx hb dX12_feed_16 rfl (lv_at hl 1 rfl) ?_
  have hPc := hP.sub (ws' := [(z, .inr (12, [.ref tm, .int (nI 0), .int 0, .int 0, .int 0, .int 0, .int 0, .int 0, .int 0, .ref a9, .ref nw, .ref a11, .ref a12, .int 0, .int 0, .int 0, .ref a16, .ref a17, .ref a18, .ref a19, .ref a20, .ref a21, .ref a22, .ref a23, .ref a24, .ref a25, .ref a26, .int 0, .ref a28, .ref a29, .ref a30, .ref a31, .ref a32, .ref a33, .int 0, .ref a35, .ref a36])), (tm, .inl (cM, 300, .inl ((fun _ => 0))))]) [0, 1] rfl
  have hDc := hD.sub (ws' := [(z, .inr (12, [.ref tm, .int (nI 0), .int 0, .int 0, .int 0, .int 0, .int 0, .int 0, .int 0, .ref a9, .ref nw, .ref a11, .ref a12, .int 0, .int 0, .int 0, .ref a16, .ref a17, .ref a18, .ref a19, .ref a20, .ref a21, .ref a22, .ref a23, .ref a24, .ref a25, .ref a26, .int 0, .ref a28, .ref a29, .ref a30, .ref a31, .ref a32, .ref a33, .int 0, .ref a35, .ref a36])), (tm, .inl (cM, 300, .inl ((fun _ => 0))))]) [0, 1] (by decide) rfl
  have hKc := hK.sub (tys' := [(cM, .byte)]) [0] rfl
  have hFc := va_free (wc := [(z, .inr (12, [.ref tm, .int (nI 0), .int 0, .int 0, .int 0, .int 0, .int 0, .int 0, .int 0, .ref a9, .ref nw, .ref a11, .ref a12, .int 0, .int 0, .int 0, .ref a16, .ref a17, .ref a18, .ref a19, .ref a20, .ref a21, .ref a22, .ref a23, .ref a24, .ref a25, .ref a26, .int 0, .ref a28, .ref a29, .ref a30, .ref a31, .ref a32, .ref a33, .int 0, .ref a35, .ref a36])), (tm, .inl (cM, 300, .inl ((fun _ => 0))))]) hD hS hA [0, 1] rfl
  refine va_callv (va_runV (As := [.int p1]) (rest := []) ⟨hx, hb, hml, hown, hts⟩ (c_X12_puts l dC dI (z) (tm) (a9) (nw) (a11) (a12) (a16) (a17) (a18) (a19) (a20) (a21) (a22) (a23) (a24) (a25) (a26) (a28) (a29) (a30) (a31) (a32) (a33) (a35) (a36) (cM) ((fun _ => 0)) (0) (p1) (by decide) s.heap.size) (cwV 1 hts (kz_gV qw_200 qw_201 qw_202 qw_5 qw_203) rfl rfl rfl (by decide +kernel) ⟨Nat.le_of_ble_eq_true rfl, Nat.le_of_ble_eq_true rfl⟩) (⟨(kz_preS hPc hKc hDc).1, (va_recv hKc hPc (ci := 12) (q0 := 0) rfl rfl), (kz_preS hPc hKc hDc).2⟩) rfl rfl hl.1 rfl (lv_room (Nat.le_of_ble_eq_true rfl)) dX12_feed_17 ⟨Nat.le_of_ble_eq_true rfl, Nat.le_of_ble_eq_true rfl⟩) hS (fun q _ h => hFc q h) hFc (fun u_2 t H1 locs ht hvm hw hB hz1 hk1 hS => ?_)
  try dsimp only at hw
  obtain ⟨g_3, rfl⟩ : ∃ z, z = u_2 := ⟨_, rfl⟩
  obtain ⟨hP1, hK1, hD1⟩ := hB
  rw [ht] at hP1
  have hK1 := va_K.moved hvm.symm hK1
  obtain ⟨hP, hD⟩ := va_join (wr := []) (w1 := [(z, .inr (12, [.ref tm, .int (nI (0 + 4)), .int 0, .int 0, .int 0, .int 0, .int 0, .int 0, .int 0, .ref a9, .ref nw, .ref a11, .ref a12, .int 0, .int 0, .int 0, .ref a16, .ref a17, .ref a18, .ref a19, .ref a20, .ref a21, .ref a22, .ref a23, .ref a24, .ref a25, .ref a26, .int 0, .ref a28, .ref a29, .ref a30, .ref a31, .ref a32, .ref a33, .int 0, .ref a35, .ref a36])), (tm, .inl (cM, 300, .inl g_3))]) hP hD [0, 1] [] rfl rfl (by decide) (by decide) hk1 hFc hP1 hD1
  have hK := (hK.sub (tys' := []) [] rfl).app hK1
  generalize H1 = H at hP hS ⊢
  have hP : va_P (dC, dI) vwCl [(z, .inr (12, [.ref tm, .int (nI (0 + 4)), .int 0, .int 0, .int 0, .int 0, .int 0, .int 0, .int 0, .ref a9, .ref nw, .ref a11, .ref a12, .int 0, .int 0, .int 0, .ref a16, .ref a17, .ref a18, .ref a19, .ref a20, .ref a21, .ref a22, .ref a23, .ref a24, .ref a25, .ref a26, .int 0, .ref a28, .ref a29, .ref a30, .ref a31, .ref a32, .ref a33, .int 0, .ref a35, .ref a36])), (tm, .inl (cM, 300, .inl g_3))] H := hP
  have hD : va_D A [(z, .inr (12, [.ref tm, .int (nI (0 + 4)), .int 0, .int 0, .int 0, .int 0, .int 0, .int 0, .int 0, .ref a9, .ref nw, .ref a11, .ref a12, .int 0, .int 0, .int 0, .ref a16, .ref a17, .ref a18, .ref a19, .ref a20, .ref a21, .ref a22, .ref a23, .ref a24, .ref a25, .ref a26, .int 0, .ref a28, .ref a29, .ref a30, .ref a31, .ref a32, .ref a33, .int 0, .ref a35, .ref a36])), (tm, .inl (cM, 300, .inl g_3))] := hD
  have hK : va_K (dC, dI) vwCl [(cM, .byte)] s := hK
  refine lv_aload_n hx hb dX12_feed_20 rfl (lv_at hl 0 rfl) ?_
  refine lv_iload_n hx hb dX12_feed_21 rfl (lv_at hl 2 rfl) ?_
  have hPc := hP.sub (ws' := [(z, .inr (12, [.ref tm, .int (nI ((0 + 4))), .int 0, .int 0, .int 0, .int 0, .int 0, .int 0, .int 0, .ref a9, .ref nw, .ref a11, .ref a12, .int 0, .int 0, .int 0, .ref a16, .ref a17, .ref a18, .ref a19, .ref a20, .ref a21, .ref a22, .ref a23, .ref a24, .ref a25, .ref a26, .int 0, .ref a28, .ref a29, .ref a30, .ref a31, .ref a32, .ref a33, .int 0, .ref a35, .ref a36])), (tm, .inl (cM, 300, .inl g_3))]) [0, 1] rfl
  have hDc := hD.sub (ws' := [(z, .inr (12, [.ref tm, .int (nI ((0 + 4))), .int 0, .int 0, .int 0, .int 0, .int 0, .int 0, .int 0, .ref a9, .ref nw, .ref a11, .ref a12, .int 0, .int 0, .int 0, .ref a16, .ref a17, .ref a18, .ref a19, .ref a20, .ref a21, .ref a22, .ref a23, .ref a24, .ref a25, .ref a26, .int 0, .ref a28, .ref a29, .ref a30, .ref a31, .ref a32, .ref a33, .int 0, .ref a35, .ref a36])), (tm, .inl (cM, 300, .inl g_3))]) [0, 1] (by decide) rfl
  have hKc := hK.sub (tys' := [(cM, .byte)]) [0] rfl
  have hFc := va_free (wc := [(z, .inr (12, [.ref tm, .int (nI ((0 + 4))), .int 0, .int 0, .int 0, .int 0, .int 0, .int 0, .int 0, .ref a9, .ref nw, .ref a11, .ref a12, .int 0, .int 0, .int 0, .ref a16, .ref a17, .ref a18, .ref a19, .ref a20, .ref a21, .ref a22, .ref a23, .ref a24, .ref a25, .ref a26, .int 0, .ref a28, .ref a29, .ref a30, .ref a31, .ref a32, .ref a33, .int 0, .ref a35, .ref a36])), (tm, .inl (cM, 300, .inl g_3))]) hD hS hA [0, 1] rfl
  refine va_callv (va_runV (As := [.int p2]) (rest := []) ⟨hx, hb, hml, hown, hts⟩ (c_X12_puts l dC dI (z) (tm) (a9) (nw) (a11) (a12) (a16) (a17) (a18) (a19) (a20) (a21) (a22) (a23) (a24) (a25) (a26) (a28) (a29) (a30) (a31) (a32) (a33) (a35) (a36) (cM) (g_3) ((0 + 4)) (p2) (by decide) H.size) (cwV 1 hts (kz_gV qw_200 qw_201 qw_202 qw_5 qw_203) rfl rfl rfl (by decide +kernel) ⟨Nat.le_of_ble_eq_true rfl, Nat.le_of_ble_eq_true rfl⟩) (⟨(kz_preS hPc hKc hDc).1, (va_recv hKc hPc (ci := 12) (q0 := 0) rfl rfl), (kz_preS hPc hKc hDc).2⟩) rfl rfl hl.1 rfl (lv_room (Nat.le_of_ble_eq_true rfl)) dX12_feed_22 ⟨Nat.le_of_ble_eq_true rfl, Nat.le_of_ble_eq_true rfl⟩) hS (fun q _ h => hFc q h) hFc (fun u_5 t H1 locs ht hvm hw hB hz1 hk1 hS => ?_)
  try dsimp only at hw
  obtain ⟨g_6, rfl⟩ : ∃ z, z = u_5 := ⟨_, rfl⟩
  obtain ⟨hP1, hK1, hD1⟩ := hB
  rw [ht] at hP1
  have hK1 := va_K.moved hvm.symm hK1
  obtain ⟨hP, hD⟩ := va_join (wr := []) (w1 := [(z, .inr (12, [.ref tm, .int (nI (((0 + 4)) + 4)), .int 0, .int 0, .int 0, .int 0, .int 0, .int 0, .int 0, .ref a9, .ref nw, .ref a11, .ref a12, .int 0, .int 0, .int 0, .ref a16, .ref a17, .ref a18, .ref a19, .ref a20, .ref a21, .ref a22, .ref a23, .ref a24, .ref a25, .ref a26, .int 0, .ref a28, .ref a29, .ref a30, .ref a31, .ref a32, .ref a33, .int 0, .ref a35, .ref a36])), (tm, .inl (cM, 300, .inl g_6))]) hP hD [0, 1] [] rfl rfl (by decide) (by decide) hk1 hFc hP1 hD1
  have hK := (hK.sub (tys' := []) [] rfl).app hK1
  generalize H1 = H at hP hS ⊢
  have hP : va_P (dC, dI) vwCl [(z, .inr (12, [.ref tm, .int (nI (((0 + 4)) + 4)), .int 0, .int 0, .int 0, .int 0, .int 0, .int 0, .int 0, .ref a9, .ref nw, .ref a11, .ref a12, .int 0, .int 0, .int 0, .ref a16, .ref a17, .ref a18, .ref a19, .ref a20, .ref a21, .ref a22, .ref a23, .ref a24, .ref a25, .ref a26, .int 0, .ref a28, .ref a29, .ref a30, .ref a31, .ref a32, .ref a33, .int 0, .ref a35, .ref a36])), (tm, .inl (cM, 300, .inl g_6))] H := hP
  have hD : va_D A [(z, .inr (12, [.ref tm, .int (nI (((0 + 4)) + 4)), .int 0, .int 0, .int 0, .int 0, .int 0, .int 0, .int 0, .ref a9, .ref nw, .ref a11, .ref a12, .int 0, .int 0, .int 0, .ref a16, .ref a17, .ref a18, .ref a19, .ref a20, .ref a21, .ref a22, .ref a23, .ref a24, .ref a25, .ref a26, .int 0, .ref a28, .ref a29, .ref a30, .ref a31, .ref a32, .ref a33, .int 0, .ref a35, .ref a36])), (tm, .inl (cM, 300, .inl g_6))] := hD
  have hK : va_K (dC, dI) vwCl [(cM, .byte)] s := hK
  refine lv_aload_n hx hb dX12_feed_25 rfl (lv_at hl 0 rfl) ?_
  refine lv_iload_n hx hb dX12_feed_26 rfl (lv_at hl 3 rfl) ?_
  have hPc := hP.sub (ws' := [(z, .inr (12, [.ref tm, .int (nI ((((0 + 4)) + 4))), .int 0, .int 0, .int 0, .int 0, .int 0, .int 0, .int 0, .ref a9, .ref nw, .ref a11, .ref a12, .int 0, .int 0, .int 0, .ref a16, .ref a17, .ref a18, .ref a19, .ref a20, .ref a21, .ref a22, .ref a23, .ref a24, .ref a25, .ref a26, .int 0, .ref a28, .ref a29, .ref a30, .ref a31, .ref a32, .ref a33, .int 0, .ref a35, .ref a36])), (tm, .inl (cM, 300, .inl g_6))]) [0, 1] rfl
  have hDc := hD.sub (ws' := [(z, .inr (12, [.ref tm, .int (nI ((((0 + 4)) + 4))), .int 0, .int 0, .int 0, .int 0, .int 0, .int 0, .int 0, .ref a9, .ref nw, .ref a11, .ref a12, .int 0, .int 0, .int 0, .ref a16, .ref a17, .ref a18, .ref a19, .ref a20, .ref a21, .ref a22, .ref a23, .ref a24, .ref a25, .ref a26, .int 0, .ref a28, .ref a29, .ref a30, .ref a31, .ref a32, .ref a33, .int 0, .ref a35, .ref a36])), (tm, .inl (cM, 300, .inl g_6))]) [0, 1] (by decide) rfl
  have hKc := hK.sub (tys' := [(cM, .byte)]) [0] rfl
  have hFc := va_free (wc := [(z, .inr (12, [.ref tm, .int (nI ((((0 + 4)) + 4))), .int 0, .int 0, .int 0, .int 0, .int 0, .int 0, .int 0, .ref a9, .ref nw, .ref a11, .ref a12, .int 0, .int 0, .int 0, .ref a16, .ref a17, .ref a18, .ref a19, .ref a20, .ref a21, .ref a22, .ref a23, .ref a24, .ref a25, .ref a26, .int 0, .ref a28, .ref a29, .ref a30, .ref a31, .ref a32, .ref a33, .int 0, .ref a35, .ref a36])), (tm, .inl (cM, 300, .inl g_6))]) hD hS hA [0, 1] rfl
  refine va_callv (va_runV (As := [.int p3]) (rest := []) ⟨hx, hb, hml, hown, hts⟩ (c_X12_puts l dC dI (z) (tm) (a9) (nw) (a11) (a12) (a16) (a17) (a18) (a19) (a20) (a21) (a22) (a23) (a24) (a25) (a26) (a28) (a29) (a30) (a31) (a32) (a33) (a35) (a36) (cM) (g_6) ((((0 + 4)) + 4)) (p3) (by decide) H.size) (cwV 1 hts (kz_gV qw_200 qw_201 qw_202 qw_5 qw_203) rfl rfl rfl (by decide +kernel) ⟨Nat.le_of_ble_eq_true rfl, Nat.le_of_ble_eq_true rfl⟩) (⟨(kz_preS hPc hKc hDc).1, (va_recv hKc hPc (ci := 12) (q0 := 0) rfl rfl), (kz_preS hPc hKc hDc).2⟩) rfl rfl hl.1 rfl (lv_room (Nat.le_of_ble_eq_true rfl)) dX12_feed_27 ⟨Nat.le_of_ble_eq_true rfl, Nat.le_of_ble_eq_true rfl⟩) hS (fun q _ h => hFc q h) hFc (fun u_8 t H1 locs ht hvm hw hB hz1 hk1 hS => ?_)
  try dsimp only at hw
  obtain ⟨g_9, rfl⟩ : ∃ z, z = u_8 := ⟨_, rfl⟩
  obtain ⟨hP1, hK1, hD1⟩ := hB
  rw [ht] at hP1
  have hK1 := va_K.moved hvm.symm hK1
  obtain ⟨hP, hD⟩ := va_join (wr := []) (w1 := [(z, .inr (12, [.ref tm, .int (nI (((((0 + 4)) + 4)) + 4)), .int 0, .int 0, .int 0, .int 0, .int 0, .int 0, .int 0, .ref a9, .ref nw, .ref a11, .ref a12, .int 0, .int 0, .int 0, .ref a16, .ref a17, .ref a18, .ref a19, .ref a20, .ref a21, .ref a22, .ref a23, .ref a24, .ref a25, .ref a26, .int 0, .ref a28, .ref a29, .ref a30, .ref a31, .ref a32, .ref a33, .int 0, .ref a35, .ref a36])), (tm, .inl (cM, 300, .inl g_9))]) hP hD [0, 1] [] rfl rfl (by decide) (by decide) hk1 hFc hP1 hD1
  have hK := (hK.sub (tys' := []) [] rfl).app hK1
  generalize H1 = H at hP hS ⊢
  have hP : va_P (dC, dI) vwCl [(z, .inr (12, [.ref tm, .int (nI (((((0 + 4)) + 4)) + 4)), .int 0, .int 0, .int 0, .int 0, .int 0, .int 0, .int 0, .ref a9, .ref nw, .ref a11, .ref a12, .int 0, .int 0, .int 0, .ref a16, .ref a17, .ref a18, .ref a19, .ref a20, .ref a21, .ref a22, .ref a23, .ref a24, .ref a25, .ref a26, .int 0, .ref a28, .ref a29, .ref a30, .ref a31, .ref a32, .ref a33, .int 0, .ref a35, .ref a36])), (tm, .inl (cM, 300, .inl g_9))] H := hP
  have hD : va_D A [(z, .inr (12, [.ref tm, .int (nI (((((0 + 4)) + 4)) + 4)), .int 0, .int 0, .int 0, .int 0, .int 0, .int 0, .int 0, .ref a9, .ref nw, .ref a11, .ref a12, .int 0, .int 0, .int 0, .ref a16, .ref a17, .ref a18, .ref a19, .ref a20, .ref a21, .ref a22, .ref a23, .ref a24, .ref a25, .ref a26, .int 0, .ref a28, .ref a29, .ref a30, .ref a31, .ref a32, .ref a33, .int 0, .ref a35, .ref a36])), (tm, .inl (cM, 300, .inl g_9))] := hD
  have hK : va_K (dC, dI) vwCl [(cM, .byte)] s := hK
  refine lv_aload_n hx hb dX12_feed_30 rfl (lv_at hl 0 rfl) ?_
  refine lv_iload hx hb dX12_feed_31 (lv_at hl 4 rfl) ?_
  have hPc := hP.sub (ws' := [(z, .inr (12, [.ref tm, .int (nI ((((((0 + 4)) + 4)) + 4))), .int 0, .int 0, .int 0, .int 0, .int 0, .int 0, .int 0, .ref a9, .ref nw, .ref a11, .ref a12, .int 0, .int 0, .int 0, .ref a16, .ref a17, .ref a18, .ref a19, .ref a20, .ref a21, .ref a22, .ref a23, .ref a24, .ref a25, .ref a26, .int 0, .ref a28, .ref a29, .ref a30, .ref a31, .ref a32, .ref a33, .int 0, .ref a35, .ref a36])), (tm, .inl (cM, 300, .inl g_9))]) [0, 1] rfl
  have hDc := hD.sub (ws' := [(z, .inr (12, [.ref tm, .int (nI ((((((0 + 4)) + 4)) + 4))), .int 0, .int 0, .int 0, .int 0, .int 0, .int 0, .int 0, .ref a9, .ref nw, .ref a11, .ref a12, .int 0, .int 0, .int 0, .ref a16, .ref a17, .ref a18, .ref a19, .ref a20, .ref a21, .ref a22, .ref a23, .ref a24, .ref a25, .ref a26, .int 0, .ref a28, .ref a29, .ref a30, .ref a31, .ref a32, .ref a33, .int 0, .ref a35, .ref a36])), (tm, .inl (cM, 300, .inl g_9))]) [0, 1] (by decide) rfl
  have hKc := hK.sub (tys' := [(cM, .byte)]) [0] rfl
  have hFc := va_free (wc := [(z, .inr (12, [.ref tm, .int (nI ((((((0 + 4)) + 4)) + 4))), .int 0, .int 0, .int 0, .int 0, .int 0, .int 0, .int 0, .ref a9, .ref nw, .ref a11, .ref a12, .int 0, .int 0, .int 0, .ref a16, .ref a17, .ref a18, .ref a19, .ref a20, .ref a21, .ref a22, .ref a23, .ref a24, .ref a25, .ref a26, .int 0, .ref a28, .ref a29, .ref a30, .ref a31, .ref a32, .ref a33, .int 0, .ref a35, .ref a36])), (tm, .inl (cM, 300, .inl g_9))]) hD hS hA [0, 1] rfl
  refine va_callv (va_runV (As := [.int p4]) (rest := []) ⟨hx, hb, hml, hown, hts⟩ (c_X12_puts l dC dI (z) (tm) (a9) (nw) (a11) (a12) (a16) (a17) (a18) (a19) (a20) (a21) (a22) (a23) (a24) (a25) (a26) (a28) (a29) (a30) (a31) (a32) (a33) (a35) (a36) (cM) (g_9) ((((((0 + 4)) + 4)) + 4)) (p4) (by decide) H.size) (cwV 1 hts (kz_gV qw_200 qw_201 qw_202 qw_5 qw_203) rfl rfl rfl (by decide +kernel) ⟨Nat.le_of_ble_eq_true rfl, Nat.le_of_ble_eq_true rfl⟩) (⟨(kz_preS hPc hKc hDc).1, (va_recv hKc hPc (ci := 12) (q0 := 0) rfl rfl), (kz_preS hPc hKc hDc).2⟩) rfl rfl hl.1 rfl (lv_room (Nat.le_of_ble_eq_true rfl)) dX12_feed_33 ⟨Nat.le_of_ble_eq_true rfl, Nat.le_of_ble_eq_true rfl⟩) hS (fun q _ h => hFc q h) hFc (fun u_11 t H1 locs ht hvm hw hB hz1 hk1 hS => ?_)
  try dsimp only at hw
  obtain ⟨g_12, rfl⟩ : ∃ z, z = u_11 := ⟨_, rfl⟩
  obtain ⟨hP1, hK1, hD1⟩ := hB
  rw [ht] at hP1
  have hK1 := va_K.moved hvm.symm hK1
  obtain ⟨hP, hD⟩ := va_join (wr := []) (w1 := [(z, .inr (12, [.ref tm, .int (nI (((((((0 + 4)) + 4)) + 4)) + 4)), .int 0, .int 0, .int 0, .int 0, .int 0, .int 0, .int 0, .ref a9, .ref nw, .ref a11, .ref a12, .int 0, .int 0, .int 0, .ref a16, .ref a17, .ref a18, .ref a19, .ref a20, .ref a21, .ref a22, .ref a23, .ref a24, .ref a25, .ref a26, .int 0, .ref a28, .ref a29, .ref a30, .ref a31, .ref a32, .ref a33, .int 0, .ref a35, .ref a36])), (tm, .inl (cM, 300, .inl g_12))]) hP hD [0, 1] [] rfl rfl (by decide) (by decide) hk1 hFc hP1 hD1
  have hK := (hK.sub (tys' := []) [] rfl).app hK1
  generalize H1 = H at hP hS ⊢
  have hP : va_P (dC, dI) vwCl [(z, .inr (12, [.ref tm, .int (nI (((((((0 + 4)) + 4)) + 4)) + 4)), .int 0, .int 0, .int 0, .int 0, .int 0, .int 0, .int 0, .ref a9, .ref nw, .ref a11, .ref a12, .int 0, .int 0, .int 0, .ref a16, .ref a17, .ref a18, .ref a19, .ref a20, .ref a21, .ref a22, .ref a23, .ref a24, .ref a25, .ref a26, .int 0, .ref a28, .ref a29, .ref a30, .ref a31, .ref a32, .ref a33, .int 0, .ref a35, .ref a36])), (tm, .inl (cM, 300, .inl g_12))] H := hP
  have hD : va_D A [(z, .inr (12, [.ref tm, .int (nI (((((((0 + 4)) + 4)) + 4)) + 4)), .int 0, .int 0, .int 0, .int 0, .int 0, .int 0, .int 0, .ref a9, .ref nw, .ref a11, .ref a12, .int 0, .int 0, .int 0, .ref a16, .ref a17, .ref a18, .ref a19, .ref a20, .ref a21, .ref a22, .ref a23, .ref a24, .ref a25, .ref a26, .int 0, .ref a28, .ref a29, .ref a30, .ref a31, .ref a32, .ref a33, .int 0, .ref a35, .ref a36])), (tm, .inl (cM, 300, .inl g_12))] := hD
  have hK : va_K (dC, dI) vwCl [(cM, .byte)] s := hK
  refine lv_aload_n hx hb dX12_feed_36 rfl (lv_at hl 0 rfl) ?_
  refine lv_iload hx hb dX12_feed_37 (lv_at hl 5 rfl) ?_
  have hPc := hP.sub (ws' := [(z, .inr (12, [.ref tm, .int (nI ((((((((0 + 4)) + 4)) + 4)) + 4))), .int 0, .int 0, .int 0, .int 0, .int 0, .int 0, .int 0, .ref a9, .ref nw, .ref a11, .ref a12, .int 0, .int 0, .int 0, .ref a16, .ref a17, .ref a18, .ref a19, .ref a20, .ref a21, .ref a22, .ref a23, .ref a24, .ref a25, .ref a26, .int 0, .ref a28, .ref a29, .ref a30, .ref a31, .ref a32, .ref a33, .int 0, .ref a35, .ref a36])), (tm, .inl (cM, 300, .inl g_12))]) [0, 1] rfl
  have hDc := hD.sub (ws' := [(z, .inr (12, [.ref tm, .int (nI ((((((((0 + 4)) + 4)) + 4)) + 4))), .int 0, .int 0, .int 0, .int 0, .int 0, .int 0, .int 0, .ref a9, .ref nw, .ref a11, .ref a12, .int 0, .int 0, .int 0, .ref a16, .ref a17, .ref a18, .ref a19, .ref a20, .ref a21, .ref a22, .ref a23, .ref a24, .ref a25, .ref a26, .int 0, .ref a28, .ref a29, .ref a30, .ref a31, .ref a32, .ref a33, .int 0, .ref a35, .ref a36])), (tm, .inl (cM, 300, .inl g_12))]) [0, 1] (by decide) rfl
  have hKc := hK.sub (tys' := [(cM, .byte)]) [0] rfl
  have hFc := va_free (wc := [(z, .inr (12, [.ref tm, .int (nI ((((((((0 + 4)) + 4)) + 4)) + 4))), .int 0, .int 0, .int 0, .int 0, .int 0, .int 0, .int 0, .ref a9, .ref nw, .ref a11, .ref a12, .int 0, .int 0, .int 0, .ref a16, .ref a17, .ref a18, .ref a19, .ref a20, .ref a21, .ref a22, .ref a23, .ref a24, .ref a25, .ref a26, .int 0, .ref a28, .ref a29, .ref a30, .ref a31, .ref a32, .ref a33, .int 0, .ref a35, .ref a36])), (tm, .inl (cM, 300, .inl g_12))]) hD hS hA [0, 1] rfl
  refine va_callv (va_runV (As := [.int p5]) (rest := []) ⟨hx, hb, hml, hown, hts⟩ (c_X12_puts l dC dI (z) (tm) (a9) (nw) (a11) (a12) (a16) (a17) (a18) (a19) (a20) (a21) (a22) (a23) (a24) (a25) (a26) (a28) (a29) (a30) (a31) (a32) (a33) (a35) (a36) (cM) (g_12) ((((((((0 + 4)) + 4)) + 4)) + 4)) (p5) (by decide) H.size) (cwV 1 hts (kz_gV qw_200 qw_201 qw_202 qw_5 qw_203) rfl rfl rfl (by decide +kernel) ⟨Nat.le_of_ble_eq_true rfl, Nat.le_of_ble_eq_true rfl⟩) (⟨(kz_preS hPc hKc hDc).1, (va_recv hKc hPc (ci := 12) (q0 := 0) rfl rfl), (kz_preS hPc hKc hDc).2⟩) rfl rfl hl.1 rfl (lv_room (Nat.le_of_ble_eq_true rfl)) dX12_feed_39 ⟨Nat.le_of_ble_eq_true rfl, Nat.le_of_ble_eq_true rfl⟩) hS (fun q _ h => hFc q h) hFc (fun u_14 t H1 locs ht hvm hw hB hz1 hk1 hS => ?_)
  try dsimp only at hw
  obtain ⟨g_15, rfl⟩ : ∃ z, z = u_14 := ⟨_, rfl⟩
  obtain ⟨hP1, hK1, hD1⟩ := hB
  rw [ht] at hP1
  have hK1 := va_K.moved hvm.symm hK1
  obtain ⟨hP, hD⟩ := va_join (wr := []) (w1 := [(z, .inr (12, [.ref tm, .int (nI (((((((((0 + 4)) + 4)) + 4)) + 4)) + 4)), .int 0, .int 0, .int 0, .int 0, .int 0, .int 0, .int 0, .ref a9, .ref nw, .ref a11, .ref a12, .int 0, .int 0, .int 0, .ref a16, .ref a17, .ref a18, .ref a19, .ref a20, .ref a21, .ref a22, .ref a23, .ref a24, .ref a25, .ref a26, .int 0, .ref a28, .ref a29, .ref a30, .ref a31, .ref a32, .ref a33, .int 0, .ref a35, .ref a36])), (tm, .inl (cM, 300, .inl g_15))]) hP hD [0, 1] [] rfl rfl (by decide) (by decide) hk1 hFc hP1 hD1
  have hK := (hK.sub (tys' := []) [] rfl).app hK1
  generalize H1 = H at hP hS ⊢
  have hP : va_P (dC, dI) vwCl [(z, .inr (12, [.ref tm, .int (nI (((((((((0 + 4)) + 4)) + 4)) + 4)) + 4)), .int 0, .int 0, .int 0, .int 0, .int 0, .int 0, .int 0, .ref a9, .ref nw, .ref a11, .ref a12, .int 0, .int 0, .int 0, .ref a16, .ref a17, .ref a18, .ref a19, .ref a20, .ref a21, .ref a22, .ref a23, .ref a24, .ref a25, .ref a26, .int 0, .ref a28, .ref a29, .ref a30, .ref a31, .ref a32, .ref a33, .int 0, .ref a35, .ref a36])), (tm, .inl (cM, 300, .inl g_15))] H := hP
  have hD : va_D A [(z, .inr (12, [.ref tm, .int (nI (((((((((0 + 4)) + 4)) + 4)) + 4)) + 4)), .int 0, .int 0, .int 0, .int 0, .int 0, .int 0, .int 0, .ref a9, .ref nw, .ref a11, .ref a12, .int 0, .int 0, .int 0, .ref a16, .ref a17, .ref a18, .ref a19, .ref a20, .ref a21, .ref a22, .ref a23, .ref a24, .ref a25, .ref a26, .int 0, .ref a28, .ref a29, .ref a30, .ref a31, .ref a32, .ref a33, .int 0, .ref a35, .ref a36])), (tm, .inl (cM, 300, .inl g_15))] := hD
  have hK : va_K (dC, dI) vwCl [(cM, .byte)] s := hK
  refine lv_aload_n hx hb dX12_feed_42 rfl (lv_at hl 0 rfl) ?_
  refine va_get (D := (dC, dI)) (ci := 12) (v := .int (nI (((((((((0 + 4)) + 4)) + 4)) + 4)) + 4))) (C := RX12) (T := TX12) (N := 37) hx hb hts inlX12 hown hK hP 0 rfl rfl 1 (by decide) (hts _ qw_199) (fun _ h9 => h9) rfl dX12_feed_43 ?_
  exact W.iret (v := (nI (((((((((0 + 4)) + 4)) + 4)) + 4)) + 4))) hx hb hr (fun t ht hW => ⟨⟨(nI (((((((((0 + 4)) + 4)) + 4)) + 4)) + 4)), (), rfl, (by decide), trivial⟩, hS.F ht⟩) hS.2.2 dX12_feed_46
