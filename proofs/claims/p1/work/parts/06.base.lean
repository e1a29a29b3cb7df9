theorem kz_good : wsU.all goodWord = true := by decide +kernel
theorem kz_sub {ws : List Cond} (h : ∀ w ∈ ws, w ∈ wsU) : GoodIn wsU ws := fun w hw => ⟨h w hw, good_of_word (List.all_eq_true.mp kz_good w (h w hw))⟩
theorem kz_g {y : MethodName} {bytes : ByteArray} {mL : Nat} {ret : Option FieldType} (h5 : Cond.code y bytes mL ret ∈ wsU) : GoodIn wsU (Cond.code y bytes mL ret :: wsU) := kz_sub (fun w hw => (List.mem_cons.mp hw).elim (fun e => e ▸ h5) id)
theorem kz_gV {own C : String} {idx : Nat} {y : MethodName} {bytes : ByteArray} {mL : Nat} {ret : Option FieldType} (h1 : Cond.methodLink own idx y ∈ wsU) (h2 : Cond.instanceMethod y ∈ wsU) (h3 : Cond.selects C y y ∈ wsU) (h4 : Cond.initialized C ∈ wsU) (h5 : Cond.code y bytes mL ret ∈ wsU) : GoodIn wsU (wsV own idx C y (Cond.code y bytes mL ret :: wsU)) := kz_sub (fun w hw => by
  simp only [wsV, List.cons_append, List.nil_append, List.mem_cons] at hw
  rcases hw with rfl | rfl | rfl | rfl | rfl | h <;> assumption)
theorem kz_gS {own : String} {idx : Nat} {y : MethodName} {bytes : ByteArray} {mL : Nat} {ret : Option FieldType} (h1 : Cond.methodLink own idx y ∈ wsU) (h2 : Cond.static y ∈ wsU) (h3 : Cond.initialized y.cls ∈ wsU) (h5 : Cond.code y bytes mL ret ∈ wsU) : GoodIn wsU (va_wsS own idx y (Cond.code y bytes mL ret :: wsU)) := kz_sub (fun w hw => by
  simp only [va_wsS, List.cons_append, List.nil_append, List.mem_cons] at hw
  rcases hw with rfl | rfl | rfl | rfl | h <;> assumption)
abbrev kz_B (D : va_G) (sz : Nat) (ws : va_W) (tys : List (ClassId × FieldType)) (U : State) : Prop := U.heap.size = sz ∧ va_P D vwCl ws U.heap ∧ va_K D vwCl tys U ∧ va_D (fun _ => True) ws
abbrev kz_E (D : va_G) (A : Nat → Prop) (ws : va_W) (tys : List (ClassId × FieldType)) (t : State) : Prop := va_P D vwCl ws t.heap ∧ va_K D vwCl tys t ∧ va_D A ws
theorem kz_P0 {D : va_G} {H : Heap} : va_P D vwCl [] H := fun k q h => by simp at h
theorem kz_D0 {A : Nat → Prop} : va_D A [] := ⟨fun i j p q h => by simp at h, fun k q h => by simp at h⟩
theorem kz_preS {s : State} {H : Heap} {D : va_G} {A : Nat → Prop} {ws : va_W} {tys : List (ClassId × FieldType)} {av : List Value} (hP : va_P D vwCl ws H) (hK : va_K D vwCl tys s) (hD : va_D A ws) : PreS s H (va_Pc av (kz_B D H.size ws tys)) av := ⟨fun a U g mk q => ⟨q.1, q.2.1, q.2.2.1, va_K.moved (u := U) (U := U.calling g mk a) (Vm.Alike.refl U.vm) q.2.2.2.1, q.2.2.2.2⟩, fun U hU hW => ⟨rfl, by rw [hU], by rw [hU]; exact hP, va_K.moved hW.alike hK, hD.weaken (fun _ _ _ _ => trivial)⟩⟩
/-- what else a constructor needs: the calls between nest mates, and the classes of rows of rows -/
def kz_Am (U : State) : Prop := va_Nw (.methodLinkNest RX1 11 yX0_init RX11) U ∧ va_Nw (.methodLinkNest RX7 18 yX0_init RX11) U ∧ va_Nw (.methodLinkNest RX6 11 yX0_init RX11) U ∧ va_Nw (.methodLinkNest RX4 20 yX0_init RX11) U ∧ va_AO RX10 U ∧ va_AOA .int U
theorem kz_Am.same {u U : State} (h : u.vm = U.vm) (q : kz_Am u) : kz_Am U := ⟨va_Nw.same rfl h q.1, va_Nw.same rfl h q.2.1, va_Nw.same rfl h q.2.2.1, va_Nw.same rfl h q.2.2.2.1, va_AO.moved (h ▸ Vm.Alike.refl u.vm) q.2.2.2.2.1, over_moved (a := #[]) (a' := #[]) (h ▸ Vm.Alike.refl u.vm) q.2.2.2.2.2⟩
theorem kz_Am.warm {s U : State} (hW : s.WarmedH U.vm) (q : kz_Am s) : kz_Am U := ⟨va_Nw.warmM hW q.1, va_Nw.warmM hW q.2.1, va_Nw.warmM hW q.2.2.1, va_Nw.warmM hW q.2.2.2.1, va_AO.moved hW.alike q.2.2.2.2.1, over_moved (a := #[]) (a' := #[]) hW.alike q.2.2.2.2.2⟩
theorem kz_preA {s : State} {H : Heap} {D : va_G} {A : Nat → Prop} {ws : va_W} {tys : List (ClassId × FieldType)} {av : List Value} (hP : va_P D vwCl ws H) (hK : va_K D vwCl tys s) (hD : va_D A ws) (hAm : kz_Am s) : PreS s H (va_Pc av (fun U => kz_B D H.size ws tys U ∧ kz_Am U)) av := ⟨fun a U g mk q => ⟨q.1, ⟨q.2.1.1, q.2.1.2.1, va_K.moved (u := U) (U := U.calling g mk a) (Vm.Alike.refl U.vm) q.2.1.2.2.1, q.2.1.2.2.2⟩, kz_Am.same (u := U) (U := U.calling g mk a) rfl q.2.2⟩, fun U hU hW => ⟨rfl, ⟨by rw [hU], by rw [hU]; exact hP, va_K.moved hW.alike hK, hD.weaken (fun _ _ _ _ => trivial)⟩, kz_Am.warm hW hAm⟩⟩
theorem kz_inner (c : ClassId) (K : Nat) : Jvm.Free.Multi.innerC c K (defaultValue .int) = vp_cell c (K, .inl (fun _ => 0)) := by
  rw [vp_cell_i]
  first | rfl | exact (arrV_new ..).symm | exact arrV_new ..
section KZ
variable {p : Program} {l : Launch} {e : Env} {R : Room} {s : State} {m : MethodId} {args : Array Value} {below : List Frame} {meth : Method} {c : Code} {H : Heap} {locs : List Loc} {cells slots : Nat} {Q : State → Prop} {pc : Nat} {ls : Array Slot} {rest : List Value}
theorem kz_topi {x y : Int32} (h : x = y) (k : W p l e R s m args below meth c H locs cells slots Q (F0 m pc ls (.int y :: rest))) : W p l e R s m args below meth c H locs cells slots Q (F0 m pc ls (.int x :: rest)) := by subst h; exact k
end KZ
theorem dfX0 : ∀ j, j < 4 → defaultValue (tyX0 j) = vp_V [.int 0, .int 0, .int 0, .int 0] j := by decide +kernel
theorem dfX1 : ∀ j, j < 10 → defaultValue (tyX1 j) = vp_V [.null, .null, .null, .null, .int 0, .int 0, .int 0, .int 0, .int 0, .int 0] j := by decide +kernel
theorem dfX2 : ∀ j, j < 8 → defaultValue (tyX2 j) = vp_V [.null, .null, .null, .null, .null, .int 0, .null, .int 0] j := by decide +kernel
theorem dfX3 : ∀ j, j < 4 → defaultValue (tyX3 j) = vp_V [.int 0, .null, .null, .int 0] j := by decide +kernel
theorem dfX4 : ∀ j, j < 4 → defaultValue (tyX4 j) = vp_V [.null, .null, .null, .null] j := by decide +kernel
theorem dfX5 : ∀ j, j < 2 → defaultValue (tyX5 j) = vp_V [.null, .null] j := by decide +kernel
theorem dfX6 : ∀ j, j < 10 → defaultValue (tyX6 j) = vp_V [.int 0, .int 0, .int 0, .null, .null, .null, .null, .null, .int 0, .int 0] j := by decide +kernel
theorem dfX7 : ∀ j, j < 5 → defaultValue (tyX7 j) = vp_V [.null, .null, .null, .int 0, .int 0] j := by decide +kernel
theorem dfX8 : ∀ j, j < 11 → defaultValue (tyX8 j) = vp_V [.null, .null, .int 0, .int 0, .int 0, .int 0, .int 0, .null, .int 0, .int 0, .int 0] j := by decide +kernel
theorem dfX9 : ∀ j, j < 1 → defaultValue (tyX9 j) = vp_V [.null] j := by decide +kernel
theorem dfX10 : ∀ j, j < 13 → defaultValue (tyX10 j) = vp_V [.int 0, .int 0, .int 0, .int 0, .int 0, .int 0, .int 0, .int 0, .null, .null, .null, .null, .null] j := by decide +kernel
theorem dfX11 : ∀ j, j < 12 → defaultValue (tyX11 j) = vp_V [.null, .null, .null, .null, .null, .null, .null, .null, .null, .null, .int 0, .int 0] j := by decide +kernel
theorem dfX12 : ∀ j, j < 37 → defaultValue (tyX12 j) = vp_V [.null, .int 0, .int 0, .int 0, .int 0, .int 0, .int 0, .int 0, .int 0, .null, .null, .null, .null, .int 0, .int 0, .int 0, .null, .null, .null, .null, .null, .null, .null, .null, .null, .null, .null, .int 0, .null, .null, .null, .null, .null, .null, .int 0, .null, .null] j := by decide +kernel
/-- what the two sides answer on a fresh object, as far as it hangs on an argument -/
def spS (x : Int32) : Int32 := if x < 0 then 0 else if 2 ≤ x then 0 else 1
def spD (x : Int32) : Int32 := if 0 ≤ x then 0 else -1
def spE (x : Int32) : Int32 := if x < 0 then -1 else if x ≤ 0 then x else -1
def spI (v lo hi : Int64) : Int32 := if lg_cmp v lo < 0 then 0 else if 0 < lg_cmp v hi then 0 else 1
def spC (x : Int32) : Int32 := if 0 ≤ x.toInt ∧ x.toInt ≤ 11 then 0 else -1
theorem kz_shelf {x r : Int32} (h : r = spS x) (c : ¬ r = 0) : vp_in x 2 := by
  unfold spS at h
  by_cases h1 : x < 0
  · rw [if_pos h1] at h; exact absurd h c
  · rw [if_neg h1] at h
    by_cases h2 : 2 ≤ x
    · rw [if_pos h2] at h; exact absurd h c
    · rw [vp_in_iff]
      rw [Int32.lt_iff_toInt_lt] at h1
      rw [Int32.le_iff_toInt_le] at h2
      have e0 : (0 : Int32).toInt = 0 := by decide
      have e2 : (2 : Int32).toInt = 2 := by decide
      rw [e0] at h1
      rw [e2] at h2
      omega
theorem kz_lt (a b : Int64) : lg_cmp a b < 0 ↔ a.toInt < b.toInt := by
  unfold lg_cmp
  by_cases h1 : a > b
  · rw [if_pos h1]
    have : b.toInt < a.toInt := Int64.lt_iff_toInt_lt.mp h1
    constructor
    · intro h; exact absurd h (by decide)
    · intro h; omega
  · rw [if_neg h1]
    have h1' : ¬ b.toInt < a.toInt := fun q => h1 (Int64.lt_iff_toInt_lt.mpr q)
    by_cases h2 : a = b
    · rw [if_pos h2]
      subst h2
      constructor
      · intro h; exact absurd h (by decide)
      · intro h; omega
    · rw [if_neg h2]
      have h3 : a.toInt ≠ b.toInt := fun q => h2 (Int64.toInt_inj.mp q)
      constructor
      · intro _; omega
      · intro _; decide
theorem kz_gt (a b : Int64) : 0 < lg_cmp a b ↔ b.toInt < a.toInt := by
  unfold lg_cmp
  by_cases h1 : a > b
  · rw [if_pos h1]
    have : b.toInt < a.toInt := Int64.lt_iff_toInt_lt.mp h1
    constructor
    · intro _; exact this
    · intro _; decide
  · rw [if_neg h1]
    have h1' : ¬ b.toInt < a.toInt := fun q => h1 (Int64.lt_iff_toInt_lt.mpr q)
    by_cases h2 : a = b
    · rw [if_pos h2]
      constructor
      · intro h; exact absurd h (by decide)
      · intro h; omega
    · rw [if_neg h2]
      constructor
      · intro h; exact absurd h (by decide)
      · intro h; omega
theorem kz_spI (v lo hi : Int64) : spI v lo hi = if lo.toInt ≤ v.toInt ∧ v.toInt ≤ hi.toInt then 1 else 0 := by
  unfold spI
  by_cases h1 : lg_cmp v lo < 0
  · rw [if_pos h1, if_neg]
    rw [kz_lt] at h1
    omega
  · rw [if_neg h1]
    rw [kz_lt] at h1
    by_cases h2 : 0 < lg_cmp v hi
    · rw [if_pos h2, if_neg]
      rw [kz_gt] at h2
      omega
    · rw [if_neg h2, if_pos]
      rw [kz_gt] at h2
      omega
theorem kz_spI_none (v : Int64) : spI v 0 (-1) = 0 := by
  rw [kz_spI, if_neg]
  have e0 : (0 : Int64).toInt = 0 := by decide
  have e1 : (-1 : Int64).toInt = -1 := by decide
  rw [e0, e1]
  omega
theorem kz_toL (x : Int32) : x.toInt64.toInt = x.toInt := Int32.toInt_toInt64 x
theorem kz_spI_32 (x : Int32) (lo hi : Int64) : spI x.toInt64 lo hi = if lo.toInt ≤ x.toInt ∧ x.toInt ≤ hi.toInt then 1 else 0 := by rw [kz_spI, kz_toL]
theorem kz_back (x : Int32) : (if spS x = 0 then (-1 : Int32) else -2) = if spI x.toInt64 0 1 = 0 then -1 else -2 := by
  have e0 : (0 : Int64).toInt = 0 := by decide
  have e1 : (1 : Int64).toInt = 1 := by decide
  have f0 : (0 : Int32).toInt = 0 := by decide
  have f2 : (2 : Int32).toInt = 2 := by decide
  rw [kz_spI_32, e0, e1]
  unfold spS
  by_cases h1 : x < 0
  · rw [if_pos h1]
    rw [Int32.lt_iff_toInt_lt, f0] at h1
    rw [if_neg (show ¬ (0 ≤ x.toInt ∧ x.toInt ≤ 1) by omega)]
  · rw [if_neg h1]
    rw [Int32.lt_iff_toInt_lt, f0] at h1
    by_cases h2 : 2 ≤ x
    · rw [if_pos h2]
      rw [Int32.le_iff_toInt_le, f2] at h2
      rw [if_neg (show ¬ (0 ≤ x.toInt ∧ x.toInt ≤ 1) by omega)]
    · rw [if_neg h2]
      rw [Int32.le_iff_toInt_le, f2] at h2
      rw [if_pos (show (0 ≤ x.toInt ∧ x.toInt ≤ 1) by omega)]
theorem kz_sw8_11 (x : Int32) : x = 8 ∨ x = 9 ∨ x = 10 ∨ x = 11 ∨ (x.toInt < 8 ∨ 11 < x.toInt) := by
  by_cases h : x.toInt < 8 ∨ 11 < x.toInt
  · exact Or.inr (Or.inr (Or.inr (Or.inr h)))
  · have hj : ∀ n : Int32, x.toInt = n.toInt → x = n := fun n q => Int32.toInt_inj.mp q
    have e8 : (8 : Int32).toInt = 8 := by decide
    have e9 : (9 : Int32).toInt = 9 := by decide
    have e10 : (10 : Int32).toInt = 10 := by decide
    have e11 : (11 : Int32).toInt = 11 := by decide
    rcases (show x.toInt = 8 ∨ x.toInt = 9 ∨ x.toInt = 10 ∨ x.toInt = 11 by omega) with q | q | q | q
    · exact Or.inl (hj 8 (by rw [q, e8]))
    · exact Or.inr (Or.inl (hj 9 (by rw [q, e9])))
    · exact Or.inr (Or.inr (Or.inl (hj 10 (by rw [q, e10]))))
    · exact Or.inr (Or.inr (Or.inr (Or.inl (hj 11 (by rw [q, e11])))))
theorem kz_cnt_neg {x : Int32} (h : x < 0) (h2 : x.toInt < 8 ∨ 11 < x.toInt) : (-1 : Int32) = spC x := by
  have f0 : (0 : Int32).toInt = 0 := by decide
  rw [Int32.lt_iff_toInt_lt, f0] at h
  unfold spC
  rw [if_neg (by omega)]
theorem kz_cnt_big {x : Int32} (h : 7 < x) (h2 : x.toInt < 8 ∨ 11 < x.toInt) : (-1 : Int32) = spC x := by
  have f7 : (7 : Int32).toInt = 7 := by decide
  rw [Int32.lt_iff_toInt_lt, f7] at h
  unfold spC
  rw [if_neg (by omega)]
theorem kz_cnt_in {x : Int32} (h : ¬ x < 0) (h2 : ¬ 7 < x) : (0 : Int32) = spC x := by
  have f0 : (0 : Int32).toInt = 0 := by decide
  have f7 : (7 : Int32).toInt = 7 := by decide
  rw [Int32.lt_iff_toInt_lt, f0] at h
  rw [Int32.lt_iff_toInt_lt, f7] at h2
  unfold spC
  rw [if_pos ⟨by omega, by omega⟩]
theorem kz_cnt_r0 {x r : Int32} (h : r = spI x.toInt64 0 7) (c : r = 0) (h2 : x.toInt < 8 ∨ 11 < x.toInt) : (-1 : Int32) = spC x := by
  have e0 : (0 : Int64).toInt = 0 := by decide
  have e7 : (7 : Int64).toInt = 7 := by decide
  rw [kz_spI_32, e0, e7] at h
  unfold spC
  rw [if_neg]
  intro q
  rw [if_pos ⟨by omega, by omega⟩] at h
  rw [h] at c
  exact absurd c (by decide)
theorem kz_cnt_r1 {x r : Int32} (h : r = spI x.toInt64 0 7) (c : ¬ r = 0) : (0 : Int32) = spC x := by
  have e0 : (0 : Int64).toInt = 0 := by decide
  have e7 : (7 : Int64).toInt = 7 := by decide
  rw [kz_spI_32, e0, e7] at h
  unfold spC
  by_cases q : 0 ≤ x.toInt ∧ x.toInt ≤ 7
  · rw [if_pos ⟨by omega, by omega⟩]
  · rw [if_neg q] at h
    exact absurd h c
theorem kz_rect {x r k : Int32} (h : r = spI x.toInt64 0 99) (c : ¬ r = 0) (hk : k = ((11900 + (6 * x)) + 0)) : vp_in k 12507 := by
  have e0 : (0 : Int64).toInt = 0 := by decide
  have e7 : (99 : Int64).toInt = 99 := by decide
  rw [kz_spI_32, e0, e7] at h
  by_cases q : 0 ≤ x.toInt ∧ x.toInt ≤ 99
  · obtain ⟨j, hj, rfl⟩ := nI_of2 (x := x) (M := 99) (n := 99) (by decide) (fun g => by
      rw [Int32.lt_iff_toInt_lt, show (0 : Int32).toInt = 0 by decide] at g
      omega) (by
      rw [Int32.le_iff_toInt_le, show (99 : Int32).toInt = 99 by decide]
      omega)
    have hk2 : k = nI (11900 + 6 * j + 0) := by
      rw [hk]
      rw [← nI_add, ← nI_add, ← pk_mul]
      rfl
    rw [hk2]
    exact vp_in_nI (by omega) (by omega)
  · rw [if_neg q] at h
    exact absurd h c
theorem kz_shr0 (x : Int32) : (0 : Int32) >>> x = 0 := by simp
theorem kz_in {i : Int32} {n : Nat} (h : decide (¬ (i < 0 ∨ n ≤ i.toNatClampNeg)) = true) : vp_in i n := show ¬ (i < 0 ∨ n ≤ i.toNatClampNeg) from of_decide_eq_true h
/-- the word 'page' at q, its bytes at v, none of it among what may change -/
def kz_Ss (q v : Nat) (A : Nat → Prop) (U : State) (H : Heap) : Prop := va_Z RJ0 "COMPACT_STRINGS" "Z" (.int 1) A U H ∧ va_O RJ0 q A U H ∧ va_OF RJ0 "code\x72" "B" (.int 0) q A U H ∧ va_OF RJ0 "value" "[B" (.ref v) q A U H ∧ va_T .byte v 4 (fun j => .int (([112, 97, 103, 101] : List Int32).getD j 0)) A U H
theorem kz_Ss.moved {q v : Nat} {A : Nat → Prop} {u U : State} {H : Heap} (hal : u.vm.Alike U.vm) (h : kz_Ss q v A u H) : kz_Ss q v A U H := ⟨va_Z.moved hal h.1, va_O.moved hal h.2.1, va_OF.moved hal h.2.2.1, va_OF.moved hal h.2.2.2.1, va_T.moved hal h.2.2.2.2⟩
theorem kz_Ss.pass {q v : Nat} {A B : Nat → Prop} {s U : State} {H : Heap} {locs : List Loc} (h : kz_Ss q v A s s.heap) (hS : va_S A s.heap H locs) (hF : ∀ x, B x → A x) (hal : s.vm.Alike U.vm) : kz_Ss q v B U H := kz_Ss.moved hal ⟨(h.1.kept hS.2.1).narrow hF, (h.2.1.kept hS.2.1).narrow hF, (h.2.2.1.kept hS.2.1).narrow hF, (h.2.2.2.1.kept hS.2.1).narrow hF, (h.2.2.2.2.kept hS.2.1).narrow hF⟩
def kz_St (own : String) (k q v : Nat) (A : Nat → Prop) (U : State) : Prop := vk_R own k "page" q U ∧ kz_Ss q v A U U.heap
theorem kz_preT {s : State} {H : Heap} {D : va_G} {A : Nat → Prop} {ws : va_W} {tys : List (ClassId × FieldType)} {av : List Value} {q v : Nat} {locs : List Loc} (hP : va_P D vwCl ws H) (hK : va_K D vwCl tys s) (hD : va_D A ws) (h : kz_Ss q v A s s.heap) (hS : va_S A s.heap H locs) (hF : ∀ x, va_A ws H.size x → A x) : PreS s H (va_Pc av (fun U => kz_B D H.size ws tys U ∧ kz_Ss q v (va_A ws H.size) U U.heap)) av := ⟨fun a U g mk q => ⟨q.1, ⟨q.2.1.1, q.2.1.2.1, va_K.moved (u := U) (U := U.calling g mk a) (Vm.Alike.refl U.vm) q.2.1.2.2.1, q.2.1.2.2.2⟩, kz_Ss.moved (u := U) (U := U.calling g mk a) (Vm.Alike.refl U.vm) q.2.2⟩, fun U hU hW => ⟨rfl, ⟨by rw [hU], by rw [hU]; exact hP, va_K.moved hW.alike hK, hD.weaken (fun _ _ _ _ => trivial)⟩, by rw [hU]; exact kz_Ss.pass h hS hF hW.alike⟩⟩
theorem kz_preU {s : State} {H : Heap} {D : va_G} {A : Nat → Prop} {ws : va_W} {tys : List (ClassId × FieldType)} {av : List Value} {own : String} {k q v : Nat} {locs : List Loc} (hP : va_P D vwCl ws H) (hK : va_K D vwCl tys s) (hD : va_D A ws) (h : kz_St own k q v A s) (hS : va_S A s.heap H locs) (hF : ∀ x, va_A ws H.size x → A x) : PreS s H (va_Pc av (fun U => kz_B D H.size ws tys U ∧ kz_St own k q v (va_A ws H.size) U)) av := ⟨fun a U g mk q => ⟨q.1, ⟨q.2.1.1, q.2.1.2.1, va_K.moved (u := U) (U := U.calling g mk a) (Vm.Alike.refl U.vm) q.2.1.2.2.1, q.2.1.2.2.2⟩, vk_R.same (u := U) (U := U.calling g mk a) rfl q.2.2.1, kz_Ss.moved (u := U) (U := U.calling g mk a) (Vm.Alike.refl U.vm) q.2.2.2⟩, fun U hU hW => ⟨rfl, ⟨by rw [hU], by rw [hU]; exact hP, va_K.moved hW.alike hK, hD.weaken (fun _ _ _ _ => trivial)⟩, vk_R.warm hW h.1, by rw [hU]; exact kz_Ss.pass h.2 hS hF hW.alike⟩⟩
theorem kz_recvT {q v : Nat} {A : Nat → Prop} {s : State} {H : Heap} {locs : List Loc} (h : kz_Ss q v A s s.heap) (hS : va_S A s.heap H locs) : ∃ cell : Cell, H[q]? = some cell ∧ cell.vm.isStatics = false ∧ s.vm.findClass RJ0 = some cell.cls := by
  obtain ⟨cell, h1, h2, h3, h4⟩ := h.2.1
  exact ⟨cell, by rw [hS.2.1 q (Array.getElem?_eq_some_iff.mp h1).1 h4]; exact h1, h2, h3⟩

