theorem kz_St_of {av : Array Value} {s : State} {own : String} {k : Nat} {A : Nat → Prop} (h0 : (Cond.stringRef own k "page").before av s = true) (hz : va_Z RJ0 "COMPACT_STRINGS" "Z" (.int 1) A s s.heap) (h1 : (Cond.exactly (.string own k) "java/lang/String").before av s = true) (h2 : (Cond.eq (.field (.string own k) "java/lang/String" "code\x72" "B") (.int 0)).before av s = true) (h3 : (Cond.arrayOf (.field (.string own k) "java/lang/String" "value" "[B") .byte).before av s = true) (h4 : (Cond.eq (.length (.field (.string own k) "java/lang/String" "value" "[B")) (.int 4)).before av s = true) (e0 : (Cond.eq (.elem (.field (.string own k) "java/lang/String" "value" "[B") (.int 0)) (.int 112)).before av s = true) (e1 : (Cond.eq (.elem (.field (.string own k) "java/lang/String" "value" "[B") (.int 1)) (.int 97)).before av s = true) (e2 : (Cond.eq (.elem (.field (.string own k) "java/lang/String" "value" "[B") (.int 2)) (.int 103)).before av s = true) (e3 : (Cond.eq (.elem (.field (.string own k) "java/lang/String" "value" "[B") (.int 3)) (.int 101)).before av s = true) (hA : ∀ a : Nat, a < s.heap.size → ¬ A a) : ∃ q v : Nat, kz_St own k q v A s := by
  obtain ⟨adK, adV, hS, hE⟩ := vk_Sof (args := av) (s := s) (N := 1) (tm := fun _ => .string own k) (len := [4]) (byt := [[112, 97, 103, 101]]) (A := A) (fun i hi => by
      have h : i = 0 := by omega
      subst h
      decide) (fun i hi => h1) (fun i hi => h2) (fun i hi => h3) (fun i hi => by
      have h : i = 0 := by omega
      subst h
      exact h4) (fun i hi j hj => by
      have h : i = 0 := by omega
      subst h
      have hj : j < 4 := hj
      rcases (show j = 0 ∨ j = 1 ∨ j = 2 ∨ j = 3 by omega) with rfl | rfl | rfl | rfl
      · exact e0
      · exact e1
      · exact e2
      · exact e3) (fun i j hi hj hn => absurd (by omega) hn) hA
  obtain ⟨p1, p2, p3, p4⟩ := hS.1 0 (by omega)
  exact ⟨adK 0, adV 0, vk_R.of h0 (hE 0 (by omega)), hz, p1, p2, p3, p4⟩
theorem kz_L {L : Nat} (hL : L ≤ 6) (c : ¬ (Int32.ofNat L - 6 < 0)) : L = 6 := by
  rcases (show L = 0 ∨ L = 1 ∨ L = 2 ∨ L = 3 ∨ L = 4 ∨ L = 5 ∨ L = 6 by omega) with rfl | rfl | rfl | rfl | rfl | rfl | rfl
  · exact absurd (by decide) c
  · exact absurd (by decide) c
  · exact absurd (by decide) c
  · exact absurd (by decide) c
  · exact absurd (by decide) c
  · exact absurd (by decide) c
  · rfl
theorem kz_sw0_26 (x : Int32) : x = 0 ∨ x = 1 ∨ x = 2 ∨ x = 3 ∨ x = 4 ∨ x = 5 ∨ x = 6 ∨ x = 7 ∨ x = 8 ∨ x = 9 ∨ x = 10 ∨ x = 11 ∨ x = 12 ∨ x = 13 ∨ x = 14 ∨ x = 15 ∨ x = 16 ∨ x = 17 ∨ x = 18 ∨ x = 19 ∨ x = 20 ∨ x = 21 ∨ x = 22 ∨ x = 23 ∨ x = 24 ∨ x = 25 ∨ x = 26 ∨ (x.toInt < 0 ∨ 26 < x.toInt) := by
  by_cases h : x.toInt < 0 ∨ 26 < x.toInt
  · exact Or.inr (Or.inr (Or.inr (Or.inr (Or.inr (Or.inr (Or.inr (Or.inr (Or.inr (Or.inr (Or.inr (Or.inr (Or.inr (Or.inr (Or.inr (Or.inr (Or.inr (Or.inr (Or.inr (Or.inr (Or.inr (Or.inr (Or.inr (Or.inr (Or.inr (Or.inr (Or.inr (h)))))))))))))))))))))))))))
  · obtain ⟨j, hj, rfl⟩ := nI_of2 (x := x) (M := 26) (n := 26) (by decide) (fun g => by
      rw [Int32.lt_iff_toInt_lt, show (0 : Int32).toInt = 0 by decide] at g
      omega) (by
      rw [Int32.le_iff_toInt_le, show (26 : Int32).toInt = 26 by decide]
      omega)
    clear h
    match j, hj with
    | 0, _ => exact Or.inl rfl
    | 1, _ => exact Or.inr (Or.inl rfl)
    | 2, _ => exact Or.inr (Or.inr (Or.inl rfl))
    | 3, _ => exact Or.inr (Or.inr (Or.inr (Or.inl rfl)))
    | 4, _ => exact Or.inr (Or.inr (Or.inr (Or.inr (Or.inl rfl))))
    | 5, _ => exact Or.inr (Or.inr (Or.inr (Or.inr (Or.inr (Or.inl rfl)))))
    | 6, _ => exact Or.inr (Or.inr (Or.inr (Or.inr (Or.inr (Or.inr (Or.inl rfl))))))
    | 7, _ => exact Or.inr (Or.inr (Or.inr (Or.inr (Or.inr (Or.inr (Or.inr (Or.inl rfl)))))))
    | 8, _ => exact Or.inr (Or.inr (Or.inr (Or.inr (Or.inr (Or.inr (Or.inr (Or.inr (Or.inl rfl))))))))
    | 9, _ => exact Or.inr (Or.inr (Or.inr (Or.inr (Or.inr (Or.inr (Or.inr (Or.inr (Or.inr (Or.inl rfl)))))))))
    | 10, _ => exact Or.inr (Or.inr (Or.inr (Or.inr (Or.inr (Or.inr (Or.inr (Or.inr (Or.inr (Or.inr (Or.inl rfl))))))))))
    | 11, _ => exact Or.inr (Or.inr (Or.inr (Or.inr (Or.inr (Or.inr (Or.inr (Or.inr (Or.inr (Or.inr (Or.inr (Or.inl rfl)))))))))))
    | 12, _ => exact Or.inr (Or.inr (Or.inr (Or.inr (Or.inr (Or.inr (Or.inr (Or.inr (Or.inr (Or.inr (Or.inr (Or.inr (Or.inl rfl))))))))))))
    | 13, _ => exact Or.inr (Or.inr (Or.inr (Or.inr (Or.inr (Or.inr (Or.inr (Or.inr (Or.inr (Or.inr (Or.inr (Or.inr (Or.inr (Or.inl rfl)))))))))))))
    | 14, _ => exact Or.inr (Or.inr (Or.inr (Or.inr (Or.inr (Or.inr (Or.inr (Or.inr (Or.inr (Or.inr (Or.inr (Or.inr (Or.inr (Or.inr (Or.inl rfl))))))))))))))
    | 15, _ => exact Or.inr (Or.inr (Or.inr (Or.inr (Or.inr (Or.inr (Or.inr (Or.inr (Or.inr (Or.inr (Or.inr (Or.inr (Or.inr (Or.inr (Or.inr (Or.inl rfl)))))))))))))))
    | 16, _ => exact Or.inr (Or.inr (Or.inr (Or.inr (Or.inr (Or.inr (Or.inr (Or.inr (Or.inr (Or.inr (Or.inr (Or.inr (Or.inr (Or.inr (Or.inr (Or.inr (Or.inl rfl))))))))))))))))
    | 17, _ => exact Or.inr (Or.inr (Or.inr (Or.inr (Or.inr (Or.inr (Or.inr (Or.inr (Or.inr (Or.inr (Or.inr (Or.inr (Or.inr (Or.inr (Or.inr (Or.inr (Or.inr (Or.inl rfl)))))))))))))))))
    | 18, _ => exact Or.inr (Or.inr (Or.inr (Or.inr (Or.inr (Or.inr (Or.inr (Or.inr (Or.inr (Or.inr (Or.inr (Or.inr (Or.inr (Or.inr (Or.inr (Or.inr (Or.inr (Or.inr (Or.inl rfl))))))))))))))))))
    | 19, _ => exact Or.inr (Or.inr (Or.inr (Or.inr (Or.inr (Or.inr (Or.inr (Or.inr (Or.inr (Or.inr (Or.inr (Or.inr (Or.inr (Or.inr (Or.inr (Or.inr (Or.inr (Or.inr (Or.inr (Or.inl rfl)))))))))))))))))))
    | 20, _ => exact Or.inr (Or.inr (Or.inr (Or.inr (Or.inr (Or.inr (Or.inr (Or.inr (Or.inr (Or.inr (Or.inr (Or.inr (Or.inr (Or.inr (Or.inr (Or.inr (Or.inr (Or.inr (Or.inr (Or.inr (Or.inl rfl))))))))))))))))))))
    | 21, _ => exact Or.inr (Or.inr (Or.inr (Or.inr (Or.inr (Or.inr (Or.inr (Or.inr (Or.inr (Or.inr (Or.inr (Or.inr (Or.inr (Or.inr (Or.inr (Or.inr (Or.inr (Or.inr (Or.inr (Or.inr (Or.inr (Or.inl rfl)))))))))))))))))))))
    | 22, _ => exact Or.inr (Or.inr (Or.inr (Or.inr (Or.inr (Or.inr (Or.inr (Or.inr (Or.inr (Or.inr (Or.inr (Or.inr (Or.inr (Or.inr (Or.inr (Or.inr (Or.inr (Or.inr (Or.inr (Or.inr (Or.inr (Or.inr (Or.inl rfl))))))))))))))))))))))
    | 23, _ => exact Or.inr (Or.inr (Or.inr (Or.inr (Or.inr (Or.inr (Or.inr (Or.inr (Or.inr (Or.inr (Or.inr (Or.inr (Or.inr (Or.inr (Or.inr (Or.inr (Or.inr (Or.inr (Or.inr (Or.inr (Or.inr (Or.inr (Or.inr (Or.inl rfl)))))))))))))))))))))))
    | 24, _ => exact Or.inr (Or.inr (Or.inr (Or.inr (Or.inr (Or.inr (Or.inr (Or.inr (Or.inr (Or.inr (Or.inr (Or.inr (Or.inr (Or.inr (Or.inr (Or.inr (Or.inr (Or.inr (Or.inr (Or.inr (Or.inr (Or.inr (Or.inr (Or.inr (Or.inl rfl))))))))))))))))))))))))
    | 25, _ => exact Or.inr (Or.inr (Or.inr (Or.inr (Or.inr (Or.inr (Or.inr (Or.inr (Or.inr (Or.inr (Or.inr (Or.inr (Or.inr (Or.inr (Or.inr (Or.inr (Or.inr (Or.inr (Or.inr (Or.inr (Or.inr (Or.inr (Or.inr (Or.inr (Or.inr (Or.inl rfl)))))))))))))))))))))))))
    | 26, _ => exact Or.inr (Or.inr (Or.inr (Or.inr (Or.inr (Or.inr (Or.inr (Or.inr (Or.inr (Or.inr (Or.inr (Or.inr (Or.inr (Or.inr (Or.inr (Or.inr (Or.inr (Or.inr (Or.inr (Or.inr (Or.inr (Or.inr (Or.inr (Or.inr (Or.inr (Or.inr (Or.inl rfl))))))))))))))))))))))))))
    | j + 27, h => exact absurd h (by omega)
set_option maxHeartbeats 4000000 in
set_option maxRecDepth 100000 in
/-- the law, from its entry -/
theorem whole_start {p : Program} {e : Env} {s : State} {m : MethodId} {below : List Frame} {meth : Method} {c : Code} (l : Launch) (hflags : l.flags = flags0) {b L : Nat} {xs : Nat → Int32} (hL : L ≤ 6) (C0 : lw_At p s m meth c b L xs) : W p l e room_1 s m #[Value.ref b] below meth c s.heap [] 0 0 (lw_Z below #[Value.ref b] s) (entryFrame m ([Value.ref b] : List Value).toArray 4) := by
  obtain ⟨hx, hb, hr, hml, hown, hts0, hX, hbl, hlocks, hgv⟩ := id C0
  have hts : ∀ w ∈ wsU, w.before #[Value.ref b] s = true := fun w h => hts0 w (wsU_in w h)
  have hown : s.vm.findClass RL = some m.cls := hown
  have hA : ∀ q : Nat, s.heap.size ≤ q → (fun q : Nat => s.heap.size ≤ q) q := fun _ h => h
  have hbA : ¬ (fun q : Nat => s.heap.size ≤ q) b := Nat.not_le.mpr hbl
  obtain ⟨c0, iS0, hKn0⟩ := u_known (C := RX0) (T := TX0) (N := 4) (n := 4) hts inlX0 (hts _ qw_90)
  obtain ⟨c1, iS1, hKn1⟩ := u_known (C := RX1) (T := TX1) (N := 10) (n := 10) hts inlX1 (hts _ qw_72)
  obtain ⟨c2, iS2, hKn2⟩ := u_known (C := RX2) (T := TX2) (N := 8) (n := 8) hts inlX2 (hts _ qw_23)
  obtain ⟨c3, iS3, hKn3⟩ := u_known (C := RX3) (T := TX3) (N := 4) (n := 4) hts inlX3 (hts _ qw_17)
  obtain ⟨c4, iS4, hKn4⟩ := u_known (C := RX4) (T := TX4) (N := 4) (n := 4) hts inlX4 (hts _ qw_39)
  obtain ⟨c5, iS5, hKn5⟩ := u_known (C := RX5) (T := TX5) (N := 2) (n := 2) hts inlX5 (hts _ qw_27)
  obtain ⟨c6, iS6, hKn6⟩ := u_known (C := RX6) (T := TX6) (N := 10) (n := 10) hts inlX6 (hts _ qw_35)
  obtain ⟨c7, iS7, hKn7⟩ := u_known (C := RX7) (T := TX7) (N := 5) (n := 5) hts inlX7 (hts _ qw_76)
  obtain ⟨c8, iS8, hKn8⟩ := u_known (C := RX8) (T := TX8) (N := 11) (n := 11) hts inlX8 (hts _ qw_13)
  obtain ⟨c9, iS9, hKn9⟩ := u_known (C := RX9) (T := TX9) (N := 1) (n := 1) hts inlX9 (hts _ qw_31)
  obtain ⟨c10, iS10, hKn10⟩ := u_known (C := RX10) (T := TX10) (N := 13) (n := 13) hts inlX10 (hts _ qw_42)
  obtain ⟨c11, iS11, hKn11⟩ := u_known (C := RX11) (T := TX11) (N := 12) (n := 12) hts inlX11 (hts _ qw_1)
  obtain ⟨c12, iS12, hKn12⟩ := u_known (C := RX12) (T := TX12) (N := 37) (n := 37) hts inlX12 (hts _ qw_4)
  obtain ⟨dC, dI, hKc⟩ : ∃ (dC : Nat → ClassId) (dI : Nat → Nat → Nat), ∀ (k : Nat) (q : vw_C), vwCl[k]? = some q → u_Kn s q.1 q.2.1 q.2.2 (dC k) (dI k) := by
    refine ⟨fun k => if k = 0 then c0 else if k = 1 then c1 else if k = 2 then c2 else if k = 3 then c3 else if k = 4 then c4 else if k = 5 then c5 else if k = 6 then c6 else if k = 7 then c7 else if k = 8 then c8 else if k = 9 then c9 else if k = 10 then c10 else if k = 11 then c11 else c12, fun k => if k = 0 then iS0 else if k = 1 then iS1 else if k = 2 then iS2 else if k = 3 then iS3 else if k = 4 then iS4 else if k = 5 then iS5 else if k = 6 then iS6 else if k = 7 then iS7 else if k = 8 then iS8 else if k = 9 then iS9 else if k = 10 then iS10 else if k = 11 then iS11 else iS12, ?_⟩
    intro k q hq
    match k, hq with
    | 0, hq => cases hq; exact hKn0
    | 1, hq => cases hq; exact hKn1
    | 2, hq => cases hq; exact hKn2
    | 3, hq => cases hq; exact hKn3
    | 4, hq => cases hq; exact hKn4
    | 5, hq => cases hq; exact hKn5
    | 6, hq => cases hq; exact hKn6
    | 7, hq => cases hq; exact hKn7
    | 8, hq => cases hq; exact hKn8
    | 9, hq => cases hq; exact hKn9
    | 10, hq => cases hq; exact hKn10
    | 11, hq => cases hq; exact hKn11
    | 12, hq => cases hq; exact hKn12
    | k + 13, hq => simp [vwCl] at hq
  have hS : va_S (fun q : Nat => s.heap.size ≤ q) s.heap s.heap [] := va_S.rf
  have hK : va_K (dC, dI) vwCl [] s := ⟨hKc, fun k q h => by simp at h⟩
  have hP : va_P (dC, dI) vwCl [] s.heap := kz_P0
  have hD : va_D (fun q : Nat => s.heap.size ≤ q) [] := kz_D0
  have hAm : kz_Am s := ⟨va_Nw.of rfl (hts0 (.methodLinkNest RX1 11 yX0_init RX11) (List.mem_append_right _ (List.mem_append_left _ (List.mem_of_getElem? (i := 118) (by decide +kernel))))), va_Nw.of rfl (hts0 (.methodLinkNest RX7 18 yX0_init RX11) (List.mem_append_right _ (List.mem_append_left _ (List.mem_of_getElem? (i := 184) (by decide +kernel))))), va_Nw.of rfl (hts0 (.methodLinkNest RX6 11 yX0_init RX11) (List.mem_append_right _ (List.mem_append_right _ (List.mem_append_left _ (List.mem_of_getElem? (i := 16) (by decide +kernel)))))), va_Nw.of rfl (hts0 (.methodLinkNest RX4 20 yX0_init RX11) (List.mem_append_right _ (List.mem_append_right _ (List.mem_append_left _ (List.mem_of_getElem? (i := 60) (by decide +kernel)))))), va_AO.of (hts0 (.arrayOver (.object RX10)) (List.mem_append_right _ (List.mem_append_left _ (List.mem_of_getElem? (i := 88) (by decide +kernel))))), (hts0 (.arrayOver (.array .int)) (List.mem_append_right _ (List.mem_append_left _ (List.mem_of_getElem? (i := 182) (by decide +kernel)))))⟩
  have hfl := flat_of_before _ hgv
  have hnA : ∀ a : Nat, a < s.heap.size → ¬ (fun q : Nat => s.heap.size ≤ q) a := fun a h => Nat.not_le.mpr h
  have hz : va_Z RJ0 "COMPACT_STRINGS" "Z" (.int 1) (fun q : Nat => s.heap.size ≤ q) s s.heap := va_Zof (hts0 (.laysStatic RJ0 "COMPACT_STRINGS" "Z") (List.mem_append_right _ (List.mem_append_right _ (List.mem_append_right _ (List.mem_append_left _ (List.mem_of_getElem? (i := 21) (by decide +kernel))))))) (hts0 (.initialized RJ0) (List.mem_append_right _ (List.mem_append_left _ (List.mem_of_getElem? (i := 15) (by decide +kernel))))) (va_eqi (hfl (.eq (.static "java/lang/String" "COMPACT_STRINGS" "Z") (.int 1)) (by decide +kernel))) hnA
  obtain ⟨sq1, sv1, hT1⟩ := kz_St_of (own := RX8) (k := 38) (hts0 (.stringRef RX8 38 "page") (List.mem_append_right _ (List.mem_append_right _ (List.mem_append_left _ (List.mem_of_getElem? (i := 236) (by decide +kernel)))))) hz (hfl (.exactly (.string "RectFile$Tape" 38) "java/lang/String") (by decide +kernel)) (hfl (.eq (.field (.string "RectFile$Tape" 38) "java/lang/String" "code\x72" "B") (.int 0)) (by decide +kernel)) (hfl (.arrayOf (.field (.string "RectFile$Tape" 38) "java/lang/String" "value" "[B") .byte) (by decide +kernel)) (hfl (.eq (.length (.field (.string "RectFile$Tape" 38) "java/lang/String" "value" "[B")) (.int 4)) (by decide +kernel)) (hfl (.eq (.elem (.field (.string "RectFile$Tape" 38) "java/lang/String" "value" "[B") (.int 0)) (.int 112)) (by decide +kernel)) (hfl (.eq (.elem (.field (.string "RectFile$Tape" 38) "java/lang/String" "value" "[B") (.int 1)) (.int 97)) (by decide +kernel)) (hfl (.eq (.elem (.field (.string "RectFile$Tape" 38) "java/lang/String" "value" "[B") (.int 2)) (.int 103)) (by decide +kernel)) (hfl (.eq (.elem (.field (.string "RectFile$Tape" 38) "java/lang/String" "value" "[B") (.int 3)) (.int 101)) (by decide +kernel)) hnA
  obtain ⟨sq2, sv2, hT2⟩ := kz_St_of (own := RX12) (k := 164) (hts0 (.stringRef RX12 164 "page") (List.mem_append_right _ (List.mem_append_right _ (List.mem_append_right _ (List.mem_append_right _ (List.mem_append_right _ (List.mem_append_right _ (List.mem_append_left _ (List.mem_of_getElem? (i := 98) (by decide +kernel)))))))))) hz (hfl (.exactly (.string "RectFileModel" 164) "java/lang/String") (by decide +kernel)) (hfl (.eq (.field (.string "RectFileModel" 164) "java/lang/String" "code\x72" "B") (.int 0)) (by decide +kernel)) (hfl (.arrayOf (.field (.string "RectFileModel" 164) "java/lang/String" "value" "[B") .byte) (by decide +kernel)) (hfl (.eq (.length (.field (.string "RectFileModel" 164) "java/lang/String" "value" "[B")) (.int 4)) (by decide +kernel)) (hfl (.eq (.elem (.field (.string "RectFileModel" 164) "java/lang/String" "value" "[B") (.int 0)) (.int 112)) (by decide +kernel)) (hfl (.eq (.elem (.field (.string "RectFileModel" 164) "java/lang/String" "value" "[B") (.int 1)) (.int 97)) (by decide +kernel)) (hfl (.eq (.elem (.field (.string "RectFileModel" 164) "java/lang/String" "value" "[B") (.int 2)) (.int 103)) (by decide +kernel)) (hfl (.eq (.elem (.field (.string "RectFileModel" 164) "java/lang/String" "value" "[B") (.int 3)) (.int 101)) (by decide +kernel)) hnA
  have hl := lv_entry ([.ref b]) (n := 4) (Nat.le_of_ble_eq_true rfl)
  rw [lg_entry_eq]
  generalize (lg_sl ([.ref b]) ++ List.replicate (4 - (lg_sl ([.ref b])).length) Slot.unset).toArray = ls at hl ⊢
  have hl : lv_has ls 4 [(0, .ref b)] := hl
  refine va_new (ci := 11) (fs := [.null, .null, .null, .null, .null, .null, .null, .null, .null, .null, .int 0, .int 0]) (C := RX11) (T := TX11) (N := 12) hx hb hts inlX11 tyX11 tyX11_ok hown (hts _ qw_0) (hts _ qw_1) (hts _ qw_2) hK hP hD hS hA rfl dfX11 (Nat.le_of_ble_eq_true rfl) (Nat.le_of_ble_eq_true rfl) dL_law_0 (fun q1 H hP hD hS => ?_)
  have hP : va_P (dC, dI) vwCl [(q1, .inr (11, [.null, .null, .null, .null, .null, .null, .null, .null, .null, .null, .int 0, .int 0]))] H := hP
  have hD : va_D (fun q : Nat => s.heap.size ≤ q) [(q1, .inr (11, [.null, .null, .null, .null, .null, .null, .null, .null, .null, .null, .int 0, .int 0]))] := hD
  refine W.widen (k := 1) (n := 12) (Nat.le_of_ble_eq_true rfl) (Nat.le_of_ble_eq_true rfl) ?_
  refine lv_dup hx hb dL_law_3 rfl ?_
  have hPc := hP.sub (ws' := [(q1, .inr (11, [.null, .null, .null, .null, .null, .null, .null, .null, .null, .null, .int 0, .int 0]))]) [0] rfl
  have hDc := hD.sub (ws' := [(q1, .inr (11, [.null, .null, .null, .null, .null, .null, .null, .null, .null, .null, .int 0, .int 0]))]) [0] (by decide) rfl
  have hKc := hK.sub (tys' := []) [] rfl
  have hFc := va_free (wc := [(q1, .inr (11, [.null, .null, .null, .null, .null, .null, .null, .null, .null, .null, .int 0, .int 0]))]) hD hS hA [0] rfl
  refine va_callv (va_runI (As := []) (rest := [.ref q1]) ⟨hx, hb, hml, hown, hts⟩ (c_X11_init l dC dI (q1) H.size) (cwI 0 hts (kz_g qw_8) rfl rfl rfl (hts _ qw_2) (hts _ qw_6) (hts _ qw_7) rfl (by decide +kernel) ⟨Nat.le_of_ble_eq_true rfl, Nat.le_of_ble_eq_true rfl⟩) (kz_preA hPc hKc hDc hAm) rfl rfl hl.1 rfl (lv_room (Nat.le_of_ble_eq_true rfl)) dL_law_4 ⟨Nat.le_of_ble_eq_true rfl, Nat.le_of_ble_eq_true rfl⟩) hS (fun q _ h => hFc q h) hFc (fun u_3 t H1 locs ht hvm hw hB hz1 hk1 hS => ?_)
  try dsimp only at hw
  obtain ⟨tp_4, i1_5, i2_6, bt_7, cB_8, hi_9, t1_10, t2_11, sh_12, cT_13, g3_14, g4_15, g5_16, g6_17, g7_18, g8_19, g9_20⟩ := u_3
  obtain ⟨hP1, hK1, hD1⟩ := hB
  rw [ht] at hP1
  have hK1 := va_K.moved hvm.symm hK1
  obtain ⟨hP, hD⟩ := va_join (wr := []) (w1 := [(q1, .inr (11, [.ref tp_4, .ref hi_9, .ref sh_12, .ref g3_14, .ref g4_15, .ref g5_16, .ref g6_17, .ref g7_18, .ref g8_19, .ref g9_20, .int 0, .int 0])), (tp_4, .inr (8, [.ref i1_5, .ref i2_6, .int 0, .int 0, .int 0, .int 0, .int 0, .ref bt_7, .int 0, .int 0, .int 0])), (bt_7, .inl (cB_8, 300, .inl (fun _ => 0))), (hi_9, .inr (3, [.int 0, .ref t1_10, .ref t2_11, .int 0])), (sh_12, .inl (cT_13, 2, .inr (.inr (.inr (.inr (fun _ => none))))))]) hP hD [0] [] rfl rfl (by decide) (by decide) hk1 hFc hP1 hD1
  have hK := (hK.sub (tys' := []) [] rfl).app hK1
  generalize H1 = H at hP hS ⊢
  have hP : va_P (dC, dI) vwCl [(q1, .inr (11, [.ref tp_4, .ref hi_9, .ref sh_12, .ref g3_14, .ref g4_15, .ref g5_16, .ref g6_17, .ref g7_18, .ref g8_19, .ref g9_20, .int 0, .int 0])), (tp_4, .inr (8, [.ref i1_5, .ref i2_6, .int 0, .int 0, .int 0, .int 0, .int 0, .ref bt_7, .int 0, .int 0, .int 0])), (bt_7, .inl (cB_8, 300, .inl (fun _ => 0))), (hi_9, .inr (3, [.int 0, .ref t1_10, .ref t2_11, .int 0])), (sh_12, .inl (cT_13, 2, .inr (.inr (.inr (.inr (fun _ => none))))))] H := hP
  have hD : va_D (fun q : Nat => s.heap.size ≤ q) [(q1, .inr (11, [.ref tp_4, .ref hi_9, .ref sh_12, .ref g3_14, .ref g4_15, .ref g5_16, .ref g6_17, .ref g7_18, .ref g8_19, .ref g9_20, .int 0, .int 0])), (tp_4, .inr (8, [.ref i1_5, .ref i2_6, .int 0, .int 0, .int 0, .int 0, .int 0, .ref bt_7, .int 0, .int 0, .int 0])), (bt_7, .inl (cB_8, 300, .inl (fun _ => 0))), (hi_9, .inr (3, [.int 0, .ref t1_10, .ref t2_11, .int 0])), (sh_12, .inl (cT_13, 2, .inr (.inr (.inr (.inr (fun _ => none))))))] := hD
  have hK : va_K (dC, dI) vwCl [(cB_8, .byte), (cT_13, .object RX10)] s := hK
  refine W.widen (k := 55) (n := 3576) (Nat.le_of_ble_eq_true rfl) (Nat.le_of_ble_eq_true rfl) ?_
  refine lv_astore_n (lv' := [(1, .ref q1), (0, .ref b)]) hx hb dL_law_7 rfl hl (by decide) rfl (fun ls hl => ?_)
  refine va_new (ci := 12) (fs := [.null, .int 0, .int 0, .int 0, .int 0, .int 0, .int 0, .int 0, .int 0, .null, .null, .null, .null, .int 0, .int 0, .int 0, .null, .null, .null, .null, .null, .null, .null, .null, .null, .null, .null, .int 0, .null, .null, .null, .null, .null, .null, .int 0, .null, .null]) (C := RX12) (T := TX12) (N := 37) hx hb hts inlX12 tyX12 tyX12_ok hown (hts _ qw_3) (hts _ qw_4) (hts _ qw_5) hK hP hD hS hA rfl dfX12 (Nat.le_of_ble_eq_true rfl) (Nat.le_of_ble_eq_true rfl) dL_law_8 (fun q21 H hP hD hS => ?_)
  have hP : va_P (dC, dI) vwCl [(q1, .inr (11, [.ref tp_4, .ref hi_9, .ref sh_12, .ref g3_14, .ref g4_15, .ref g5_16, .ref g6_17, .ref g7_18, .ref g8_19, .ref g9_20, .int 0, .int 0])), (tp_4, .inr (8, [.ref i1_5, .ref i2_6, .int 0, .int 0, .int 0, .int 0, .int 0, .ref bt_7, .int 0, .int 0, .int 0])), (bt_7, .inl (cB_8, 300, .inl (fun _ => 0))), (hi_9, .inr (3, [.int 0, .ref t1_10, .ref t2_11, .int 0])), (sh_12, .inl (cT_13, 2, .inr (.inr (.inr (.inr (fun _ => none)))))), (q21, .inr (12, [.null, .int 0, .int 0, .int 0, .int 0, .int 0, .int 0, .int 0, .int 0, .null, .null, .null, .null, .int 0, .int 0, .int 0, .null, .null, .null, .null, .null, .null, .null, .null, .null, .null, .null, .int 0, .null, .null, .null, .null, .null, .null, .int 0, .null, .null]))] H := hP
  have hD : va_D (fun q : Nat => s.heap.size ≤ q) [(q1, .inr (11, [.ref tp_4, .ref hi_9, .ref sh_12, .ref g3_14, .ref g4_15, .ref g5_16, .ref g6_17, .ref g7_18, .ref g8_19, .ref g9_20, .int 0, .int 0])), (tp_4, .inr (8, [.ref i1_5, .ref i2_6, .int 0, .int 0, .int 0, .int 0, .int 0, .ref bt_7, .int 0, .int 0, .int 0])), (bt_7, .inl (cB_8, 300, .inl (fun _ => 0))), (hi_9, .inr (3, [.int 0, .ref t1_10, .ref t2_11, .int 0])), (sh_12, .inl (cT_13, 2, .inr (.inr (.inr (.inr (fun _ => none)))))), (q21, .inr (12, [.null, .int 0, .int 0, .int 0, .int 0, .int 0, .int 0, .int 0, .int 0, .null, .null, .null, .null, .int 0, .int 0, .int 0, .null, .null, .null, .null, .null, .null, .null, .null, .null, .null, .null, .int 0, .null, .null, .null, .null, .null, .null, .int 0, .null, .null]))] := hD
  refine W.widen (k := 56) (n := 3613) (Nat.le_of_ble_eq_true rfl) (Nat.le_of_ble_eq_true rfl) ?_
  refine lv_dup hx hb dL_law_11 rfl ?_
  have hPc := hP.sub (ws' := [(q21, .inr (12, [.null, .int 0, .int 0, .int 0, .int 0, .int 0, .int 0, .int 0, .int 0, .null, .null, .null, .null, .int 0, .int 0, .int 0, .null, .null, .null, .null, .null, .null, .null, .null, .null, .null, .null, .int 0, .null, .null, .null, .null, .null, .null, .int 0, .null, .null]))]) [5] rfl
  have hDc := hD.sub (ws' := [(q21, .inr (12, [.null, .int 0, .int 0, .int 0, .int 0, .int 0, .int 0, .int 0, .int 0, .null, .null, .null, .null, .int 0, .int 0, .int 0, .null, .null, .null, .null, .null, .null, .null, .null, .null, .null, .null, .int 0, .null, .null, .null, .null, .null, .null, .int 0, .null, .null]))]) [5] (by decide) rfl
  have hKc := hK.sub (tys' := []) [] rfl
  have hFc := va_free (wc := [(q21, .inr (12, [.null, .int 0, .int 0, .int 0, .int 0, .int 0, .int 0, .int 0, .int 0, .null, .null, .null, .null, .int 0, .int 0, .int 0, .null, .null, .null, .null, .null, .null, .null, .null, .null, .null, .null, .int 0, .null, .null, .null, .null, .null, .null, .int 0, .null, .null]))]) hD hS hA [5] rfl
  refine va_callv (va_runI (As := []) (rest := [.ref q21]) ⟨hx, hb, hml, hown, hts⟩ (c_X12_init l dC dI (q21) H.size) (cwI 0 hts (kz_g qw_155) rfl rfl rfl (hts _ qw_5) (hts _ qw_153) (hts _ qw_154) rfl (by decide +kernel) ⟨Nat.le_of_ble_eq_true rfl, Nat.le_of_ble_eq_true rfl⟩) (kz_preS hPc hKc hDc) rfl rfl hl.1 rfl (lv_room (Nat.le_of_ble_eq_true rfl)) dL_law_12 ⟨Nat.le_of_ble_eq_true rfl, Nat.le_of_ble_eq_true rfl⟩) hS (fun q _ h => hFc q h) hFc (fun u_23 t H1 locs ht hvm hw hB hz1 hk1 hS => ?_)
  try dsimp only at hw
  obtain ⟨tm_24, a9_25, nw_26, a11_27, a12_28, a16_29, a17_30, a18_31, a19_32, a20_33, a21_34, a22_35, a23_36, a24_37, a25_38, a26_39, a28_40, a29_41, a30_42, a31_43, a32_44, a33_45, a35_46, a36_47, cM_48, cI_49⟩ := u_23
  obtain ⟨hP1, hK1, hD1⟩ := hB
  rw [ht] at hP1
  have hK1 := va_K.moved hvm.symm hK1
  obtain ⟨hP, hD⟩ := va_join (wr := [(q1, .inr (11, [.ref tp_4, .ref hi_9, .ref sh_12, .ref g3_14, .ref g4_15, .ref g5_16, .ref g6_17, .ref g7_18, .ref g8_19, .ref g9_20, .int 0, .int 0])), (tp_4, .inr (8, [.ref i1_5, .ref i2_6, .int 0, .int 0, .int 0, .int 0, .int 0, .ref bt_7, .int 0, .int 0, .int 0])), (bt_7, .inl (cB_8, 300, .inl (fun _ => 0))), (hi_9, .inr (3, [.int 0, .ref t1_10, .ref t2_11, .int 0])), (sh_12, .inl (cT_13, 2, .inr (.inr (.inr (.inr (fun _ => none))))))]) (w1 := [(q21, .inr (12, [.ref tm_24, .int 0, .int 0, .int 0, .int 0, .int 0, .int 0, .int 0, .int 0, .ref a9_25, .ref nw_26, .ref a11_27, .ref a12_28, .int 0, .int 0, .int 0, .ref a16_29, .ref a17_30, .ref a18_31, .ref a19_32, .ref a20_33, .ref a21_34, .ref a22_35, .ref a23_36, .ref a24_37, .ref a25_38, .ref a26_39, .int 0, .ref a28_40, .ref a29_41, .ref a30_42, .ref a31_43, .ref a32_44, .ref a33_45, .int 0, .ref a35_46, .ref a36_47])), (tm_24, .inl (cM_48, 300, .inl (fun _ => 0))), (nw_26, .inl (cI_49, 12507, .inl (fun _ => 0)))]) hP hD [5] [0, 1, 2, 3, 4] rfl rfl (by decide) (by decide) hk1 hFc hP1 hD1
  have hK := (hK.sub (tys' := [(cB_8, .byte), (cT_13, .object RX10)]) [0, 1] rfl).app hK1
  generalize H1 = H at hP hS ⊢
  have hP : va_P (dC, dI) vwCl [(q1, .inr (11, [.ref tp_4, .ref hi_9, .ref sh_12, .ref g3_14, .ref g4_15, .ref g5_16, .ref g6_17, .ref g7_18, .ref g8_19, .ref g9_20, .int 0, .int 0])), (tp_4, .inr (8, [.ref i1_5, .ref i2_6, .int 0, .int 0, .int 0, .int 0, .int 0, .ref bt_7, .int 0, .int 0, .int 0])), (bt_7, .inl (cB_8, 300, .inl (fun _ => 0))), (hi_9, .inr (3, [.int 0, .ref t1_10, .ref t2_11, .int 0])), (sh_12, .inl (cT_13, 2, .inr (.inr (.inr (.inr (fun _ => none)))))), (q21, .inr (12, [.ref tm_24, .int 0, .int 0, .int 0, .int 0, .int 0, .int 0, .int 0, .int 0, .ref a9_25, .ref nw_26, .ref a11_27, .ref a12_28, .int 0, .int 0, .int 0, .ref a16_29, .ref a17_30, .ref a18_31, .ref a19_32, .ref a20_33, .ref a21_34, .ref a22_35, .ref a23_36, .ref a24_37, .ref a25_38, .ref a26_39, .int 0, .ref a28_40, .ref a29_41, .ref a30_42, .ref a31_43, .ref a32_44, .ref a33_45, .int 0, .ref a35_46, .ref a36_47])), (tm_24, .inl (cM_48, 300, .inl (fun _ => 0))), (nw_26, .inl (cI_49, 12507, .inl (fun _ => 0)))] H := hP
  have hD : va_D (fun q : Nat => s.heap.size ≤ q) [(q1, .inr (11, [.ref tp_4, .ref hi_9, .ref sh_12, .ref g3_14, .ref g4_15, .ref g5_16, .ref g6_17, .ref g7_18, .ref g8_19, .ref g9_20, .int 0, .int 0])), (tp_4, .inr (8, [.ref i1_5, .ref i2_6, .int 0, .int 0, .int 0, .int 0, .int 0, .ref bt_7, .int 0, .int 0, .int 0])), (bt_7, .inl (cB_8, 300, .inl (fun _ => 0))), (hi_9, .inr (3, [.int 0, .ref t1_10, .ref t2_11, .int 0])), (sh_12, .inl (cT_13, 2, .inr (.inr (.inr (.inr (fun _ => none)))))), (q21, .inr (12, [.ref tm_24, .int 0, .int 0, .int 0, .int 0, .int 0, .int 0, .int 0, .int 0, .ref a9_25, .ref nw_26, .ref a11_27, .ref a12_28, .int 0, .int 0, .int 0, .ref a16_29, .ref a17_30, .ref a18_31, .ref a19_32, .ref a20_33, .ref a21_34, .ref a22_35, .ref a23_36, .ref a24_37, .ref a25_38, .ref a26_39, .int 0, .ref a28_40, .ref a29_41, .ref a30_42, .ref a31_43, .ref a32_44, .ref a33_45, .int 0, .ref a35_46, .ref a36_47])), (tm_24, .inl (cM_48, 300, .inl (fun _ => 0))), (nw_26, .inl (cI_49, 12507, .inl (fun _ => 0)))] := hD
  have hK : va_K (dC, dI) vwCl [(cB_8, .byte), (cT_13, .object RX10), (cM_48, .byte), (cI_49, .int)] s := hK
  refine W.widen (k := 80) (n := 147144) (Nat.le_of_ble_eq_true rfl) (Nat.le_of_ble_eq_true rfl) ?_
  refine lv_astore_n (lv' := [(2, .ref q21), (1, .ref q1), (0, .ref b)]) hx hb dL_law_15 rfl hl (by decide) rfl (fun ls hl => ?_)
  refine lv_iconst (v := 0) hx hb dL_law_16 (by decide) ?_
  refine lv_istore_n (lv' := [(3, .int 0), (2, .ref q21), (1, .ref q1), (0, .ref b)]) hx hb dL_law_17 rfl hl (by decide) rfl (fun ls hl => ?_)
  refine lv_iload_n hx hb dL_law_18 rfl (lv_at hl 0 rfl) ?_
  refine lv_aload_n hx hb dL_law_19 rfl (lv_at hl 3 rfl) ?_
  refine va_slen hx hb hX hbl hbA hS dL_law_20 ?_
  refine lv_bipush (v := 6) hx hb dL_law_21 (by decide) ?_
  refine lv_isub hx hb dL_law_23 ?_
  refine lv_icmp_gt (tgt := 977) hx hb dL_law_24 (by decide) (fun c_50 => ?_) (fun c_50 => ?_)
  · refine lv_iconst (v := 1) hx hb dL_law_977 (by decide) ?_
    refine va_forget (fun q hq => hS.2.2 q hq) ?_
    refine W.widen (k := 600000) (n := 7302250) (Nat.le_of_ble_eq_true rfl) (Nat.le_of_ble_eq_true rfl) ?_
    refine W.base ?_
    exact lw_ret (Drawn.sameBut.refl s.drawn lw_cs) hx hb hr hlocks dL_law_978
  · obtain rfl := kz_L hL c_50
    refine lv_aload_n hx hb dL_law_27 rfl (lv_at hl 3 rfl) ?_
    refine lv_iload_n hx hb dL_law_28 rfl (lv_at hl 0 rfl) ?_
    refine va_sld hx hb hX hbl hbA hS (i := 0) (kz_in (by decide +kernel)) dL_law_29 ?_
    refine kz_topi (y := xs 0) (congrArg xs (by decide)) ?_
    refine lv_bipush (v := 31) hx hb dL_law_30 (by decide) ?_
    refine lv_iand hx hb dL_law_32 ?_
    refine lv_topi (fun v ev => ?_)
    rcases kz_sw0_26 v with e0 | e1 | e2 | e3 | e4 | e5 | e6 | e7 | e8 | e9 | e10 | e11 | e12 | e13 | e14 | e15 | e16 | e17 | e18 | e19 | e20 | e21 | e22 | e23 | e24 | e25 | e26 | ho
    · subst e0
      refine lv_tableIn (tgt := 156) hx hb dL_law_33 (by decide) (by decide) rfl (by decide) ?_
      exact law_0 C0 hK hP hD hS (lv_sub hl [0, 1, 2, 3] rfl)
    · subst e1
      refine lv_tableIn (tgt := 219) hx hb dL_law_33 (by decide) (by decide) rfl (by decide) ?_
      exact law_1 C0 hK hP hD hS (lv_sub hl [0, 1, 2, 3] rfl)
    · subst e2
      refine lv_tableIn (tgt := 242) hx hb dL_law_33 (by decide) (by decide) rfl (by decide) ?_
      exact law_2 C0 hT1 hT2 hK hP hD hS (lv_sub hl [0, 1, 2, 3] rfl)
    · subst e3
      refine lv_tableIn (tgt := 255) hx hb dL_law_33 (by decide) (by decide) rfl (by decide) ?_
      exact law_3 C0 hK hP hD hS (lv_sub hl [0, 1, 2, 3] rfl)
    · subst e4
      refine lv_tableIn (tgt := 318) hx hb dL_law_33 (by decide) (by decide) rfl (by decide) ?_
      exact law_4 C0 hK hP hD hS (lv_sub hl [0, 1, 2, 3] rfl)
    · subst e5
      refine lv_tableIn (tgt := 341) hx hb dL_law_33 (by decide) (by decide) rfl (by decide) ?_
      exact law_5 C0 hK hP hD hS (lv_sub hl [0, 1, 2, 3] rfl)
    · subst e6
      refine lv_tableIn (tgt := 384) hx hb dL_law_33 (by decide) (by decide) rfl (by decide) ?_
      exact law_6 C0 hK hP hD hS (lv_sub hl [0, 1, 2, 3] rfl)
    · subst e7
      refine lv_tableIn (tgt := 397) hx hb dL_law_33 (by decide) (by decide) rfl (by decide) ?_
      exact law_7 C0 hK hP hD hS (lv_sub hl [0, 1, 2, 3] rfl)
    · subst e8
      refine lv_tableIn (tgt := 430) hx hb dL_law_33 (by decide) (by decide) rfl (by decide) ?_
      exact law_8 C0 hK hP hD hS (lv_sub hl [0, 1, 2, 3] rfl)
    · subst e9
      refine lv_tableIn (tgt := 453) hx hb dL_law_33 (by decide) (by decide) rfl (by decide) ?_
      exact law_9 C0 hK hP hD hS (lv_sub hl [0, 1, 2, 3] rfl)
    · subst e10
      refine lv_tableIn (tgt := 476) hx hb dL_law_33 (by decide) (by decide) rfl (by decide) ?_
      exact law_10 C0 hK hP hD hS (lv_sub hl [0, 1, 2, 3] rfl)
    · subst e11
      refine lv_tableIn (tgt := 489) hx hb dL_law_33 (by decide) (by decide) rfl (by decide) ?_
      exact law_11 C0 hK hP hD hS (lv_sub hl [0, 1, 2, 3] rfl)
    · subst e12
      refine lv_tableIn (tgt := 512) hx hb dL_law_33 (by decide) (by decide) rfl (by decide) ?_
      exact law_12 C0 hK hP hD hS (lv_sub hl [0, 1, 2, 3] rfl)
    · subst e13
      refine lv_tableIn (tgt := 535) hx hb dL_law_33 (by decide) (by decide) rfl (by decide) ?_
      exact law_13 C0 hK hP hD hS (lv_sub hl [0, 1, 2, 3] rfl)
    · subst e14
      refine lv_tableIn (tgt := 568) hx hb dL_law_33 (by decide) (by decide) rfl (by decide) ?_
      exact law_14 C0 hK hP hD hS (lv_sub hl [0, 1, 2, 3] rfl)
    · subst e15
      refine lv_tableIn (tgt := 601) hx hb dL_law_33 (by decide) (by decide) rfl (by decide) ?_
      exact law_15 C0 hK hP hD hS (lv_sub hl [0, 1, 2, 3] rfl)
    · subst e16
      refine lv_tableIn (tgt := 634) hx hb dL_law_33 (by decide) (by decide) rfl (by decide) ?_
      exact law_16 C0 hK hP hD hS (lv_sub hl [0, 1, 2, 3] rfl)
    · subst e17
      refine lv_tableIn (tgt := 687) hx hb dL_law_33 (by decide) (by decide) rfl (by decide) ?_
      exact law_17 C0 hK hP hD hS (lv_sub hl [0, 1, 2, 3] rfl)
    · subst e18
      refine lv_tableIn (tgt := 750) hx hb dL_law_33 (by decide) (by decide) rfl (by decide) ?_
      exact law_18 C0 hK hP hD hS (lv_sub hl [0, 1, 2, 3] rfl)
    · subst e19
      refine lv_tableIn (tgt := 803) hx hb dL_law_33 (by decide) (by decide) rfl (by decide) ?_
      exact law_19 C0 hK hP hD hS (lv_sub hl [0, 1, 2, 3] rfl)
    · subst e20
      refine lv_tableIn (tgt := 816) hx hb dL_law_33 (by decide) (by decide) rfl (by decide) ?_
      exact law_20 C0 hK hP hD hS (lv_sub hl [0, 1, 2, 3] rfl)
    · subst e21
      refine lv_tableIn (tgt := 830) hx hb dL_law_33 (by decide) (by decide) rfl (by decide) ?_
      exact law_21 C0 hK hP hD hS (lv_sub hl [0, 1, 2, 3] rfl)
    · subst e22
      refine lv_tableIn (tgt := 854) hx hb dL_law_33 (by decide) (by decide) rfl (by decide) ?_
      exact law_22 C0 hK hP hD hS (lv_sub hl [0, 1, 2, 3] rfl)
    · subst e23
      refine lv_tableIn (tgt := 867) hx hb dL_law_33 (by decide) (by decide) rfl (by decide) ?_
      exact law_23 C0 hK hP hD hS (lv_sub hl [0, 1, 2, 3] rfl)
    · subst e24
      refine lv_tableIn (tgt := 901) hx hb dL_law_33 (by decide) (by decide) rfl (by decide) ?_
      exact law_24 C0 hK hP hD hS (lv_sub hl [0, 1, 2, 3] rfl)
    · subst e25
      refine lv_tableIn (tgt := 925) hx hb dL_law_33 (by decide) (by decide) rfl (by decide) ?_
      exact law_25 C0 hK hP hD hS (lv_sub hl [0, 1, 2, 3] rfl)
    · subst e26
      refine lv_tableIn (tgt := 948) hx hb dL_law_33 (by decide) (by decide) rfl (by decide) ?_
      exact law_26 C0 hK hP hD hS (lv_sub hl [0, 1, 2, 3] rfl)
    · refine lv_tableOut (tgt := 971) hx hb dL_law_33 ho (by decide) ?_
      exact law_tail C0 hS (lv_sub hl [0, 3] rfl)
set_option maxHeartbeats 4000000 in
theorem lw_walk (l : Launch) (hflags : l.flags = flags0) (b : Addr) (xs : List Int32) : MetFree l x (headSpec (Jvm.Cond.code x code maxLocals ret :: tables_1) room_1) (lw_P b xs) (fun _ _ _ _ _ => True) lw_Q := by
  refine MetFree.of_bodyS (code := code) (maxLocals := maxLocals) (ret := ret) (by decide) ?_ ?_
  · intro args s m h hn
    obtain ⟨meth, c, h1, h2, h3, h4, h5, h6, -, -⟩ := Cond.code_spec hn (atoms_spec (ws := Jvm.Cond.code x code maxLocals ret :: tables_1) h _ List.mem_cons_self)
    exact ⟨meth, c, h1, h2, h3, h4, h5, h6⟩
  · intro p e s m args below meth c s₁ B hml0 hP _
    obtain ⟨rfl, hx, hbd, hgv⟩ := hP
    obtain ⟨scr, harrAt, hlist, hof, hsmall⟩ := hx
    obtain ⟨hcb, hkn, -, -⟩ := State.arrayAt?_spec harrAt
    have hown : s.vm.findClass R_law = some m.cls := findClass_of_methodNamed B.named
    have hts0 : ∀ c ∈ (Jvm.Cond.code x code maxLocals ret :: tables_1), c.before #[Value.ref b] s = true := atoms_spec (ws := Jvm.Cond.code x code maxLocals ret :: tables_1) B.pre
    have hts : ∀ w ∈ lw_tbl, w.before #[Value.ref b] s = true := k2_hts_sels lw_privs (fun w hw => hts0 w (List.mem_cons_of_mem _ hw)) lw_privs_ok
    have hml : c.maxLocals = 4 := B.maxLocals_eq (hts0 _ List.mem_cons_self)
    have X₀ : Stand p l e room_1 s m #[Value.ref b] below meth c s₁ [] 0 0 := Stand.of_body B
    have hh0 : s₁.heap = s.heap := by rw [B.state]; rfl
    have hsz : scr.slots.size = xs.length := by rw [← Array.length_toList, hlist, List.length_map]
    have hval : ∀ j : Nat, j < xs.length → scr.slots[j]? = some (.int (xs.getD j 0)) := fun j hj => by
      rw [← Array.getElem?_toList, hlist]
      simp [hj]
    have hbl : b < s.heap.size := (Array.getElem?_eq_some_iff.mp hcb).1
    have hX : va_X b xs.length (fun j => xs.getD j 0) s s.heap := ⟨scr, hcb, hof, hkn, hsz, hval⟩
    have K : W p l e room_1 s m #[Value.ref b] below meth c s₁.heap [] 0 0 (lw_Z below #[Value.ref b] s) (entryFrame m ([Value.ref b] : List Value).toArray 4) := by
      rw [hh0]
      exact whole_start l hflags hbd ⟨B.exec, B.bytes, B.returns, hml, hown, hts, hX, hbl, B.notSynchronized, hgv⟩
    obtain ⟨t, a1, o, b1, b2, b3⟩ := K s₁ rfl X₀
    exact ⟨t, o, a1, b1, b2, b3⟩
theorem lw_pre_spec {args : Array Value} {s : State} (h : (Jvm.Cond.and given_1 narrow_1).before args s = true) (hr : rest_1_c.before args s = true) : ∃ (b : Addr) (xs : List Int32), lw_P b xs args s := by
  have hs := flat_of_before _ h
  have hq := flat_of_before _ hr
  have hc : (Cond.count 1).before args s = true := hs _ (by decide +kernel)
  have harr : (Cond.arrayOf (.arg 0) .int).before args s = true := hs _ (by decide +kernel)
  have hle : (Cond.le (.length (.arg 0)) (.int 6)).before args s = true := hs _ (by decide +kernel)
  have hlen : (Cond.isInt (.length (.arg 0))).before args s = true := hq _ (by decide +kernel)
  have hall : (Cond.all (.arg 0) (.isInt (.elem (.arg 0) (.index 0)))).before args s = true := hq _ (by decide +kernel)
  obtain ⟨b, xs, hb, hx⟩ := State.ints_of_pre rfl harr hlen hall
  have hsm : xs.length < 2 ^ 31 := hx.choose_spec.2.2.2
  have hev : (Term.length (.arg 0)).eval args s none [] s = some (.int xs.length.toInt32) := hx.length_eval hb
  have hv := Cond.le_ints hev (show (Term.int 6).eval args s none [] s = some (.int 6) from rfl)
  have hd : xs.length.toInt32 ≤ 6 := by
    simpa [Cond.before, Cond.holds, hv] using hle
  have hN : xs.length ≤ 6 := (Int32.ofNat_le_ofNat hsm (by decide)).mp (show Int32.ofNat xs.length ≤ Int32.ofNat 6 from hd)
  exact ⟨b, xs, Cond.one_arg hc (show args[0]? = some (.ref b) from hb), hx, hN, h⟩
theorem lw_comes (l : Launch) (hflags : l.flags = flags0) : Comes l x (Jvm.Cond.code x code maxLocals ret :: tables_1) room_1 (fun tb e args s => Calls_1 tb e args s ∧ rest_1 tb e args s ∧ Pre_1 tb e args s)
    (fun _ _ args s o t => lw_Q args s o t) := by
  intro p e ha hc hk s m args below hf hfit hheap happ hpre
  obtain ⟨b, xs, hP⟩ := lw_pre_spec hpre.2.2 hpre.2.1
  obtain ⟨k, o, h1, h2, h3, hQ⟩ := lw_walk l hflags b xs p e ha hc hk s m args below hf ((Spec.applies_iff_loose hf).mp happ).1 hP trivial
  exact ⟨k, o, h1, h2, h3, hQ⟩
theorem lw_frame {s t : State} {o : Outcome} {args : Array Value} (h : State.butDraws s t lw_cs (fun t1 => Framed s o t1 [] 600000 7302250)) :
    State.butDraws s t [Jvm.Choice.named "NaN.bits"] (fun t1 => Framed s o t1 (fieldLocs frame_1_writes args s ++ arrayLocs frame_1_arrays args s ++ staticLocs frame_1_statics s) 600000 7302250) := h
theorem lw_limb (L : Cond) (hL : ∀ (args : Array Value) (s t : State), L.after args s (.returned (some (.int 1))) t = true) :
    ArmFor flags0 classFile x code maxLocals ret World_1 tables_1 room_1 Calls_1 rest_1 Pre_1
      (fun tb e a s o t => postC L tb e a s o t ∧ State.butDraws s t [Jvm.Choice.named "NaN.bits"] (fun t1 => Framed s o t1 (fieldLocs frame_1_writes a s ++ arrayLocs frame_1_arrays a s ++ staticLocs frame_1_statics s) 600000 7302250)) := by
  intro l hflags _ _ p e ha hc hk s m args below hf hfit hheap happ hpre
  obtain ⟨k, o, h1, h2, h3, rfl, hF⟩ := lw_comes l hflags p e ha hc hk s m args below hf hfit hheap happ hpre
  exact ⟨k, _, h1, h2, h3, hL args s _, lw_frame hF⟩
theorem i_vc : Claimed_1_1 ∧ Claimed_1_2 := ⟨lw_limb limb_1_1 (fun args s t => by simp [limb_1_1, Cond.after, Cond.holds, Cond.value]), lw_limb limb_1_2 (fun args s t => Cond.after_iff.mpr (by
  first | (rw [show limb_1_2 = Cond.eq .result (.int 1) from rfl, Cond.eq_ints (x := 1) (y := 1) rfl rfl]; simp; done) | (simp [limb_1_2, Cond.value, Term.eval]; done)))⟩
