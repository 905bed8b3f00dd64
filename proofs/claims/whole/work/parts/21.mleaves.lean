/-! the reference: isRow, placesOf, many, hasRoom, shift, change -/
set_option maxHeartbeats 4000000 in
set_option maxRecDepth 100000 in
theorem m_placesOf (l : Launch) (n : Nat) (hn : n ≤ 16384) : Met l yX3_placesOf wsX3_placesOf ({ frames := 0, cells := 0, slots := 0, locals := 0 } : Room) (sf_PreT [.int (nI n)]) (vp_Si (fun r => r = nI (sf_P n))) 0 0 (fun _ => False) := by
  refine Met.ofW (cc := cX3_placesOf) (maxL := 1) (ret := (some .int)) (by decide) rfl ?_
  intro p e s m args below meth c s₁ B hml hv
  obtain ⟨rfl, -⟩ := hv
  have hx := B.exec
  have hb := B.bytes
  have hr := B.returns
  have hts := atoms_spec (ws := wsX3_placesOf) B.pre
  have hown : s.vm.findClass RX3 = some m.cls := findClass_of_methodNamed B.named
  have hlocks := B.notSynchronized
  have hl := lv_entry ([.int (nI n)]) (n := 1) (Nat.le_of_ble_eq_true rfl)
  rw [lg_entry_eq]
  generalize (lg_sl ([.int (nI n)]) ++ List.replicate (1 - (lg_sl ([.int (nI n)])).length) Slot.unset).toArray = ls at hl ⊢
  have hl : lv_has ls 1 [(0, .int (nI n))] := hl
  refine lv_iload_n hx hb dX3_placesOf_0 rfl (lv_at hl 0 rfl) ?_
  refine lv_bipush (v := nI 7) hx hb dX3_placesOf_1 (by decide) ?_
  refine sf_iadd hx hb dX3_placesOf_3 ?_
  refine lv_bipush (v := nI 8) hx hb dX3_placesOf_4 (by decide) ?_
  refine sf_idiv hx hb (by omega) (by omega) (by omega) dX3_placesOf_6 ?_
  refine lv_bipush (v := nI 8) hx hb dX3_placesOf_7 (by decide) ?_
  refine sf_imul hx hb dX3_placesOf_9 ?_
  exact W.iret (v := nI ((n + 7) / 8 * 8)) hx hb hr (fun t ht hW => ⟨_, rfl, rfl, ht⟩) sf_noloc dX3_placesOf_10
set_option maxHeartbeats 4000000 in
set_option maxRecDepth 100000 in
/-- isRow(row) -/
theorem m_isRow (l : Launch) (dC : Nat → ClassId) (dI : Nat → Nat → Nat) (b0 b1 b2 b3 b4 : Nat) (d1 d2 d3 d4 : ClassId) (us nu bm tn : Nat) (g za : Nat → Int32) (ss bk : Nat → Nat) (sz : Nat) (row : Int32) (hnu : nu ≤ 20000) : Met l yX3_isRow wsX3_isRow ({ frames := 0, cells := 0, slots := 0, locals := 0 } : Room) (sf_Pre (dC, dI) vwCl [(d1, .byte), (d2, .int), (d3, .int), (d4, .int)] [.ref b0, .int row] (mw_w b0 b1 b2 b3 b4 d1 d2 d3 d4 us nu bm tn g za ss bk) sz) (vp_Si (fun r => (r = nI 1 ∧ ∃ k : Nat, k < nu ∧ row = nI k ∧ ¬ za k < 0) ∨ (r = nI 0 ∧ ∀ k : Nat, k < nu → row = nI k → za k < 0))) 0 0 (fun _ => False) := by
  refine Met.ofW (cc := cX3_isRow) (maxL := 2) (ret := (some .boolean)) (by decide) rfl ?_
  intro p e s m args below meth c s₁ B hml hv
  obtain ⟨rfl, hsz, hP, hK, hD0, hN⟩ := hv
  have hx := B.exec
  have hb := B.bytes
  have hr := B.returns
  have hts := atoms_spec (ws := wsX3_isRow) B.pre
  have hown : s.vm.findClass RX3 = some m.cls := findClass_of_methodNamed B.named
  have hlocks := B.notSynchronized
  subst hsz
  have hD := hD0.self (sz := s.heap.size)
  generalize hAe : va_A (mw_w b0 b1 b2 b3 b4 d1 d2 d3 d4 us nu bm tn g za ss bk) s.heap.size = A at hD ⊢
  have hA : ∀ q : Nat, s.heap.size ≤ q → A q := fun q h => by rw [← hAe]; exact Or.inr h
  have hS : va_S A s.heap s.heap [] := va_S.rf
  have hl := lv_entry ([.ref b0, .int row]) (n := 2) (Nat.le_of_ble_eq_true rfl)
  rw [lg_entry_eq]
  generalize (lg_sl ([.ref b0, .int row]) ++ List.replicate (2 - (lg_sl ([.ref b0, .int row])).length) Slot.unset).toArray = ls at hl ⊢
  have hl : lv_has ls 2 [(0, .ref b0), (1, .int row)] := hl
  refine lv_iload_n hx hb dX3_isRow_0 rfl (lv_at hl 1 rfl) ?_
  refine lv_if_lt (tgt := 25) hx hb dX3_isRow_1 (by decide) (fun c_1 => ?_) (fun c_1 => ?_)
  · have hno : ∀ k : Nat, k < nu → row = nI k → za k < 0 := fun k hk q => absurd (by rw [q] at c_1; exact c_1) (nI_pos (n := k) (by omega))
    refine lv_iconst (v := nI 0) hx hb dX3_isRow_25 (by decide) ?_
    exact W.zret (v := nI 0) hx hb hr (by decide) (fun t ht hW => ⟨_, rfl, Or.inr ⟨rfl, hno⟩, ht⟩) sf_noloc dX3_isRow_26
  · obtain ⟨k, hk0, rfl⟩ := nI_of c_1
    refine lv_iload_n hx hb dX3_isRow_4 rfl (lv_at hl 1 rfl) ?_
    refine lv_aload_n hx hb dX3_isRow_5 rfl (lv_at hl 0 rfl) ?_
    refine va_get (D := (dC, dI)) (ci := 3) (v := .int (nI nu)) (C := RX3) (T := TX3) (N := 8) hx hb hts sf_inX3 hown hK hP 0 rfl rfl 4 (by decide) (hts _ (sf_mem fl_X3_24 rfl)) (fun _ h9 => h9) rfl dX3_isRow_6 ?_
    refine sf_icmp_ge (tgt := 25) hx hb (by omega) (by omega) dX3_isRow_9 (by decide) (fun c_9 => ?_) (fun c_9 => ?_)
    · have hno : ∀ k2 : Nat, k2 < nu → nI k = nI k2 → za k2 < 0 := fun k2 hk q => by
        have := (nI_eq hk0 (by omega)).mp q
        omega
      refine lv_iconst (v := nI 0) hx hb dX3_isRow_25 (by decide) ?_
      exact W.zret (v := nI 0) hx hb hr (by decide) (fun t ht hW => ⟨_, rfl, Or.inr ⟨rfl, hno⟩, ht⟩) sf_noloc dX3_isRow_26
    · refine lv_aload_n hx hb dX3_isRow_12 rfl (lv_at hl 0 rfl) ?_
      refine va_get (D := (dC, dI)) (ci := 3) (v := .ref b3) (C := RX3) (T := TX3) (N := 8) hx hb hts sf_inX3 hown hK hP 0 rfl rfl 3 (by decide) (hts _ (sf_mem fl_X3_18 rfl)) (fun _ h9 => h9) rfl dX3_isRow_13 ?_
      refine lv_iload_n hx hb dX3_isRow_16 rfl (lv_at hl 1 rfl) ?_
      refine sf_iald hx hb hK hP 3 2 rfl rfl (by omega) (by decide) dX3_isRow_17 ?_
      refine lv_if_lt (tgt := 25) hx hb dX3_isRow_18 (by decide) (fun c_18 => ?_) (fun c_18 => ?_)
      · have hno : ∀ k2 : Nat, k2 < nu → nI k = nI k2 → za k2 < 0 := fun k2 hk q => by
          rw [← (nI_eq hk0 (by omega)).mp q]
          exact c_18
        refine lv_iconst (v := nI 0) hx hb dX3_isRow_25 (by decide) ?_
        exact W.zret (v := nI 0) hx hb hr (by decide) (fun t ht hW => ⟨_, rfl, Or.inr ⟨rfl, hno⟩, ht⟩) sf_noloc dX3_isRow_26
      · refine lv_iconst (v := nI 1) hx hb dX3_isRow_21 (by decide) ?_
        refine lv_goto (tgt := 26) hx hb dX3_isRow_22 (by decide) ?_
        exact W.zret (v := nI 1) hx hb hr (by decide) (fun t ht hW => ⟨_, rfl, Or.inl ⟨rfl, k, c_9, rfl, c_18⟩, ht⟩) sf_noloc dX3_isRow_26
set_option maxHeartbeats 4000000 in
set_option maxRecDepth 100000 in
/-- many() -/
theorem m_many (l : Launch) (dC : Nat → ClassId) (dI : Nat → Nat → Nat) (b0 b1 b2 b3 b4 : Nat) (d1 d2 d3 d4 : ClassId) (us nu bm tn : Nat) (g za : Nat → Int32) (ss bk : Nat → Nat) (sz : Nat) (hbm : bm ≤ nu) : Met l yX3_many wsX3_many ({ frames := 0, cells := 0, slots := 0, locals := 0 } : Room) (sf_Pre (dC, dI) vwCl [(d1, .byte), (d2, .int), (d3, .int), (d4, .int)] [.ref b0] (mw_w b0 b1 b2 b3 b4 d1 d2 d3 d4 us nu bm tn g za ss bk) sz) (vp_Si (fun r => r = nI (nu - bm))) 0 0 (fun _ => False) := by
  refine Met.ofW (cc := cX3_many) (maxL := 1) (ret := (some .int)) (by decide) rfl ?_
  intro p e s m args below meth c s₁ B hml hv
  obtain ⟨rfl, hsz, hP, hK, hD0, hN⟩ := hv
  have hx := B.exec
  have hb := B.bytes
  have hr := B.returns
  have hts := atoms_spec (ws := wsX3_many) B.pre
  have hown : s.vm.findClass RX3 = some m.cls := findClass_of_methodNamed B.named
  have hlocks := B.notSynchronized
  subst hsz
  have hD := hD0.self (sz := s.heap.size)
  generalize hAe : va_A (mw_w b0 b1 b2 b3 b4 d1 d2 d3 d4 us nu bm tn g za ss bk) s.heap.size = A at hD ⊢
  have hA : ∀ q : Nat, s.heap.size ≤ q → A q := fun q h => by rw [← hAe]; exact Or.inr h
  have hS : va_S A s.heap s.heap [] := va_S.rf
  have hl := lv_entry ([.ref b0]) (n := 1) (Nat.le_of_ble_eq_true rfl)
  rw [lg_entry_eq]
  generalize (lg_sl ([.ref b0]) ++ List.replicate (1 - (lg_sl ([.ref b0])).length) Slot.unset).toArray = ls at hl ⊢
  have hl : lv_has ls 1 [(0, .ref b0)] := hl
  refine lv_aload_n hx hb dX3_many_0 rfl (lv_at hl 0 rfl) ?_
  refine va_get (D := (dC, dI)) (ci := 3) (v := .int (nI nu)) (C := RX3) (T := TX3) (N := 8) hx hb hts sf_inX3 hown hK hP 0 rfl rfl 4 (by decide) (hts _ (sf_mem fl_X3_24 rfl)) (fun _ h9 => h9) rfl dX3_many_1 ?_
  refine lv_aload_n hx hb dX3_many_4 rfl (lv_at hl 0 rfl) ?_
  refine va_get (D := (dC, dI)) (ci := 3) (v := .int (nI bm)) (C := RX3) (T := TX3) (N := 8) hx hb hts sf_inX3 hown hK hP 0 rfl rfl 6 (by decide) (hts _ (sf_mem fl_X3_28 rfl)) (fun _ h9 => h9) rfl dX3_many_5 ?_
  refine sf_isub hx hb (by omega) dX3_many_8 ?_
  exact W.iret (v := nI (nu - bm)) hx hb hr (fun t ht hW => ⟨_, rfl, rfl, ht⟩) sf_noloc dX3_many_9
set_option maxHeartbeats 4000000 in
set_option maxRecDepth 100000 in
/-- hasRoom(row, n) -/
theorem m_hasRoom (l : Launch) (dC : Nat → ClassId) (dI : Nat → Nat → Nat) (b0 b1 b2 b3 b4 : Nat) (d1 d2 d3 d4 : ClassId) (us nu bm tn : Nat) (g za : Nat → Int32) (ss bk : Nat → Nat) (sz : Nat) (k n old : Nat) (hk : k < 20000) (hza : za k = nI old) (ho : old ≤ 16384) (hn : n ≤ 16384) (htn : tn ≤ 400000) : Met l yX3_hasRoom wsX3_hasRoom ({ frames := 1, cells := 0, slots := 0, locals := 30 } : Room) (sf_Pre (dC, dI) vwCl [(d1, .byte), (d2, .int), (d3, .int), (d4, .int)] [.ref b0, .int (nI k), .int (nI n)] (mw_w b0 b1 b2 b3 b4 d1 d2 d3 d4 us nu bm tn g za ss bk) sz) (vp_Si (fun r => (r = nI 1 ∧ (sf_P n ≤ sf_P old ∨ tn + sf_P n ≤ 400000)) ∨ (r = nI 0 ∧ sf_P old < sf_P n ∧ 400000 < tn + sf_P n))) 0 0 (fun _ => False) := by
  refine Met.ofW (cc := cX3_hasRoom) (maxL := 3) (ret := (some .boolean)) (by decide) rfl ?_
  intro p e s m args below meth c s₁ B hml hv
  obtain ⟨rfl, hsz, hP, hK, hD0, hN⟩ := hv
  have hx := B.exec
  have hb := B.bytes
  have hr := B.returns
  have hts := atoms_spec (ws := wsX3_hasRoom) B.pre
  have hown : s.vm.findClass RX3 = some m.cls := findClass_of_methodNamed B.named
  have hlocks := B.notSynchronized
  subst hsz
  have hD := hD0.self (sz := s.heap.size)
  generalize hAe : va_A (mw_w b0 b1 b2 b3 b4 d1 d2 d3 d4 us nu bm tn g za ss bk) s.heap.size = A at hD ⊢
  have hA : ∀ q : Nat, s.heap.size ≤ q → A q := fun q h => by rw [← hAe]; exact Or.inr h
  have hS : va_S A s.heap s.heap [] := va_S.rf
  have hl := lv_entry ([.ref b0, .int (nI k), .int (nI n)]) (n := 3) (Nat.le_of_ble_eq_true rfl)
  rw [lg_entry_eq]
  generalize (lg_sl ([.ref b0, .int (nI k), .int (nI n)]) ++ List.replicate (3 - (lg_sl ([.ref b0, .int (nI k), .int (nI n)])).length) Slot.unset).toArray = ls at hl ⊢
  have hl : lv_has ls 3 [(0, .ref b0), (1, .int (nI k)), (2, .int (nI n))] := hl
  have hP1 := sf_P_le hn
  have hP2 := sf_P_le ho
  refine lv_iload_n hx hb dX3_hasRoom_0 rfl (lv_at hl 2 rfl) ?_
  refine vp_callSi (va_Run.run (sf_runS (As := [.int (nI n)]) (rest := []) ⟨hx, hb, hml, hown, hts⟩ sf_has (m_placesOf l n (by omega)) k_X3_38 ⟨sf_blindT, sf_preT⟩ rfl hl.1 (Nat.le_of_ble_eq_true rfl) ⟨(Nat.le_of_ble_eq_true rfl), (Nat.le_of_ble_eq_true rfl)⟩ ⟨rfl, rfl⟩ ⟨Nat.zero_le _, Nat.zero_le _⟩ dX3_hasRoom_1)) (fun r_1 h_1 => ?_)
  subst h_1
  refine lv_aload_n hx hb dX3_hasRoom_4 rfl (lv_at hl 0 rfl) ?_
  refine va_get (D := (dC, dI)) (ci := 3) (v := .ref b3) (C := RX3) (T := TX3) (N := 8) hx hb hts sf_inX3 hown hK hP 0 rfl rfl 3 (by decide) (hts _ (sf_mem fl_X3_18 rfl)) (fun _ h9 => h9) rfl dX3_hasRoom_5 ?_
  refine lv_iload_n hx hb dX3_hasRoom_8 rfl (lv_at hl 1 rfl) ?_
  refine sf_iald hx hb hK hP 3 2 rfl rfl (by omega) (by decide) dX3_hasRoom_9 ?_
  rw [hza]
  refine vp_callSi (va_Run.run (sf_runS (As := [.int (nI old)]) (rest := [.int (nI (sf_P n))]) ⟨hx, hb, hml, hown, hts⟩ sf_has (m_placesOf l old (by omega)) k_X3_38 ⟨sf_blindT, sf_preT⟩ rfl hl.1 (Nat.le_of_ble_eq_true rfl) ⟨(Nat.le_of_ble_eq_true rfl), (Nat.le_of_ble_eq_true rfl)⟩ ⟨rfl, rfl⟩ ⟨Nat.zero_le _, Nat.zero_le _⟩ dX3_hasRoom_10)) (fun r_10 h_10 => ?_)
  subst h_10
  refine sf_icmp_le (tgt := 30) hx hb (by omega) (by omega) dX3_hasRoom_13 (by decide) (fun c_13 => ?_) (fun c_13 => ?_)
  · refine lv_iconst (v := nI 1) hx hb dX3_hasRoom_30 (by decide) ?_
    refine lv_goto (tgt := 35) hx hb dX3_hasRoom_31 (by decide) ?_
    exact W.zret (v := nI 1) hx hb hr (by decide) (fun t ht hW => ⟨_, rfl, Or.inl ⟨rfl, by omega⟩, ht⟩) sf_noloc dX3_hasRoom_35
  · refine lv_aload_n hx hb dX3_hasRoom_16 rfl (lv_at hl 0 rfl) ?_
    refine va_get (D := (dC, dI)) (ci := 3) (v := .int (nI tn)) (C := RX3) (T := TX3) (N := 8) hx hb hts sf_inX3 hown hK hP 0 rfl rfl 7 (by decide) (hts _ (sf_mem fl_X3_35 rfl)) (fun _ h9 => h9) rfl dX3_hasRoom_17 ?_
    refine lv_iload_n hx hb dX3_hasRoom_20 rfl (lv_at hl 2 rfl) ?_
    refine vp_callSi (va_Run.run (sf_runS (As := [.int (nI n)]) (rest := [.int (nI tn)]) ⟨hx, hb, hml, hown, hts⟩ sf_has (m_placesOf l n (by omega)) k_X3_38 ⟨sf_blindT, sf_preT⟩ rfl hl.1 (Nat.le_of_ble_eq_true rfl) ⟨(Nat.le_of_ble_eq_true rfl), (Nat.le_of_ble_eq_true rfl)⟩ ⟨rfl, rfl⟩ ⟨Nat.zero_le _, Nat.zero_le _⟩ dX3_hasRoom_21)) (fun r_21 h_21 => ?_)
    subst h_21
    refine sf_iadd hx hb dX3_hasRoom_24 ?_
    refine lv_ldc (v := nI 400000) hx hb hown (hts _ (sf_mem cn_X3_7 rfl)) dX3_hasRoom_25 ?_
    refine sf_icmp_gt (tgt := 34) hx hb (by omega) (by omega) dX3_hasRoom_27 (by decide) (fun c_27 => ?_) (fun c_27 => ?_)
    · refine lv_iconst (v := nI 0) hx hb dX3_hasRoom_34 (by decide) ?_
      exact W.zret (v := nI 0) hx hb hr (by decide) (fun t ht hW => ⟨_, rfl, Or.inr ⟨rfl, by omega, by omega⟩, ht⟩) sf_noloc dX3_hasRoom_35
    · refine lv_iconst (v := nI 1) hx hb dX3_hasRoom_30 (by decide) ?_
      refine lv_goto (tgt := 35) hx hb dX3_hasRoom_31 (by decide) ?_
      exact W.zret (v := nI 1) hx hb hr (by decide) (fun t ht hW => ⟨_, rfl, Or.inl ⟨rfl, by omega⟩, ht⟩) sf_noloc dX3_hasRoom_35
theorem mw_sh_0 {n old b : Nat} {ln ss : Nat → Nat} : mw_sh 0 n old b ln ss = ss := by
  funext k
  unfold mw_sh
  rw [if_neg (by omega)]
theorem mw_sh_at {n old b r : Nat} {ln ss : Nat → Nat} : mw_sh r n old b ln ss r = ss r := by
  unfold mw_sh
  rw [if_neg (by omega)]
theorem mw_sh_yes {n old b r : Nat} {ln ss : Nat → Nat} (h1 : 0 < ln r) (h2 : b < ss r) : va_up (mw_sh r n old b ln ss) r (ss r + n - old) = mw_sh (r + 1) n old b ln ss := by
  funext k
  by_cases q : k = r
  · subst q
    rw [va_up_self]
    unfold mw_sh
    rw [if_pos ⟨by omega, h1, h2⟩]
  · rw [va_up_ne _ _ q]
    unfold mw_sh
    by_cases e : k < r ∧ 0 < ln k ∧ b < ss k
    · rw [if_pos e, if_pos ⟨by omega, e.2⟩]
    · rw [if_neg e, if_neg (fun e2 => e ⟨by omega, e2.2⟩)]
theorem mw_sh_no {n old b r : Nat} {ln ss : Nat → Nat} (h : ¬ (0 < ln r ∧ b < ss r)) : va_up (mw_sh r n old b ln ss) r (ss r + 0) = mw_sh (r + 1) n old b ln ss := by
  funext k
  by_cases q : k = r
  · subst q
    rw [va_up_self]
    unfold mw_sh
    rw [if_neg (fun e => h e.2)]
    rfl
  · rw [va_up_ne _ _ q]
    unfold mw_sh
    by_cases e : k < r ∧ 0 < ln k ∧ b < ss k
    · rw [if_pos e, if_pos ⟨by omega, e.2⟩]
    · rw [if_neg e, if_neg (fun e2 => e ⟨by omega, e2.2⟩)]
set_option maxHeartbeats 4000000 in
set_option maxRecDepth 100000 in
/-- shift(b, n - old) -/
theorem m_shift (l : Launch) (dC : Nat → ClassId) (dI : Nat → Nat → Nat) (b0 b1 b2 b3 b4 : Nat) (d1 d2 d3 d4 : ClassId) (us nu bm tn : Nat) (g za : Nat → Int32) (ss bk : Nat → Nat) (sz : Nat) (b n old : Nat) (ln : Nat → Nat) (hnu : nu ≤ 20000) (hb0 : b ≤ 400000) (hz : ∀ r, r < nu → (za r ≤ 0 ↔ ln r = 0)) (hge : ∀ x, x < nu → 0 < ln x → b < ss x → old ≤ ss x) (hs : ∀ x, x < nu → 0 < ln x → ss x ≤ 400000) : Met l yX3_shift wsX3_shift ({ frames := 0, cells := 0, slots := 0, locals := 0 } : Room) (sf_Pre (dC, dI) vwCl [(d1, .byte), (d2, .int), (d3, .int), (d4, .int)] [.ref b0, .int (nI b), .int (nI n - nI old)] (mw_w b0 b1 b2 b3 b4 d1 d2 d3 d4 us nu bm tn g za ss bk) sz) (va_Qv (fun _ => True) (sf_E (dC, dI) vwCl (va_A (mw_w b0 b1 b2 b3 b4 d1 d2 d3 d4 us nu bm tn g za ss bk) sz) (fun (u : Unit) => mw_w b0 b1 b2 b3 b4 d1 d2 d3 d4 us nu bm tn g za (mw_sh nu n old b ln ss) bk)) (va_A (mw_w b0 b1 b2 b3 b4 d1 d2 d3 d4 us nu bm tn g za ss bk) sz)) 0 0 (va_A (mw_w b0 b1 b2 b3 b4 d1 d2 d3 d4 us nu bm tn g za ss bk) sz) := by
  refine Met.ofW (cc := cX3_shift) (maxL := 4) (ret := none) (by decide) rfl ?_
  intro p e s m args below meth c s₁ B hml hv
  obtain ⟨rfl, hsz, hP, hK, hD0, hN⟩ := hv
  have hx := B.exec
  have hb := B.bytes
  have hr := B.returns
  have hts := atoms_spec (ws := wsX3_shift) B.pre
  have hown : s.vm.findClass RX3 = some m.cls := findClass_of_methodNamed B.named
  have hlocks := B.notSynchronized
  subst hsz
  have hD := hD0.self (sz := s.heap.size)
  generalize hAe : va_A (mw_w b0 b1 b2 b3 b4 d1 d2 d3 d4 us nu bm tn g za ss bk) s.heap.size = A at hD ⊢
  have hA : ∀ q : Nat, s.heap.size ≤ q → A q := fun q h => by rw [← hAe]; exact Or.inr h
  have hS : va_S A s.heap s.heap [] := va_S.rf
  have hl := lv_entry ([.ref b0, .int (nI b), .int (nI n - nI old)]) (n := 4) (Nat.le_of_ble_eq_true rfl)
  rw [lg_entry_eq]
  generalize (lg_sl ([.ref b0, .int (nI b), .int (nI n - nI old)]) ++ List.replicate (4 - (lg_sl ([.ref b0, .int (nI b), .int (nI n - nI old)])).length) Slot.unset).toArray = ls at hl ⊢
  have hl : lv_has ls 4 [(0, .ref b0), (1, .int (nI b)), (2, .int (nI n - nI old))] := hl
  refine lv_iconst (v := nI 0) hx hb dX3_shift_0 (by decide) ?_
  refine lv_istore_n (lv' := [(3, .int (nI 0)), (0, .ref b0), (1, .int (nI b)), (2, .int (nI n - nI old))]) hx hb dX3_shift_1 rfl hl (by decide) rfl (fun ls hl => ?_)
  refine sf_loop (σ := Nat) (fun u => nu - u) (fun u H locs ls => u ≤ nu ∧ va_P (dC, dI) vwCl (mw_w b0 b1 b2 b3 b4 d1 d2 d3 d4 us nu bm tn g za (mw_sh u n old b ln ss) bk) H ∧ va_D A (mw_w b0 b1 b2 b3 b4 d1 d2 d3 d4 us nu bm tn g za (mw_sh u n old b ln ss) bk) ∧ va_S A s.heap H locs ∧ lv_has ls 4 [(0, .ref b0), (1, .int (nI b)), (2, .int (nI n - nI old)), (3, .int (nI u))]) ?_ 0 _ _ _ ?_
  · intro u H locs ls hI2 ih
    obtain ⟨r, rfl⟩ : ∃ r : Nat, r = u := ⟨u, rfl⟩
    obtain ⟨k1, hP, hD, hS, hl⟩ := hI2
    have hsr : mw_sh r n old b ln ss r = ss r := mw_sh_at
    refine lv_iload_n hx hb dX3_shift_2 rfl (lv_at hl 3 rfl) ?_
    refine lv_aload_n hx hb dX3_shift_3 rfl (lv_at hl 0 rfl) ?_
    refine va_get (D := (dC, dI)) (ci := 3) (v := .int (nI nu)) (C := RX3) (T := TX3) (N := 8) hx hb hts sf_inX3 hown hK hP 0 rfl rfl 4 (by decide) (hts _ (sf_mem fl_X3_24 rfl)) (fun _ h9 => h9) rfl dX3_shift_4 ?_
    refine sf_icmp_ge (tgt := 49) hx hb (by omega) (by omega) dX3_shift_7 (by decide) (fun c_7 => ?_) (fun c_7 => ?_)
    · have e9 : r = nu := by omega
      rw [e9] at hP hD
      exact W.vret hx hb hr (fun t ht hW => ⟨⟨(), rfl, trivial, by rw [ht]; exact hP, hD⟩, hS.F ht⟩) hS.2.2 dX3_shift_49
    · refine lv_aload_n hx hb dX3_shift_10 rfl (lv_at hl 0 rfl) ?_
      refine va_get (D := (dC, dI)) (ci := 3) (v := .ref b2) (C := RX3) (T := TX3) (N := 8) hx hb hts sf_inX3 hown hK hP 0 rfl rfl 2 (by decide) (hts _ (sf_mem fl_X3_14 rfl)) (fun _ h9 => h9) rfl dX3_shift_11 ?_
      refine lv_iload_n hx hb dX3_shift_14 rfl (lv_at hl 3 rfl) ?_
      refine lv_dup2_11 hx hb dX3_shift_15 rfl rfl ?_
      refine sf_iald hx hb hK hP 2 1 rfl rfl (by omega) (by decide) dX3_shift_16 ?_
      try dsimp only
      rw [hsr]
      refine lv_aload_n hx hb dX3_shift_17 rfl (lv_at hl 0 rfl) ?_
      refine va_get (D := (dC, dI)) (ci := 3) (v := .ref b3) (C := RX3) (T := TX3) (N := 8) hx hb hts sf_inX3 hown hK hP 0 rfl rfl 3 (by decide) (hts _ (sf_mem fl_X3_18 rfl)) (fun _ h9 => h9) rfl dX3_shift_18 ?_
      refine lv_iload_n hx hb dX3_shift_21 rfl (lv_at hl 3 rfl) ?_
      refine sf_iald hx hb hK hP 3 2 rfl rfl (by omega) (by decide) dX3_shift_22 ?_
      refine lv_if_le (tgt := 40) hx hb dX3_shift_23 (by decide) (fun c_23 => ?_) (fun c_23 => ?_)
      · have hno : ¬ (0 < ln r ∧ b < ss r) := by
          have := (hz r (by omega)).mp c_23
          omega
        refine lv_iconst (v := nI 0) hx hb dX3_shift_40 (by decide) ?_
        refine sf_iadd hx hb dX3_shift_41 ?_
        refine sf_iast hx hb hK hP hD hS 2 1 rfl rfl (by omega) (by decide) dX3_shift_42 (fun H locs hP hD hS => ?_)
        dsimp only [List.set] at hP hD
        rw [mw_updN] at hP hD
        have hP : va_P (dC, dI) vwCl (mw_w b0 b1 b2 b3 b4 d1 d2 d3 d4 us nu bm tn g za (va_up (mw_sh r n old b ln ss) r ((ss r) + 0)) bk) H := hP
        have hD : va_D A (mw_w b0 b1 b2 b3 b4 d1 d2 d3 d4 us nu bm tn g za (va_up (mw_sh r n old b ln ss) r ((ss r) + 0)) bk) := hD
        refine lv_iinc (v := nI (r + 1)) (lv' := [(3, .int (nI (r + 1))), (0, .ref b0), (1, .int (nI b)), (2, .int (nI n - nI old))]) hx hb dX3_shift_43 hl (k := 3) rfl (nI_1 r) (by decide) rfl (fun ls hl => ?_)
        refine lv_goto (tgt := 2) hx hb dX3_shift_46 (by decide) ?_
        rw [mw_sh_no hno] at hP hD
        exact ih (r + 1) _ _ _ (by omega) ⟨by omega, hP, hD, hS, lv_sub hl [1, 2, 3, 0] rfl⟩
      · have hl0 : 0 < ln r := Nat.pos_of_ne_zero (fun q => c_23 ((hz r (by omega)).mpr q))
        have hsb := hs r (by omega) hl0
        refine lv_aload_n hx hb dX3_shift_26 rfl (lv_at hl 0 rfl) ?_
        refine va_get (D := (dC, dI)) (ci := 3) (v := .ref b2) (C := RX3) (T := TX3) (N := 8) hx hb hts sf_inX3 hown hK hP 0 rfl rfl 2 (by decide) (hts _ (sf_mem fl_X3_14 rfl)) (fun _ h9 => h9) rfl dX3_shift_27 ?_
        refine lv_iload_n hx hb dX3_shift_30 rfl (lv_at hl 3 rfl) ?_
        refine sf_iald hx hb hK hP 2 1 rfl rfl (by omega) (by decide) dX3_shift_31 ?_
        try dsimp only
        rw [hsr]
        refine lv_iload_n hx hb dX3_shift_32 rfl (lv_at hl 1 rfl) ?_
        refine sf_icmp_le (tgt := 40) hx hb (by omega) (by omega) dX3_shift_33 (by decide) (fun c_33 => ?_) (fun c_33 => ?_)
        · have hno : ¬ (0 < ln r ∧ b < ss r) := by omega
          refine lv_iconst (v := nI 0) hx hb dX3_shift_40 (by decide) ?_
          refine sf_iadd hx hb dX3_shift_41 ?_
          refine sf_iast hx hb hK hP hD hS 2 1 rfl rfl (by omega) (by decide) dX3_shift_42 (fun H locs hP hD hS => ?_)
          dsimp only [List.set] at hP hD
          rw [mw_updN] at hP hD
          have hP : va_P (dC, dI) vwCl (mw_w b0 b1 b2 b3 b4 d1 d2 d3 d4 us nu bm tn g za (va_up (mw_sh r n old b ln ss) r ((ss r) + 0)) bk) H := hP
          have hD : va_D A (mw_w b0 b1 b2 b3 b4 d1 d2 d3 d4 us nu bm tn g za (va_up (mw_sh r n old b ln ss) r ((ss r) + 0)) bk) := hD
          refine lv_iinc (v := nI (r + 1)) (lv' := [(3, .int (nI (r + 1))), (0, .ref b0), (1, .int (nI b)), (2, .int (nI n - nI old))]) hx hb dX3_shift_43 hl (k := 3) rfl (nI_1 r) (by decide) rfl (fun ls hl => ?_)
          refine lv_goto (tgt := 2) hx hb dX3_shift_46 (by decide) ?_
          rw [mw_sh_no hno] at hP hD
          exact ih (r + 1) _ _ _ (by omega) ⟨by omega, hP, hD, hS, lv_sub hl [1, 2, 3, 0] rfl⟩
        · refine lv_iload_n hx hb dX3_shift_36 rfl (lv_at hl 2 rfl) ?_
          refine lv_goto (tgt := 41) hx hb dX3_shift_37 (by decide) ?_
          refine lv_iadd hx hb dX3_shift_41 ?_
          have hgr := hge r (by omega) hl0 c_33
          rw [sf_occ (by omega)]
          refine sf_iast hx hb hK hP hD hS 2 1 rfl rfl (by omega) (by decide) dX3_shift_42 (fun H locs hP hD hS => ?_)
          dsimp only [List.set] at hP hD
          rw [mw_updN] at hP hD
          have hP : va_P (dC, dI) vwCl (mw_w b0 b1 b2 b3 b4 d1 d2 d3 d4 us nu bm tn g za (va_up (mw_sh r n old b ln ss) r (ss r + n - old)) bk) H := hP
          have hD : va_D A (mw_w b0 b1 b2 b3 b4 d1 d2 d3 d4 us nu bm tn g za (va_up (mw_sh r n old b ln ss) r (ss r + n - old)) bk) := hD
          refine lv_iinc (v := nI (r + 1)) (lv' := [(3, .int (nI (r + 1))), (0, .ref b0), (1, .int (nI b)), (2, .int (nI n - nI old))]) hx hb dX3_shift_43 hl (k := 3) rfl (nI_1 r) (by decide) rfl (fun ls hl => ?_)
          refine lv_goto (tgt := 2) hx hb dX3_shift_46 (by decide) ?_
          rw [mw_sh_yes hl0 c_33] at hP hD
          exact ih (r + 1) _ _ _ (by omega) ⟨by omega, hP, hD, hS, lv_sub hl [1, 2, 3, 0] rfl⟩
  · exact ⟨Nat.zero_le _, by rw [mw_sh_0]; exact hP, by rw [mw_sh_0]; exact hD, hS, lv_sub hl [1, 2, 3, 0] rfl⟩
