/-! the reference: its reads -/
set_option maxHeartbeats 4000000 in
set_option maxRecDepth 100000 in
/-- get(row, i) -/
theorem m_get (l : Launch) (dC : Nat → ClassId) (dI : Nat → Nat → Nat) (b0 b1 b2 b3 b4 : Nat) (d1 d2 d3 d4 : ClassId) (us nu bm tn : Nat) (g za : Nat → Int32) (ss bk : Nat → Nat) (sz : Nat) (z : sf_Z) (hR : mw_R us nu bm tn g za ss bk z) (row i : Int32) : Met l yX3_get wsX3_get ({ frames := 1, cells := 0, slots := 0, locals := 30 } : Room) (sf_Pre (dC, dI) vwCl [(d1, .byte), (d2, .int), (d3, .int), (d4, .int)] [.ref b0, .int row, .int i] (mw_w b0 b1 b2 b3 b4 d1 d2 d3 d4 us nu bm tn g za ss bk) sz) (vp_Si (fun r => r = zs_get z row i)) 0 0 (fun _ => False) := by
  refine Met.ofW (cc := cX3_get) (maxL := 3) (ret := (some .int)) (by decide) rfl ?_
  intro p e s m args below meth c s₁ B hml hv
  obtain ⟨rfl, hsz, hP, hK, hD0, hN⟩ := hv
  have hx := B.exec
  have hb := B.bytes
  have hr := B.returns
  have hts := atoms_spec (ws := wsX3_get) B.pre
  have hown : s.vm.findClass RX3 = some m.cls := findClass_of_methodNamed B.named
  have hlocks := B.notSynchronized
  subst hsz
  have hD := hD0.self (sz := s.heap.size)
  generalize hAe : va_A (mw_w b0 b1 b2 b3 b4 d1 d2 d3 d4 us nu bm tn g za ss bk) s.heap.size = A at hD ⊢
  have hA : ∀ q : Nat, s.heap.size ≤ q → A q := fun q h => by rw [← hAe]; exact Or.inr h
  have hS : va_S A s.heap s.heap [] := va_S.rf
  have hl := lv_entry ([.ref b0, .int row, .int i]) (n := 3) (Nat.le_of_ble_eq_true rfl)
  rw [lg_entry_eq]
  generalize (lg_sl ([.ref b0, .int row, .int i]) ++ List.replicate (3 - (lg_sl ([.ref b0, .int row, .int i])).length) Slot.unset).toArray = ls at hl ⊢
  have hl : lv_has ls 3 [(0, .ref b0), (1, .int row), (2, .int i)] := hl
  refine lv_aload_n hx hb dX3_get_0 rfl (lv_at hl 0 rfl) ?_
  refine lv_iload_n hx hb dX3_get_1 rfl (lv_at hl 1 rfl) ?_
  refine vp_callSi (va_Run.run (sf_runV (b := b0) (As := [.int row]) (rest := []) ⟨hx, hb, hml, hown, hts⟩ sf_has (m_isRow l dC dI b0 b1 b2 b3 b4 d1 d2 d3 d4 us nu bm tn g za ss bk _ _ hR.2.1) k_X3_52 ⟨sf_blind, va_recv hK hP (ci := 3) (q0 := 0) rfl rfl, sf_preU hP hK hD hN⟩ rfl hl.1 (Nat.le_of_ble_eq_true rfl) ⟨(Nat.le_of_ble_eq_true rfl), (Nat.le_of_ble_eq_true rfl)⟩ ⟨rfl, rfl⟩ ⟨Nat.zero_le _, Nat.zero_le _⟩ dX3_get_2)) (fun r_2 h_2 => ?_)
  rcases h_2 with ⟨rfl, h_2⟩ | ⟨rfl, h_2⟩
  · obtain ⟨k_2, q1_2, q2_2, q3_2⟩ := h_2
    subst q2_2
    have hl : lv_has ls 3 [(0, .ref b0), (1, .int (nI k_2)), (2, .int i)] := hl
    obtain ⟨f1_2, f2_2, f3_2, f4_2, f5_2, f6_2, f7_2⟩ := mw_zs hR q1_2 q3_2
    have hnu := hR.2.1
    refine sf_if_eq (tgt := 42) hx hb (by decide) dX3_get_5 (by decide) (fun c_5 => absurd c_5 (by decide)) (fun _ => ?_)
    refine lv_iload_n hx hb dX3_get_8 rfl (lv_at hl 2 rfl) ?_
    refine lv_if_lt (tgt := 42) hx hb dX3_get_9 (by decide) (fun c_9 => ?_) (fun c_9 => ?_)
    · have hzj : zi i (zLn z k_2) = none := zi_none (by omega) (fun k hk q => nI_pos (n := k) (by omega) (by rw [← q]; exact c_9))
      refine lv_iconst (v := -1) hx hb dX3_get_42 (by decide) ?_
      exact W.iret (v := -1) hx hb hr (fun t ht hW => ⟨_, rfl, (zs_get_2 f1_2 hzj).symm, ht⟩) sf_noloc dX3_get_43
    · obtain ⟨j, hj0, rfl⟩ := nI_of c_9
      have hl : lv_has ls 3 [(0, .ref b0), (1, .int (nI k_2)), (2, .int (nI j))] := hl
      refine lv_iload_n hx hb dX3_get_12 rfl (lv_at hl 2 rfl) ?_
      refine lv_aload_n hx hb dX3_get_13 rfl (lv_at hl 0 rfl) ?_
      refine va_get (D := (dC, dI)) (ci := 3) (v := .ref b3) (C := RX3) (T := TX3) (N := 8) hx hb hts sf_inX3 hown hK hP 0 rfl rfl 3 (by decide) (hts _ (sf_mem fl_X3_18 rfl)) (fun _ h9 => h9) rfl dX3_get_14 ?_
      refine lv_iload_n hx hb dX3_get_17 rfl (lv_at hl 1 rfl) ?_
      refine sf_iald hx hb hK hP 3 2 rfl rfl (by omega) (by decide) dX3_get_18 ?_
      rw [f3_2]
      refine sf_icmp_ge (tgt := 42) hx hb (by omega) (by omega) dX3_get_19 (by decide) (fun c_19 => ?_) (fun c_19 => ?_)
      · have hzj : zi (nI j) (zLn z k_2) = none := zi_none (by omega) (fun k hk q => by
          have := (nI_eq hj0 (by omega)).mp q
          omega)
        refine lv_iconst (v := -1) hx hb dX3_get_42 (by decide) ?_
        exact W.iret (v := -1) hx hb hr (fun t ht hW => ⟨_, rfl, (zs_get_2 f1_2 hzj).symm, ht⟩) sf_noloc dX3_get_43
      · have hzj : zi (nI j) (zLn z k_2) = some j := zi_some c_19 (by omega)
        have hb6 := f6_2 j c_19
        refine lv_aload_n hx hb dX3_get_22 rfl (lv_at hl 0 rfl) ?_
        refine va_get (D := (dC, dI)) (ci := 3) (v := .ref b1) (C := RX3) (T := TX3) (N := 8) hx hb hts sf_inX3 hown hK hP 0 rfl rfl 0 (by decide) (hts _ (sf_mem fl_X3_8 rfl)) (fun _ h9 => h9) rfl dX3_get_23 ?_
        refine lv_aload_n hx hb dX3_get_26 rfl (lv_at hl 0 rfl) ?_
        refine va_get (D := (dC, dI)) (ci := 3) (v := .ref b2) (C := RX3) (T := TX3) (N := 8) hx hb hts sf_inX3 hown hK hP 0 rfl rfl 2 (by decide) (hts _ (sf_mem fl_X3_14 rfl)) (fun _ h9 => h9) rfl dX3_get_27 ?_
        refine lv_iload_n hx hb dX3_get_30 rfl (lv_at hl 1 rfl) ?_
        refine sf_iald hx hb hK hP 2 1 rfl rfl (by omega) (by decide) dX3_get_31 ?_
        try dsimp only
        refine lv_iload_n hx hb dX3_get_32 rfl (lv_at hl 2 rfl) ?_
        refine sf_iadd hx hb dX3_get_33 ?_
        refine sf_bald hx hb hK hP 1 0 rfl rfl (by omega) (by decide) dX3_get_34 ?_
        refine lv_sipush (v := nI 255) hx hb dX3_get_35 (by decide) ?_
        refine lv_iand hx hb dX3_get_38 ?_
        refine lv_goto (tgt := 43) hx hb dX3_get_39 (by decide) ?_
        exact W.iret (v := (g (ss k_2 + j) &&& nI 255)) hx hb hr (fun t ht hW => ⟨_, rfl, by rw [zs_get_3 f1_2 hzj, f5_2 j c_19]; rfl, ht⟩) sf_noloc dX3_get_43
  · have f1_2 := mw_zn hR h_2
    refine sf_if_eq (tgt := 42) hx hb (by decide) dX3_get_5 (by decide) (fun _ => ?_) (fun c_5 => absurd c_5 (by decide))
    refine lv_iconst (v := -1) hx hb dX3_get_42 (by decide) ?_
    exact W.iret (v := -1) hx hb hr (fun t ht hW => ⟨_, rfl, (zs_get_1 f1_2).symm, ht⟩) sf_noloc dX3_get_43
set_option maxHeartbeats 4000000 in
set_option maxRecDepth 100000 in
/-- size(row) -/
theorem m_size (l : Launch) (dC : Nat → ClassId) (dI : Nat → Nat → Nat) (b0 b1 b2 b3 b4 : Nat) (d1 d2 d3 d4 : ClassId) (us nu bm tn : Nat) (g za : Nat → Int32) (ss bk : Nat → Nat) (sz : Nat) (z : sf_Z) (hR : mw_R us nu bm tn g za ss bk z) (row : Int32) : Met l yX3_size wsX3_size ({ frames := 1, cells := 0, slots := 0, locals := 30 } : Room) (sf_Pre (dC, dI) vwCl [(d1, .byte), (d2, .int), (d3, .int), (d4, .int)] [.ref b0, .int row] (mw_w b0 b1 b2 b3 b4 d1 d2 d3 d4 us nu bm tn g za ss bk) sz) (vp_Si (fun r => r = zs_size z row)) 0 0 (fun _ => False) := by
  refine Met.ofW (cc := cX3_size) (maxL := 2) (ret := (some .int)) (by decide) rfl ?_
  intro p e s m args below meth c s₁ B hml hv
  obtain ⟨rfl, hsz, hP, hK, hD0, hN⟩ := hv
  have hx := B.exec
  have hb := B.bytes
  have hr := B.returns
  have hts := atoms_spec (ws := wsX3_size) B.pre
  have hown : s.vm.findClass RX3 = some m.cls := findClass_of_methodNamed B.named
  have hlocks := B.notSynchronized
  subst hsz
  have hD := hD0.self (sz := s.heap.size)
  generalize hAe : va_A (mw_w b0 b1 b2 b3 b4 d1 d2 d3 d4 us nu bm tn g za ss bk) s.heap.size = A at hD ⊢
  have hA : ∀ q : Nat, s.heap.size ≤ q → A q := fun q h => by rw [← hAe]; exact Or.inr h
  have hS : va_S A s.heap s.heap [] := va_S.rf
  have hl := lv_entry ([.ref b0, .int row]) (n := 2) (Nat.le_of_ble_eq_true rfl)
  rw [lg_entry_eq]
  generalize (lg_sl ([.ref b0, .int row]) ++ List.replicate (2 - (lg_sl ([.ref b0, .int row])).length) Slot.unset).toArray = ls at hl ⊢
  have hl : lv_has ls 2 [(0, .ref b0), (1, .int row)] := hl
  refine lv_aload_n hx hb dX3_size_0 rfl (lv_at hl 0 rfl) ?_
  refine lv_iload_n hx hb dX3_size_1 rfl (lv_at hl 1 rfl) ?_
  refine vp_callSi (va_Run.run (sf_runV (b := b0) (As := [.int row]) (rest := []) ⟨hx, hb, hml, hown, hts⟩ sf_has (m_isRow l dC dI b0 b1 b2 b3 b4 d1 d2 d3 d4 us nu bm tn g za ss bk _ _ hR.2.1) k_X3_52 ⟨sf_blind, va_recv hK hP (ci := 3) (q0 := 0) rfl rfl, sf_preU hP hK hD hN⟩ rfl hl.1 (Nat.le_of_ble_eq_true rfl) ⟨(Nat.le_of_ble_eq_true rfl), (Nat.le_of_ble_eq_true rfl)⟩ ⟨rfl, rfl⟩ ⟨Nat.zero_le _, Nat.zero_le _⟩ dX3_size_2)) (fun r_2 h_2 => ?_)
  rcases h_2 with ⟨rfl, h_2⟩ | ⟨rfl, h_2⟩
  · obtain ⟨k_2, q1_2, q2_2, q3_2⟩ := h_2
    subst q2_2
    have hl : lv_has ls 2 [(0, .ref b0), (1, .int (nI k_2))] := hl
    obtain ⟨f1_2, f2_2, f3_2, f4_2, f5_2, f6_2, f7_2⟩ := mw_zs hR q1_2 q3_2
    have hnu := hR.2.1
    refine sf_if_eq (tgt := 17) hx hb (by decide) dX3_size_5 (by decide) (fun c_5 => absurd c_5 (by decide)) (fun _ => ?_)
    refine lv_aload_n hx hb dX3_size_8 rfl (lv_at hl 0 rfl) ?_
    refine va_get (D := (dC, dI)) (ci := 3) (v := .ref b3) (C := RX3) (T := TX3) (N := 8) hx hb hts sf_inX3 hown hK hP 0 rfl rfl 3 (by decide) (hts _ (sf_mem fl_X3_18 rfl)) (fun _ h9 => h9) rfl dX3_size_9 ?_
    refine lv_iload_n hx hb dX3_size_12 rfl (lv_at hl 1 rfl) ?_
    refine sf_iald hx hb hK hP 3 2 rfl rfl (by omega) (by decide) dX3_size_13 ?_
    rw [f3_2]
    refine lv_goto (tgt := 18) hx hb dX3_size_14 (by decide) ?_
    exact W.iret (v := nI (zLn z k_2)) hx hb hr (fun t ht hW => ⟨_, rfl, (zs_size_2 f1_2).symm, ht⟩) sf_noloc dX3_size_18
  · have f1_2 := mw_zn hR h_2
    refine sf_if_eq (tgt := 17) hx hb (by decide) dX3_size_5 (by decide) (fun _ => ?_) (fun c_5 => absurd c_5 (by decide))
    refine lv_iconst (v := -1) hx hb dX3_size_17 (by decide) ?_
    exact W.iret (v := -1) hx hb hr (fun t ht hW => ⟨_, rfl, (zs_size_1 f1_2).symm, ht⟩) sf_noloc dX3_size_18
theorem mw_bal {us nu bm tn : Nat} {g za : Nat → Int32} {ss bk : Nat → Nat} {z : sf_Z} (h : mw_R us nu bm tn g za ss bk z) (hb : zMd z = zCt z + (zFr z).length) : bm ≤ nu ∧ nu - bm = zCt z := by
  obtain ⟨h1, h2, h3, -⟩ := h
  rw [h3, mw_fr_len] at hb
  omega
set_option maxHeartbeats 4000000 in
set_option maxRecDepth 100000 in
/-- rows() -/
theorem m_rows (l : Launch) (dC : Nat → ClassId) (dI : Nat → Nat → Nat) (b0 b1 b2 b3 b4 : Nat) (d1 d2 d3 d4 : ClassId) (us nu bm tn : Nat) (g za : Nat → Int32) (ss bk : Nat → Nat) (sz : Nat) (z : sf_Z) (hR : mw_R us nu bm tn g za ss bk z) (hbal : zMd z = zCt z + (zFr z).length) : Met l yX3_rows wsX3_rows ({ frames := 1, cells := 0, slots := 0, locals := 30 } : Room) (sf_Pre (dC, dI) vwCl [(d1, .byte), (d2, .int), (d3, .int), (d4, .int)] [.ref b0] (mw_w b0 b1 b2 b3 b4 d1 d2 d3 d4 us nu bm tn g za ss bk) sz) (vp_Si (fun r => r = nI (zCt z))) 0 0 (fun _ => False) := by
  refine Met.ofW (cc := cX3_rows) (maxL := 1) (ret := (some .int)) (by decide) rfl ?_
  intro p e s m args below meth c s₁ B hml hv
  obtain ⟨rfl, hsz, hP, hK, hD0, hN⟩ := hv
  have hx := B.exec
  have hb := B.bytes
  have hr := B.returns
  have hts := atoms_spec (ws := wsX3_rows) B.pre
  have hown : s.vm.findClass RX3 = some m.cls := findClass_of_methodNamed B.named
  have hlocks := B.notSynchronized
  subst hsz
  have hD := hD0.self (sz := s.heap.size)
  generalize hAe : va_A (mw_w b0 b1 b2 b3 b4 d1 d2 d3 d4 us nu bm tn g za ss bk) s.heap.size = A at hD ⊢
  have hA : ∀ q : Nat, s.heap.size ≤ q → A q := fun q h => by rw [← hAe]; exact Or.inr h
  have hS : va_S A s.heap s.heap [] := va_S.rf
  have hl := lv_entry ([.ref b0]) (n := 1) (Nat.le_of_ble_eq_true rfl)
  rw [lg_entry_eq]
  generalize (lg_sl ([.ref b0]) ++ List.replicate (1 - (lg_sl ([.ref b0])).length) Slot.unset).toArray = ls at hl ⊢
  have hl : lv_has ls 1 [(0, .ref b0)] := hl
  have hbm := mw_bal hR hbal
  refine lv_aload_n hx hb dX3_rows_0 rfl (lv_at hl 0 rfl) ?_
  refine vp_callSi (va_Run.run (sf_runV (b := b0) (As := []) (rest := []) ⟨hx, hb, hml, hown, hts⟩ sf_has (m_many l dC dI b0 b1 b2 b3 b4 d1 d2 d3 d4 us nu bm tn g za ss bk _ hbm.1) k_X3_31 ⟨sf_blind, va_recv hK hP (ci := 3) (q0 := 0) rfl rfl, sf_preU hP hK hD hN⟩ rfl hl.1 (Nat.le_of_ble_eq_true rfl) ⟨(Nat.le_of_ble_eq_true rfl), (Nat.le_of_ble_eq_true rfl)⟩ ⟨rfl, rfl⟩ ⟨Nat.zero_le _, Nat.zero_le _⟩ dX3_rows_1)) (fun r_1 h_1 => ?_)
  subst h_1
  exact W.iret (v := nI (nu - bm)) hx hb hr (fun t ht hW => ⟨_, rfl, by rw [hbm.2], ht⟩) sf_noloc dX3_rows_4
set_option maxHeartbeats 4000000 in
set_option maxRecDepth 100000 in
/-- places() -/
theorem m_places (l : Launch) (dC : Nat → ClassId) (dI : Nat → Nat → Nat) (b0 b1 b2 b3 b4 : Nat) (d1 d2 d3 d4 : ClassId) (us nu bm tn : Nat) (g za : Nat → Int32) (ss bk : Nat → Nat) (sz : Nat) (z : sf_Z) (hR : mw_R us nu bm tn g za ss bk z)  : Met l yX3_places wsX3_places ({ frames := 0, cells := 0, slots := 0, locals := 0 } : Room) (sf_Pre (dC, dI) vwCl [(d1, .byte), (d2, .int), (d3, .int), (d4, .int)] [.ref b0] (mw_w b0 b1 b2 b3 b4 d1 d2 d3 d4 us nu bm tn g za ss bk) sz) (vp_Si (fun r => r = nI (zOc z))) 0 0 (fun _ => False) := by
  refine Met.ofW (cc := cX3_places) (maxL := 1) (ret := (some .int)) (by decide) rfl ?_
  intro p e s m args below meth c s₁ B hml hv
  obtain ⟨rfl, hsz, hP, hK, hD0, hN⟩ := hv
  have hx := B.exec
  have hb := B.bytes
  have hr := B.returns
  have hts := atoms_spec (ws := wsX3_places) B.pre
  have hown : s.vm.findClass RX3 = some m.cls := findClass_of_methodNamed B.named
  have hlocks := B.notSynchronized
  subst hsz
  have hD := hD0.self (sz := s.heap.size)
  generalize hAe : va_A (mw_w b0 b1 b2 b3 b4 d1 d2 d3 d4 us nu bm tn g za ss bk) s.heap.size = A at hD ⊢
  have hA : ∀ q : Nat, s.heap.size ≤ q → A q := fun q h => by rw [← hAe]; exact Or.inr h
  have hS : va_S A s.heap s.heap [] := va_S.rf
  have hl := lv_entry ([.ref b0]) (n := 1) (Nat.le_of_ble_eq_true rfl)
  rw [lg_entry_eq]
  generalize (lg_sl ([.ref b0]) ++ List.replicate (1 - (lg_sl ([.ref b0])).length) Slot.unset).toArray = ls at hl ⊢
  have hl : lv_has ls 1 [(0, .ref b0)] := hl
  refine lv_aload_n hx hb dX3_places_0 rfl (lv_at hl 0 rfl) ?_
  refine va_get (D := (dC, dI)) (ci := 3) (v := .int (nI tn)) (C := RX3) (T := TX3) (N := 8) hx hb hts sf_inX3 hown hK hP 0 rfl rfl 7 (by decide) (hts _ (sf_mem fl_X3_35 rfl)) (fun _ h9 => h9) rfl dX3_places_1 ?_
  exact W.iret (v := nI tn) hx hb hr (fun t ht hW => ⟨_, rfl, by rw [hR.2.2.2.2.2.2.2.2.2.1], ht⟩) sf_noloc dX3_places_4
theorem mw_ln {us nu bm tn : Nat} {g za : Nat → Int32} {ss bk : Nat → Nat} {z : sf_Z} (h : mw_R us nu bm tn g za ss bk z) {row : Int32} {k : Nat} (hr : zrow z row = some k) : zLn z k ≤ 16384 := by
  obtain ⟨h1, h2, h3, h4, h5, h6, -⟩ := h
  unfold zrow at hr
  split at hr
  · cases hr
  · rename_i j e
    split at hr
    · rename_i t
      cases hr
      have := (zi_inv (by omega) e).2
      exact (h6 k (by omega) t).2
    · cases hr
set_option maxHeartbeats 4000000 in
set_option maxRecDepth 100000 in
/-- sum(row) -/
theorem m_sum (l : Launch) (dC : Nat → ClassId) (dI : Nat → Nat → Nat) (b0 b1 b2 b3 b4 : Nat) (d1 d2 d3 d4 : ClassId) (us nu bm tn : Nat) (g za : Nat → Int32) (ss bk : Nat → Nat) (sz : Nat) (z : sf_Z) (hR : mw_R us nu bm tn g za ss bk z) (row : Int32) : Met l yX3_sum wsX3_sum ({ frames := 2, cells := 0, slots := 0, locals := 60 } : Room) (sf_Pre (dC, dI) vwCl [(d1, .byte), (d2, .int), (d3, .int), (d4, .int)] [.ref b0, .int row] (mw_w b0 b1 b2 b3 b4 d1 d2 d3 d4 us nu bm tn g za ss bk) sz) (vp_Si (fun r => r = zs_sum z row)) 0 0 (fun _ => False) := by
  refine Met.ofW (cc := cX3_sum) (maxL := 4) (ret := (some .int)) (by decide) rfl ?_
  intro p e s m args below meth c s₁ B hml hv
  obtain ⟨rfl, hsz, hP, hK, hD0, hN⟩ := hv
  have hx := B.exec
  have hb := B.bytes
  have hr := B.returns
  have hts := atoms_spec (ws := wsX3_sum) B.pre
  have hown : s.vm.findClass RX3 = some m.cls := findClass_of_methodNamed B.named
  have hlocks := B.notSynchronized
  subst hsz
  have hD := hD0.self (sz := s.heap.size)
  generalize hAe : va_A (mw_w b0 b1 b2 b3 b4 d1 d2 d3 d4 us nu bm tn g za ss bk) s.heap.size = A at hD ⊢
  have hA : ∀ q : Nat, s.heap.size ≤ q → A q := fun q h => by rw [← hAe]; exact Or.inr h
  have hS : va_S A s.heap s.heap [] := va_S.rf
  have hl := lv_entry ([.ref b0, .int row]) (n := 4) (Nat.le_of_ble_eq_true rfl)
  rw [lg_entry_eq]
  generalize (lg_sl ([.ref b0, .int row]) ++ List.replicate (4 - (lg_sl ([.ref b0, .int row])).length) Slot.unset).toArray = ls at hl ⊢
  have hl : lv_has ls 4 [(0, .ref b0), (1, .int row)] := hl
  have hnu := hR.2.1
  rcases hzr : zrow z row with _ | k
  · skip
    refine lv_bipush (v := nI 7) hx hb dX3_sum_0 (by decide) ?_
    refine lv_istore_n (lv' := [(2, .int (nI 7)), (0, .ref b0), (1, .int row)]) hx hb dX3_sum_2 rfl hl (by decide) rfl (fun ls hl => ?_)
    refine lv_iconst (v := nI 0) hx hb dX3_sum_3 (by decide) ?_
    refine lv_istore_n (lv' := [(3, .int (nI 0)), (2, .int (nI 7)), (0, .ref b0), (1, .int row)]) hx hb dX3_sum_4 rfl hl (by decide) rfl (fun ls hl => ?_)
    refine lv_iload_n hx hb dX3_sum_5 rfl (lv_at hl 0 rfl) ?_
    refine lv_aload_n hx hb dX3_sum_6 rfl (lv_at hl 2 rfl) ?_
    refine lv_iload_n hx hb dX3_sum_7 rfl (lv_at hl 3 rfl) ?_
    refine vp_callSi (va_Run.run (sf_runV (b := b0) (As := [.int row]) (rest := [.int (nI 0)]) ⟨hx, hb, hml, hown, hts⟩ sf_has (m_size l dC dI b0 b1 b2 b3 b4 d1 d2 d3 d4 us nu bm tn g za ss bk _ z hR row) k_X3_64 ⟨sf_blind, va_recv hK hP (ci := 3) (q0 := 0) rfl rfl, sf_preU hP hK hD hN⟩ rfl hl.1 (Nat.le_of_ble_eq_true rfl) ⟨(Nat.le_of_ble_eq_true rfl), (Nat.le_of_ble_eq_true rfl)⟩ ⟨rfl, rfl⟩ ⟨Nat.zero_le _, Nat.zero_le _⟩ dX3_sum_8)) (fun r_8 h_8 => ?_)
    rw [zs_size_1 hzr] at h_8
    subst h_8
    refine lv_icmp_ge (tgt := 32) hx hb dX3_sum_11 (by decide) (fun c_11 => ?_) (fun c_11 => ?_)
    · refine lv_aload_n hx hb dX3_sum_32 rfl (lv_at hl 2 rfl) ?_
      refine lv_iload_n hx hb dX3_sum_33 rfl (lv_at hl 3 rfl) ?_
      refine vp_callSi (va_Run.run (sf_runV (b := b0) (As := [.int row]) (rest := []) ⟨hx, hb, hml, hown, hts⟩ sf_has (m_isRow l dC dI b0 b1 b2 b3 b4 d1 d2 d3 d4 us nu bm tn g za ss bk _ _ hR.2.1) k_X3_52 ⟨sf_blind, va_recv hK hP (ci := 3) (q0 := 0) rfl rfl, sf_preU hP hK hD hN⟩ rfl hl.1 (Nat.le_of_ble_eq_true rfl) ⟨(Nat.le_of_ble_eq_true rfl), (Nat.le_of_ble_eq_true rfl)⟩ ⟨rfl, rfl⟩ ⟨Nat.zero_le _, Nat.zero_le _⟩ dX3_sum_34)) (fun r_34 h_34 => ?_)
      rcases h_34 with ⟨rfl, h_34⟩ | ⟨rfl, h_34⟩
      · obtain ⟨k_34, q1_34, q2_34, q3_34⟩ := h_34
        subst q2_34
        have hl : lv_has ls 4 [(3, .int (nI 0)), (2, .int (nI 7)), (0, .ref b0), (1, .int (nI k_34))] := hl
        obtain ⟨f1_34, f2_34, f3_34, f4_34, f5_34, f6_34, f7_34⟩ := mw_zs hR q1_34 q3_34
        have hnu := hR.2.1
        rw [f1_34] at hzr
        cases hzr
      · have f1_34 := mw_zn hR h_34
        refine sf_if_eq (tgt := 44) hx hb (by decide) dX3_sum_37 (by decide) (fun _ => ?_) (fun c_37 => absurd c_37 (by decide))
        refine lv_iconst (v := nI 0) hx hb dX3_sum_44 (by decide) ?_
        exact W.iret (v := nI 0) hx hb hr (fun t ht hW => ⟨_, rfl, (zs_sum_1 hzr).symm, ht⟩) sf_noloc dX3_sum_45
    · exact absurd (by decide) c_11
  · have hlnk := mw_ln hR hzr
    refine lv_bipush (v := nI 7) hx hb dX3_sum_0 (by decide) ?_
    refine lv_istore_n (lv' := [(2, .int (nI 7)), (0, .ref b0), (1, .int row)]) hx hb dX3_sum_2 rfl hl (by decide) rfl (fun ls hl => ?_)
    refine lv_iconst (v := nI 0) hx hb dX3_sum_3 (by decide) ?_
    refine lv_istore_n (lv' := [(3, .int (nI 0)), (2, .int (nI 7)), (0, .ref b0), (1, .int row)]) hx hb dX3_sum_4 rfl hl (by decide) rfl (fun ls hl => ?_)
    refine sf_loop (σ := Nat × Int32) (fun u => zLn z k - u.1) (fun u H locs ls => u.1 ≤ zLn z k ∧ zsum (zBy z k) (zLn z k - u.1) u.1 u.2 = zsum (zBy z k) (zLn z k) 0 7 ∧ H = s.heap ∧ locs = [] ∧ lv_has ls 4 [(0, .ref b0), (1, .int row), (2, .int u.2), (3, .int (nI u.1))]) ?_ (0, 7) _ _ _ ?_
    · intro u H locs ls hI2 ih
      obtain ⟨i, v⟩ := u
      obtain ⟨k1, k2, rfl, rfl, hl⟩ := hI2
      dsimp only at k1 k2 hl ih
      refine lv_iload_n hx hb dX3_sum_5 rfl (lv_at hl 3 rfl) ?_
      refine lv_aload_n hx hb dX3_sum_6 rfl (lv_at hl 0 rfl) ?_
      refine lv_iload_n hx hb dX3_sum_7 rfl (lv_at hl 1 rfl) ?_
      refine vp_callSi (va_Run.run (sf_runV (b := b0) (As := [.int row]) (rest := [.int (nI i)]) ⟨hx, hb, hml, hown, hts⟩ sf_has (m_size l dC dI b0 b1 b2 b3 b4 d1 d2 d3 d4 us nu bm tn g za ss bk _ z hR row) k_X3_64 ⟨sf_blind, va_recv hK hP (ci := 3) (q0 := 0) rfl rfl, sf_preU hP hK hD hN⟩ rfl hl.1 (Nat.le_of_ble_eq_true rfl) ⟨(Nat.le_of_ble_eq_true rfl), (Nat.le_of_ble_eq_true rfl)⟩ ⟨rfl, rfl⟩ ⟨Nat.zero_le _, Nat.zero_le _⟩ dX3_sum_8)) (fun r_8 h_8 => ?_)
      rw [zs_size_2 hzr] at h_8
      subst h_8
      refine sf_icmp_ge (tgt := 32) hx hb (by omega) (by omega) dX3_sum_11 (by decide) (fun c_11 => ?_) (fun c_11 => ?_)
      · refine lv_aload_n hx hb dX3_sum_32 rfl (lv_at hl 0 rfl) ?_
        refine lv_iload_n hx hb dX3_sum_33 rfl (lv_at hl 1 rfl) ?_
        refine vp_callSi (va_Run.run (sf_runV (b := b0) (As := [.int row]) (rest := []) ⟨hx, hb, hml, hown, hts⟩ sf_has (m_isRow l dC dI b0 b1 b2 b3 b4 d1 d2 d3 d4 us nu bm tn g za ss bk _ _ hR.2.1) k_X3_52 ⟨sf_blind, va_recv hK hP (ci := 3) (q0 := 0) rfl rfl, sf_preU hP hK hD hN⟩ rfl hl.1 (Nat.le_of_ble_eq_true rfl) ⟨(Nat.le_of_ble_eq_true rfl), (Nat.le_of_ble_eq_true rfl)⟩ ⟨rfl, rfl⟩ ⟨Nat.zero_le _, Nat.zero_le _⟩ dX3_sum_34)) (fun r_34 h_34 => ?_)
        rcases h_34 with ⟨rfl, h_34⟩ | ⟨rfl, h_34⟩
        · obtain ⟨k_34, q1_34, q2_34, q3_34⟩ := h_34
          subst q2_34
          have hl : lv_has ls 4 [(0, .ref b0), (1, .int (nI k_34)), (2, .int v), (3, .int (nI i))] := hl
          obtain ⟨f1_34, f2_34, f3_34, f4_34, f5_34, f6_34, f7_34⟩ := mw_zs hR q1_34 q3_34
          have hnu := hR.2.1
          refine sf_if_eq (tgt := 44) hx hb (by decide) dX3_sum_37 (by decide) (fun c_37 => absurd c_37 (by decide)) (fun _ => ?_)
          refine lv_iload_n hx hb dX3_sum_40 rfl (lv_at hl 2 rfl) ?_
          refine lv_goto (tgt := 45) hx hb dX3_sum_41 (by decide) ?_
          exact W.iret (v := v) hx hb hr (fun t ht hW => ⟨_, rfl, by
            rw [show i = zLn z k by omega, Nat.sub_self] at k2
            rw [zs_sum_2 hzr, ← k2]
            rfl, ht⟩) sf_noloc dX3_sum_45
        · have f1_34 := mw_zn hR h_34
          rw [f1_34] at hzr
          cases hzr
      · refine lv_bipush (v := nI 31) hx hb dX3_sum_14 (by decide) ?_
        refine lv_iload_n hx hb dX3_sum_16 rfl (lv_at hl 2 rfl) ?_
        refine lv_imul hx hb dX3_sum_17 ?_
        refine lv_aload_n hx hb dX3_sum_18 rfl (lv_at hl 0 rfl) ?_
        refine lv_iload_n hx hb dX3_sum_19 rfl (lv_at hl 1 rfl) ?_
        refine lv_iload_n hx hb dX3_sum_20 rfl (lv_at hl 3 rfl) ?_
        refine vp_callSi (va_Run.run (sf_runV (b := b0) (As := [.int row, .int (nI i)]) (rest := [.int ((nI 31) * v)]) ⟨hx, hb, hml, hown, hts⟩ sf_has (m_get l dC dI b0 b1 b2 b3 b4 d1 d2 d3 d4 us nu bm tn g za ss bk _ z hR row (nI i)) k_X3_60 ⟨sf_blind, va_recv hK hP (ci := 3) (q0 := 0) rfl rfl, sf_preU hP hK hD hN⟩ rfl hl.1 (Nat.le_of_ble_eq_true rfl) ⟨(Nat.le_of_ble_eq_true rfl), (Nat.le_of_ble_eq_true rfl)⟩ ⟨rfl, rfl⟩ ⟨Nat.zero_le _, Nat.zero_le _⟩ dX3_sum_21)) (fun r_21 h_21 => ?_)
        rw [zs_get_3 hzr (zi_some (by omega) (by omega))] at h_21
        subst h_21
        refine lv_iadd hx hb dX3_sum_24 ?_
        refine lv_istore_n (lv' := [(2, .int (((nI 31) * v) + (zBy z k i &&& 255))), (0, .ref b0), (1, .int row), (3, .int (nI i))]) hx hb dX3_sum_25 rfl hl (by decide) rfl (fun ls hl => ?_)
        refine lv_iinc (v := nI (i + 1)) (lv' := [(3, .int (nI (i + 1))), (2, .int (((nI 31) * v) + (zBy z k i &&& 255))), (0, .ref b0), (1, .int row)]) hx hb dX3_sum_26 hl (k := 3) rfl (nI_1 i) (by decide) rfl (fun ls hl => ?_)
        refine lv_goto (tgt := 5) hx hb dX3_sum_29 (by decide) ?_
        exact ih (i + 1, nI 31 * v + (zBy z k i &&& 255)) _ _ _ (by dsimp only; omega) ⟨by dsimp only; omega, by rw [← k2, zsum_go (c := zLn z k) (i := i) (by omega)], rfl, rfl, lv_sub hl [2, 3, 1, 0] rfl⟩
    · exact ⟨Nat.zero_le _, rfl, rfl, rfl, lv_sub hl [2, 3, 1, 0] rfl⟩
theorem mw_sub0 {x y : Nat} (hx : x < 256) (hy : y < 256) (h : nI x - nI y = 0) : x = y := by
  have e := pk_sub_toInt (a := x) (b := y) (by omega) (by omega)
  rw [h] at e
  have : (0 : Int32).toInt = 0 := by decide
  omega
theorem mw_xy {u v : Int32} {x y : Nat} (hx : x < 256) (hy : y < 256) (e1 : u &&& 255 = nI x) (e2 : v &&& 255 = nI y) (q : u = v) : x = y := by
  subst q
  rw [e1] at e2
  exact (nI_eq (by omega) (by omega)).mp e2
theorem mw_lt {x y : Nat} (hx : x < 256) (hy : y < 256) : 0 ≤ nI x - nI y ↔ y ≤ x := by
  rw [Int32.le_iff_toInt_le, pk_sub_toInt (by omega) (by omega)]
  have : (0 : Int32).toInt = 0 := by decide
  omega
set_option maxHeartbeats 4000000 in
set_option maxRecDepth 100000 in
/-- compare(row, other) -/
theorem m_compare (l : Launch) (dC : Nat → ClassId) (dI : Nat → Nat → Nat) (b0 b1 b2 b3 b4 : Nat) (d1 d2 d3 d4 : ClassId) (us nu bm tn : Nat) (g za : Nat → Int32) (ss bk : Nat → Nat) (sz : Nat) (z : sf_Z) (hR : mw_R us nu bm tn g za ss bk z) (row other : Int32) : Met l yX3_compare wsX3_compare ({ frames := 2, cells := 0, slots := 0, locals := 60 } : Room) (sf_Pre (dC, dI) vwCl [(d1, .byte), (d2, .int), (d3, .int), (d4, .int)] [.ref b0, .int row, .int other] (mw_w b0 b1 b2 b3 b4 d1 d2 d3 d4 us nu bm tn g za ss bk) sz) (vp_Si (fun r => r = zs_compare z row other)) 0 0 (fun _ => False) := by
  refine Met.ofW (cc := cX3_compare) (maxL := 5) (ret := (some .int)) (by decide) rfl ?_
  intro p e s m args below meth c s₁ B hml hv
  obtain ⟨rfl, hsz, hP, hK, hD0, hN⟩ := hv
  have hx := B.exec
  have hb := B.bytes
  have hr := B.returns
  have hts := atoms_spec (ws := wsX3_compare) B.pre
  have hown : s.vm.findClass RX3 = some m.cls := findClass_of_methodNamed B.named
  have hlocks := B.notSynchronized
  subst hsz
  have hD := hD0.self (sz := s.heap.size)
  generalize hAe : va_A (mw_w b0 b1 b2 b3 b4 d1 d2 d3 d4 us nu bm tn g za ss bk) s.heap.size = A at hD ⊢
  have hA : ∀ q : Nat, s.heap.size ≤ q → A q := fun q h => by rw [← hAe]; exact Or.inr h
  have hS : va_S A s.heap s.heap [] := va_S.rf
  have hl := lv_entry ([.ref b0, .int row, .int other]) (n := 5) (Nat.le_of_ble_eq_true rfl)
  rw [lg_entry_eq]
  generalize (lg_sl ([.ref b0, .int row, .int other]) ++ List.replicate (5 - (lg_sl ([.ref b0, .int row, .int other])).length) Slot.unset).toArray = ls at hl ⊢
  have hl : lv_has ls 5 [(0, .ref b0), (1, .int row), (2, .int other)] := hl
  refine lv_aload_n hx hb dX3_compare_0 rfl (lv_at hl 0 rfl) ?_
  refine lv_iload_n hx hb dX3_compare_1 rfl (lv_at hl 1 rfl) ?_
  refine vp_callSi (va_Run.run (sf_runV (b := b0) (As := [.int row]) (rest := []) ⟨hx, hb, hml, hown, hts⟩ sf_has (m_isRow l dC dI b0 b1 b2 b3 b4 d1 d2 d3 d4 us nu bm tn g za ss bk _ _ hR.2.1) k_X3_52 ⟨sf_blind, va_recv hK hP (ci := 3) (q0 := 0) rfl rfl, sf_preU hP hK hD hN⟩ rfl hl.1 (Nat.le_of_ble_eq_true rfl) ⟨(Nat.le_of_ble_eq_true rfl), (Nat.le_of_ble_eq_true rfl)⟩ ⟨rfl, rfl⟩ ⟨Nat.zero_le _, Nat.zero_le _⟩ dX3_compare_2)) (fun r_2 h_2 => ?_)
  rcases h_2 with ⟨rfl, h_2⟩ | ⟨rfl, h_2⟩
  · obtain ⟨k_2, q1_2, q2_2, q3_2⟩ := h_2
    subst q2_2
    have hl : lv_has ls 5 [(0, .ref b0), (1, .int (nI k_2)), (2, .int other)] := hl
    obtain ⟨f1_2, f2_2, f3_2, f4_2, f5_2, f6_2, f7_2⟩ := mw_zs hR q1_2 q3_2
    have hnu := hR.2.1
    refine sf_if_eq (tgt := 16) hx hb (by decide) dX3_compare_5 (by decide) (fun c_5 => absurd c_5 (by decide)) (fun _ => ?_)
    refine lv_aload_n hx hb dX3_compare_8 rfl (lv_at hl 0 rfl) ?_
    refine lv_iload_n hx hb dX3_compare_9 rfl (lv_at hl 2 rfl) ?_
    refine vp_callSi (va_Run.run (sf_runV (b := b0) (As := [.int other]) (rest := []) ⟨hx, hb, hml, hown, hts⟩ sf_has (m_isRow l dC dI b0 b1 b2 b3 b4 d1 d2 d3 d4 us nu bm tn g za ss bk _ _ hR.2.1) k_X3_52 ⟨sf_blind, va_recv hK hP (ci := 3) (q0 := 0) rfl rfl, sf_preU hP hK hD hN⟩ rfl hl.1 (Nat.le_of_ble_eq_true rfl) ⟨(Nat.le_of_ble_eq_true rfl), (Nat.le_of_ble_eq_true rfl)⟩ ⟨rfl, rfl⟩ ⟨Nat.zero_le _, Nat.zero_le _⟩ dX3_compare_10)) (fun r_10 h_10 => ?_)
    rcases h_10 with ⟨rfl, h_10⟩ | ⟨rfl, h_10⟩
    · obtain ⟨k_10, q1_10, q2_10, q3_10⟩ := h_10
      subst q2_10
      have hl : lv_has ls 5 [(0, .ref b0), (1, .int (nI k_2)), (2, .int (nI k_10))] := hl
      obtain ⟨f1_10, f2_10, f3_10, f4_10, f5_10, f6_10, f7_10⟩ := mw_zs hR q1_10 q3_10
      have hnu := hR.2.1
      refine sf_if_ne (tgt := 19) hx hb (by decide) dX3_compare_13 (by decide) (fun _ => ?_) (fun c_13 => absurd c_13 (by decide))
      refine lv_iconst (v := nI 0) hx hb dX3_compare_19 (by decide) ?_
      refine lv_istore_n (lv' := [(3, .int (nI 0)), (0, .ref b0), (1, .int (nI k_2)), (2, .int (nI k_10))]) hx hb dX3_compare_20 rfl hl (by decide) rfl (fun ls hl => ?_)
      refine sf_loop (σ := Nat) (fun u => min (zLn z k_2) (zLn z k_10) - u) (fun u H locs ls => u ≤ min (zLn z k_2) (zLn z k_10) ∧ zcmp (zBy z k_2) (zBy z k_10) (zord (zLn z k_2) (zLn z k_10)) (min (zLn z k_2) (zLn z k_10) - u) u = zcmp (zBy z k_2) (zBy z k_10) (zord (zLn z k_2) (zLn z k_10)) (min (zLn z k_2) (zLn z k_10)) 0 ∧ H = s.heap ∧ locs = [] ∧ lv_has ls 5 [(0, .ref b0), (1, .int (nI k_2)), (2, .int (nI k_10)), (3, .int (nI u))]) ?_ 0 _ _ _ ?_
      · intro u H locs ls hI2 ih
        obtain ⟨i, rfl⟩ : ∃ i : Nat, i = u := ⟨u, rfl⟩
        obtain ⟨k1, k2, rfl, rfl, hl⟩ := hI2
        obtain ⟨x1, hx1, ex1⟩ := pk_andE (zBy z k_2 i) (m := 255) 8 (by decide)
        obtain ⟨y1, hy1, ey1⟩ := pk_andE (zBy z k_10 i) (m := 255) 8 (by decide)
        refine lv_iload_n hx hb dX3_compare_21 rfl (lv_at hl 3 rfl) ?_
        refine lv_aload_n hx hb dX3_compare_22 rfl (lv_at hl 0 rfl) ?_
        refine va_get (D := (dC, dI)) (ci := 3) (v := .ref b3) (C := RX3) (T := TX3) (N := 8) hx hb hts sf_inX3 hown hK hP 0 rfl rfl 3 (by decide) (hts _ (sf_mem fl_X3_18 rfl)) (fun _ h9 => h9) rfl dX3_compare_23 ?_
        refine lv_iload_n hx hb dX3_compare_26 rfl (lv_at hl 1 rfl) ?_
        refine sf_iald hx hb hK hP 3 2 rfl rfl (by omega) (by decide) dX3_compare_27 ?_
        rw [f3_2]
        refine sf_icmp_ge (tgt := 78) hx hb (by omega) (by omega) dX3_compare_28 (by decide) (fun c_28 => ?_) (fun c_28 => ?_)
        · refine lv_aload_n hx hb dX3_compare_78 rfl (lv_at hl 0 rfl) ?_
          refine va_get (D := (dC, dI)) (ci := 3) (v := .ref b3) (C := RX3) (T := TX3) (N := 8) hx hb hts sf_inX3 hown hK hP 0 rfl rfl 3 (by decide) (hts _ (sf_mem fl_X3_18 rfl)) (fun _ h9 => h9) rfl dX3_compare_79 ?_
          refine lv_iload_n hx hb dX3_compare_82 rfl (lv_at hl 1 rfl) ?_
          refine sf_iald hx hb hK hP 3 2 rfl rfl (by omega) (by decide) dX3_compare_83 ?_
          rw [f3_2]
          refine lv_aload_n hx hb dX3_compare_84 rfl (lv_at hl 0 rfl) ?_
          refine va_get (D := (dC, dI)) (ci := 3) (v := .ref b3) (C := RX3) (T := TX3) (N := 8) hx hb hts sf_inX3 hown hK hP 0 rfl rfl 3 (by decide) (hts _ (sf_mem fl_X3_18 rfl)) (fun _ h9 => h9) rfl dX3_compare_85 ?_
          refine lv_iload_n hx hb dX3_compare_88 rfl (lv_at hl 2 rfl) ?_
          refine sf_iald hx hb hK hP 3 2 rfl rfl (by omega) (by decide) dX3_compare_89 ?_
          rw [f3_10]
          refine sf_icmp_ge (tgt := 97) hx hb (by omega) (by omega) dX3_compare_90 (by decide) (fun c_90 => ?_) (fun c_90 => ?_)
          · refine lv_aload_n hx hb dX3_compare_97 rfl (lv_at hl 0 rfl) ?_
            refine va_get (D := (dC, dI)) (ci := 3) (v := .ref b3) (C := RX3) (T := TX3) (N := 8) hx hb hts sf_inX3 hown hK hP 0 rfl rfl 3 (by decide) (hts _ (sf_mem fl_X3_18 rfl)) (fun _ h9 => h9) rfl dX3_compare_98 ?_
            refine lv_iload_n hx hb dX3_compare_101 rfl (lv_at hl 1 rfl) ?_
            refine sf_iald hx hb hK hP 3 2 rfl rfl (by omega) (by decide) dX3_compare_102 ?_
            rw [f3_2]
            refine lv_aload_n hx hb dX3_compare_103 rfl (lv_at hl 0 rfl) ?_
            refine va_get (D := (dC, dI)) (ci := 3) (v := .ref b3) (C := RX3) (T := TX3) (N := 8) hx hb hts sf_inX3 hown hK hP 0 rfl rfl 3 (by decide) (hts _ (sf_mem fl_X3_18 rfl)) (fun _ h9 => h9) rfl dX3_compare_104 ?_
            refine lv_iload_n hx hb dX3_compare_107 rfl (lv_at hl 2 rfl) ?_
            refine sf_iald hx hb hK hP 3 2 rfl rfl (by omega) (by decide) dX3_compare_108 ?_
            rw [f3_10]
            refine sf_icmp_le (tgt := 116) hx hb (by omega) (by omega) dX3_compare_109 (by decide) (fun c_109 => ?_) (fun c_109 => ?_)
            · refine lv_iconst (v := nI 0) hx hb dX3_compare_116 (by decide) ?_
              exact W.iret (v := nI 0) hx hb hr (fun t ht hW => ⟨_, rfl, by
                rw [show i = min (zLn z k_2) (zLn z k_10) by omega, Nat.sub_self] at k2
                rw [zs_cmp_3 f1_2 f1_10, ← k2]
                show _ = zord (zLn z k_2) (zLn z k_10)
                unfold zord
                rw [if_pos (by omega)]
                rfl, ht⟩) sf_noloc dX3_compare_117
            · refine lv_iconst (v := nI 1) hx hb dX3_compare_112 (by decide) ?_
              refine lv_goto (tgt := 117) hx hb dX3_compare_113 (by decide) ?_
              exact W.iret (v := nI 1) hx hb hr (fun t ht hW => ⟨_, rfl, by
                rw [show i = min (zLn z k_2) (zLn z k_10) by omega, Nat.sub_self] at k2
                rw [zs_cmp_3 f1_2 f1_10, ← k2]
                show _ = zord (zLn z k_2) (zLn z k_10)
                unfold zord
                rw [if_neg (by omega), if_neg (by omega)]
                rfl, ht⟩) sf_noloc dX3_compare_117
          · refine lv_iconst (v := -1) hx hb dX3_compare_93 (by decide) ?_
            refine lv_goto (tgt := 117) hx hb dX3_compare_94 (by decide) ?_
            exact W.iret (v := -1) hx hb hr (fun t ht hW => ⟨_, rfl, by
              rw [show i = min (zLn z k_2) (zLn z k_10) by omega, Nat.sub_self] at k2
              rw [zs_cmp_3 f1_2 f1_10, ← k2]
              show _ = zord (zLn z k_2) (zLn z k_10)
              unfold zord
              rw [if_neg (by omega), if_pos c_90], ht⟩) sf_noloc dX3_compare_117
        · refine lv_iload_n hx hb dX3_compare_31 rfl (lv_at hl 3 rfl) ?_
          refine lv_aload_n hx hb dX3_compare_32 rfl (lv_at hl 0 rfl) ?_
          refine va_get (D := (dC, dI)) (ci := 3) (v := .ref b3) (C := RX3) (T := TX3) (N := 8) hx hb hts sf_inX3 hown hK hP 0 rfl rfl 3 (by decide) (hts _ (sf_mem fl_X3_18 rfl)) (fun _ h9 => h9) rfl dX3_compare_33 ?_
          refine lv_iload_n hx hb dX3_compare_36 rfl (lv_at hl 2 rfl) ?_
          refine sf_iald hx hb hK hP 3 2 rfl rfl (by omega) (by decide) dX3_compare_37 ?_
          rw [f3_10]
          refine sf_icmp_ge (tgt := 78) hx hb (by omega) (by omega) dX3_compare_38 (by decide) (fun c_38 => ?_) (fun c_38 => ?_)
          · refine lv_aload_n hx hb dX3_compare_78 rfl (lv_at hl 0 rfl) ?_
            refine va_get (D := (dC, dI)) (ci := 3) (v := .ref b3) (C := RX3) (T := TX3) (N := 8) hx hb hts sf_inX3 hown hK hP 0 rfl rfl 3 (by decide) (hts _ (sf_mem fl_X3_18 rfl)) (fun _ h9 => h9) rfl dX3_compare_79 ?_
            refine lv_iload_n hx hb dX3_compare_82 rfl (lv_at hl 1 rfl) ?_
            refine sf_iald hx hb hK hP 3 2 rfl rfl (by omega) (by decide) dX3_compare_83 ?_
            rw [f3_2]
            refine lv_aload_n hx hb dX3_compare_84 rfl (lv_at hl 0 rfl) ?_
            refine va_get (D := (dC, dI)) (ci := 3) (v := .ref b3) (C := RX3) (T := TX3) (N := 8) hx hb hts sf_inX3 hown hK hP 0 rfl rfl 3 (by decide) (hts _ (sf_mem fl_X3_18 rfl)) (fun _ h9 => h9) rfl dX3_compare_85 ?_
            refine lv_iload_n hx hb dX3_compare_88 rfl (lv_at hl 2 rfl) ?_
            refine sf_iald hx hb hK hP 3 2 rfl rfl (by omega) (by decide) dX3_compare_89 ?_
            rw [f3_10]
            refine sf_icmp_ge (tgt := 97) hx hb (by omega) (by omega) dX3_compare_90 (by decide) (fun c_90 => ?_) (fun c_90 => ?_)
            · refine lv_aload_n hx hb dX3_compare_97 rfl (lv_at hl 0 rfl) ?_
              refine va_get (D := (dC, dI)) (ci := 3) (v := .ref b3) (C := RX3) (T := TX3) (N := 8) hx hb hts sf_inX3 hown hK hP 0 rfl rfl 3 (by decide) (hts _ (sf_mem fl_X3_18 rfl)) (fun _ h9 => h9) rfl dX3_compare_98 ?_
              refine lv_iload_n hx hb dX3_compare_101 rfl (lv_at hl 1 rfl) ?_
              refine sf_iald hx hb hK hP 3 2 rfl rfl (by omega) (by decide) dX3_compare_102 ?_
              rw [f3_2]
              refine lv_aload_n hx hb dX3_compare_103 rfl (lv_at hl 0 rfl) ?_
              refine va_get (D := (dC, dI)) (ci := 3) (v := .ref b3) (C := RX3) (T := TX3) (N := 8) hx hb hts sf_inX3 hown hK hP 0 rfl rfl 3 (by decide) (hts _ (sf_mem fl_X3_18 rfl)) (fun _ h9 => h9) rfl dX3_compare_104 ?_
              refine lv_iload_n hx hb dX3_compare_107 rfl (lv_at hl 2 rfl) ?_
              refine sf_iald hx hb hK hP 3 2 rfl rfl (by omega) (by decide) dX3_compare_108 ?_
              rw [f3_10]
              refine sf_icmp_le (tgt := 116) hx hb (by omega) (by omega) dX3_compare_109 (by decide) (fun c_109 => ?_) (fun c_109 => ?_)
              · refine lv_iconst (v := nI 0) hx hb dX3_compare_116 (by decide) ?_
                exact W.iret (v := nI 0) hx hb hr (fun t ht hW => ⟨_, rfl, by
                  rw [show i = min (zLn z k_2) (zLn z k_10) by omega, Nat.sub_self] at k2
                  rw [zs_cmp_3 f1_2 f1_10, ← k2]
                  show _ = zord (zLn z k_2) (zLn z k_10)
                  unfold zord
                  rw [if_pos (by omega)]
                  rfl, ht⟩) sf_noloc dX3_compare_117
              · refine lv_iconst (v := nI 1) hx hb dX3_compare_112 (by decide) ?_
                refine lv_goto (tgt := 117) hx hb dX3_compare_113 (by decide) ?_
                exact W.iret (v := nI 1) hx hb hr (fun t ht hW => ⟨_, rfl, by
                  rw [show i = min (zLn z k_2) (zLn z k_10) by omega, Nat.sub_self] at k2
                  rw [zs_cmp_3 f1_2 f1_10, ← k2]
                  show _ = zord (zLn z k_2) (zLn z k_10)
                  unfold zord
                  rw [if_neg (by omega), if_neg (by omega)]
                  rfl, ht⟩) sf_noloc dX3_compare_117
            · refine lv_iconst (v := -1) hx hb dX3_compare_93 (by decide) ?_
              refine lv_goto (tgt := 117) hx hb dX3_compare_94 (by decide) ?_
              exact W.iret (v := -1) hx hb hr (fun t ht hW => ⟨_, rfl, by
                rw [show i = min (zLn z k_2) (zLn z k_10) by omega, Nat.sub_self] at k2
                rw [zs_cmp_3 f1_2 f1_10, ← k2]
                show _ = zord (zLn z k_2) (zLn z k_10)
                unfold zord
                rw [if_neg (by omega), if_pos c_90], ht⟩) sf_noloc dX3_compare_117
          · have hFa : fits .byte (.int (zBy z k_2 i)) = true := by rw [f5_2 i (by omega)]; exact hR.2.2.2.2.2.2.2.2.2.2.2.2 _
            have hFb : fits .byte (.int (zBy z k_10 i)) = true := by rw [f5_10 i (by omega)]; exact hR.2.2.2.2.2.2.2.2.2.2.2.2 _
            refine lv_aload_n hx hb dX3_compare_41 rfl (lv_at hl 0 rfl) ?_
            refine lv_iload_n hx hb dX3_compare_42 rfl (lv_at hl 1 rfl) ?_
            refine lv_iload_n hx hb dX3_compare_43 rfl (lv_at hl 3 rfl) ?_
            refine vp_callSi (va_Run.run (sf_runV (b := b0) (As := [.int (nI k_2), .int (nI i)]) (rest := []) ⟨hx, hb, hml, hown, hts⟩ sf_has (m_get l dC dI b0 b1 b2 b3 b4 d1 d2 d3 d4 us nu bm tn g za ss bk _ z hR (nI k_2) (nI i)) k_X3_60 ⟨sf_blind, va_recv hK hP (ci := 3) (q0 := 0) rfl rfl, sf_preU hP hK hD hN⟩ rfl hl.1 (Nat.le_of_ble_eq_true rfl) ⟨(Nat.le_of_ble_eq_true rfl), (Nat.le_of_ble_eq_true rfl)⟩ ⟨rfl, rfl⟩ ⟨Nat.zero_le _, Nat.zero_le _⟩ dX3_compare_44)) (fun r_44 h_44 => ?_)
            rw [zs_get_3 f1_2 (zi_some (by omega) (by omega)), ex1] at h_44
            subst h_44
            refine lv_aload_n hx hb dX3_compare_47 rfl (lv_at hl 0 rfl) ?_
            refine lv_iload_n hx hb dX3_compare_48 rfl (lv_at hl 2 rfl) ?_
            refine lv_iload_n hx hb dX3_compare_49 rfl (lv_at hl 3 rfl) ?_
            refine vp_callSi (va_Run.run (sf_runV (b := b0) (As := [.int (nI k_10), .int (nI i)]) (rest := [.int (nI x1)]) ⟨hx, hb, hml, hown, hts⟩ sf_has (m_get l dC dI b0 b1 b2 b3 b4 d1 d2 d3 d4 us nu bm tn g za ss bk _ z hR (nI k_10) (nI i)) k_X3_60 ⟨sf_blind, va_recv hK hP (ci := 3) (q0 := 0) rfl rfl, sf_preU hP hK hD hN⟩ rfl hl.1 (Nat.le_of_ble_eq_true rfl) ⟨(Nat.le_of_ble_eq_true rfl), (Nat.le_of_ble_eq_true rfl)⟩ ⟨rfl, rfl⟩ ⟨Nat.zero_le _, Nat.zero_le _⟩ dX3_compare_50)) (fun r_50 h_50 => ?_)
            rw [zs_get_3 f1_10 (zi_some (by omega) (by omega)), ey1] at h_50
            subst h_50
            refine lv_isub hx hb dX3_compare_53 ?_
            refine lv_istore (lv' := [(4, .int ((nI x1) - (nI y1))), (0, .ref b0), (1, .int (nI k_2)), (2, .int (nI k_10)), (3, .int (nI i))]) hx hb dX3_compare_54 hl (by decide) rfl (fun ls hl => ?_)
            refine lv_iload hx hb dX3_compare_56 (lv_at hl 0 rfl) ?_
            refine lv_if_eq (tgt := 72) hx hb dX3_compare_58 (by decide) (fun c_58 => ?_) (fun c_58 => ?_)
            · have hxy : x1 = y1 := mw_sub0 hx1 hy1 c_58
              refine lv_iinc (v := nI (i + 1)) (lv' := [(3, .int (nI (i + 1))), (4, .int ((nI x1) - (nI y1))), (0, .ref b0), (1, .int (nI k_2)), (2, .int (nI k_10))]) hx hb dX3_compare_72 hl (k := 4) rfl (nI_1 i) (by decide) rfl (fun ls hl => ?_)
              refine lv_goto (tgt := 21) hx hb dX3_compare_75 (by decide) ?_
              exact ih (i + 1) _ _ _ (by omega) ⟨by omega, by rw [← k2, zcmp_miss (c := min (zLn z k_2) (zLn z k_10)) (i := i) (by omega) (sf_byte_ne hFa hFb hx1 ex1 (by rw [hxy]; exact ey1))], rfl, rfl, lv_sub hl [2, 3, 4, 0] rfl⟩
            · have hxy : x1 ≠ y1 := fun q => c_58 (by rw [q, pk_sub (Nat.le_refl _), Nat.sub_self]; rfl)
              have hne : zBy z k_2 i ≠ zBy z k_10 i := fun q => hxy (mw_xy hx1 hy1 ex1 ey1 q)
              refine lv_iload hx hb dX3_compare_61 (lv_at hl 0 rfl) ?_
              refine lv_if_ge (tgt := 70) hx hb dX3_compare_63 (by decide) (fun c_63 => ?_) (fun c_63 => ?_)
              · refine lv_iconst (v := nI 1) hx hb dX3_compare_70 (by decide) ?_
                exact W.iret (v := nI 1) hx hb hr (fun t ht hW => ⟨_, rfl, by
                  rw [zs_cmp_3 f1_2 f1_10, ← k2, zcmp_hit (c := min (zLn z k_2) (zLn z k_10)) (i := i) (by omega) hne hFa hFb hx1 hy1 ex1 ey1, if_neg hxy]
                  rw [if_neg (by have := (mw_lt hx1 hy1).mp c_63; omega)]
                  rfl, ht⟩) sf_noloc dX3_compare_71
              · refine lv_iconst (v := -1) hx hb dX3_compare_66 (by decide) ?_
                refine lv_goto (tgt := 71) hx hb dX3_compare_67 (by decide) ?_
                exact W.iret (v := -1) hx hb hr (fun t ht hW => ⟨_, rfl, by
                  rw [zs_cmp_3 f1_2 f1_10, ← k2, zcmp_hit (c := min (zLn z k_2) (zLn z k_10)) (i := i) (by omega) hne hFa hFb hx1 hy1 ex1 ey1, if_neg hxy]
                  rw [if_pos (Nat.not_le.mp (fun q => c_63 ((mw_lt hx1 hy1).mpr q)))], ht⟩) sf_noloc dX3_compare_71
      · exact ⟨Nat.zero_le _, rfl, rfl, rfl, lv_sub hl [1, 2, 3, 0] rfl⟩
    · have f1_10 := mw_zn hR h_10
      refine sf_if_ne (tgt := 19) hx hb (by decide) dX3_compare_13 (by decide) (fun c_13 => absurd c_13 (by decide)) (fun _ => ?_)
      refine lv_bipush (v := -2) hx hb dX3_compare_16 (by decide) ?_
      exact W.iret (v := -2) hx hb hr (fun t ht hW => ⟨_, rfl, (zs_cmp_2 f1_10).symm, ht⟩) sf_noloc dX3_compare_18
  · have f1_2 := mw_zn hR h_2
    refine sf_if_eq (tgt := 16) hx hb (by decide) dX3_compare_5 (by decide) (fun _ => ?_) (fun c_5 => absurd c_5 (by decide))
    refine lv_bipush (v := -2) hx hb dX3_compare_16 (by decide) ?_
    exact W.iret (v := -2) hx hb hr (fun t ht hW => ⟨_, rfl, (zs_cmp_1 f1_2).symm, ht⟩) sf_noloc dX3_compare_18
