/-! the reference: its writes -/
set_option maxHeartbeats 4000000 in
set_option maxRecDepth 100000 in
/-- put(row, i, b) -/
theorem m_put (l : Launch) (dC : Nat → ClassId) (dI : Nat → Nat → Nat) (b0 b1 b2 b3 b4 : Nat) (d1 d2 d3 d4 : ClassId) (us nu bm tn : Nat) (g za : Nat → Int32) (ss bk : Nat → Nat) (sz : Nat) (z : sf_Z) (hR : mw_R us nu bm tn g za ss bk z) (row i b : Int32) : Met l yX3_put wsX3_put ({ frames := 1, cells := 0, slots := 0, locals := 30 } : Room) (sf_Pre (dC, dI) vwCl [(d1, .byte), (d2, .int), (d3, .int), (d4, .int)] [.ref b0, .int row, .int i, .int b] (mw_w b0 b1 b2 b3 b4 d1 d2 d3 d4 us nu bm tn g za ss bk) sz) (va_Qi (fun (r : Int32) (u : mw_S) => r = (zs_put z row i b).1 ∧ mw_Ru u (zs_put z row i b).2) (sf_E (dC, dI) vwCl (va_A (mw_w b0 b1 b2 b3 b4 d1 d2 d3 d4 us nu bm tn g za ss bk) sz) (fun (u : mw_S) => mw_w b0 b1 b2 b3 b4 d1 d2 d3 d4 u.1 u.2.1 u.2.2.1 u.2.2.2.1 u.2.2.2.2.1 u.2.2.2.2.2.1 u.2.2.2.2.2.2.1 u.2.2.2.2.2.2.2)) (va_A (mw_w b0 b1 b2 b3 b4 d1 d2 d3 d4 us nu bm tn g za ss bk) sz)) 0 0 (va_A (mw_w b0 b1 b2 b3 b4 d1 d2 d3 d4 us nu bm tn g za ss bk) sz) := by
  refine Met.ofW (cc := cX3_put) (maxL := 4) (ret := (some .boolean)) (by decide) rfl ?_
  intro p e s m args below meth c s₁ B hml hv
  obtain ⟨rfl, hsz, hP, hK, hD0, hN⟩ := hv
  have hx := B.exec
  have hb := B.bytes
  have hr := B.returns
  have hts := atoms_spec (ws := wsX3_put) B.pre
  have hown : s.vm.findClass RX3 = some m.cls := findClass_of_methodNamed B.named
  have hlocks := B.notSynchronized
  subst hsz
  have hD := hD0.self (sz := s.heap.size)
  generalize hAe : va_A (mw_w b0 b1 b2 b3 b4 d1 d2 d3 d4 us nu bm tn g za ss bk) s.heap.size = A at hD ⊢
  have hA : ∀ q : Nat, s.heap.size ≤ q → A q := fun q h => by rw [← hAe]; exact Or.inr h
  have hS : va_S A s.heap s.heap [] := va_S.rf
  have hl := lv_entry ([.ref b0, .int row, .int i, .int b]) (n := 4) (Nat.le_of_ble_eq_true rfl)
  rw [lg_entry_eq]
  generalize (lg_sl ([.ref b0, .int row, .int i, .int b]) ++ List.replicate (4 - (lg_sl ([.ref b0, .int row, .int i, .int b])).length) Slot.unset).toArray = ls at hl ⊢
  have hl : lv_has ls 4 [(0, .ref b0), (1, .int row), (2, .int i), (3, .int b)] := hl
  refine lv_aload_n hx hb dX3_put_0 rfl (lv_at hl 0 rfl) ?_
  refine lv_iload_n hx hb dX3_put_1 rfl (lv_at hl 1 rfl) ?_
  refine vp_callSi (va_Run.run (sf_runV (b := b0) (As := [.int row]) (rest := []) ⟨hx, hb, hml, hown, hts⟩ sf_has (m_isRow l dC dI b0 b1 b2 b3 b4 d1 d2 d3 d4 us nu bm tn g za ss bk _ _ hR.2.1) k_X3_52 ⟨sf_blind, va_recv hK hP (ci := 3) (q0 := 0) rfl rfl, sf_preU hP hK hD hN⟩ rfl hl.1 (Nat.le_of_ble_eq_true rfl) ⟨(Nat.le_of_ble_eq_true rfl), (Nat.le_of_ble_eq_true rfl)⟩ ⟨rfl, rfl⟩ ⟨Nat.zero_le _, Nat.zero_le _⟩ dX3_put_2)) (fun r_2 h_2 => ?_)
  rcases h_2 with ⟨rfl, h_2⟩ | ⟨rfl, h_2⟩
  · obtain ⟨k_2, q1_2, q2_2, q3_2⟩ := h_2
    subst q2_2
    have hl : lv_has ls 4 [(0, .ref b0), (1, .int (nI k_2)), (2, .int i), (3, .int b)] := hl
    obtain ⟨f1_2, f2_2, f3_2, f4_2, f5_2, f6_2, f7_2⟩ := mw_zs hR q1_2 q3_2
    have hnu := hR.2.1
    refine sf_if_eq (tgt := 22) hx hb (by decide) dX3_put_5 (by decide) (fun c_5 => absurd c_5 (by decide)) (fun _ => ?_)
    refine lv_iload_n hx hb dX3_put_8 rfl (lv_at hl 2 rfl) ?_
    refine lv_if_lt (tgt := 22) hx hb dX3_put_9 (by decide) (fun c_9 => ?_) (fun c_9 => ?_)
    · have hzj : zi i (zLn z k_2) = none := zi_none (by omega) (fun k hk q => nI_pos (n := k) (by omega) (by rw [← q]; exact c_9))
      refine lv_iconst (v := nI 0) hx hb dX3_put_22 (by decide) ?_
      exact W.zret (v := nI 0) hx hb hr (by decide) (fun t ht hW => ⟨⟨_, (us, nu, bm, tn, g, za, ss, bk), rfl, by rw [zs_put_2 f1_2 hzj]; exact ⟨rfl, hR⟩, by rw [ht]; exact hP, hD⟩, hS.F ht⟩) hS.2.2 dX3_put_23
    · obtain ⟨j, hj0, rfl⟩ := nI_of c_9
      have hl : lv_has ls 4 [(0, .ref b0), (1, .int (nI k_2)), (2, .int (nI j)), (3, .int b)] := hl
      refine lv_iload_n hx hb dX3_put_12 rfl (lv_at hl 2 rfl) ?_
      refine lv_aload_n hx hb dX3_put_13 rfl (lv_at hl 0 rfl) ?_
      refine va_get (D := (dC, dI)) (ci := 3) (v := .ref b3) (C := RX3) (T := TX3) (N := 8) hx hb hts sf_inX3 hown hK hP 0 rfl rfl 3 (by decide) (hts _ (sf_mem fl_X3_18 rfl)) (fun _ h9 => h9) rfl dX3_put_14 ?_
      refine lv_iload_n hx hb dX3_put_17 rfl (lv_at hl 1 rfl) ?_
      refine sf_iald hx hb hK hP 3 2 rfl rfl (by omega) (by decide) dX3_put_18 ?_
      rw [f3_2]
      refine sf_icmp_lt (tgt := 24) hx hb (by omega) (by omega) dX3_put_19 (by decide) (fun c_19 => ?_) (fun c_19 => ?_)
      · have hzj : zi (nI j) (zLn z k_2) = some j := zi_some c_19 (by omega)
        have hb6 := f6_2 j c_19
        refine lv_aload_n hx hb dX3_put_24 rfl (lv_at hl 0 rfl) ?_
        refine va_get (D := (dC, dI)) (ci := 3) (v := .ref b1) (C := RX3) (T := TX3) (N := 8) hx hb hts sf_inX3 hown hK hP 0 rfl rfl 0 (by decide) (hts _ (sf_mem fl_X3_8 rfl)) (fun _ h9 => h9) rfl dX3_put_25 ?_
        refine lv_aload_n hx hb dX3_put_28 rfl (lv_at hl 0 rfl) ?_
        refine va_get (D := (dC, dI)) (ci := 3) (v := .ref b2) (C := RX3) (T := TX3) (N := 8) hx hb hts sf_inX3 hown hK hP 0 rfl rfl 2 (by decide) (hts _ (sf_mem fl_X3_14 rfl)) (fun _ h9 => h9) rfl dX3_put_29 ?_
        refine lv_iload_n hx hb dX3_put_32 rfl (lv_at hl 1 rfl) ?_
        refine sf_iald hx hb hK hP 2 1 rfl rfl (by omega) (by decide) dX3_put_33 ?_
        try dsimp only
        refine lv_iload_n hx hb dX3_put_34 rfl (lv_at hl 2 rfl) ?_
        refine sf_iadd hx hb dX3_put_35 ?_
        refine lv_iload_n hx hb dX3_put_36 rfl (lv_at hl 3 rfl) ?_
        refine lv_i2b hx hb dX3_put_37 rfl ?_
        refine sf_bast hx hb hK hP hD hS 1 0 rfl rfl (pk_vb _) (by omega) (by decide) dX3_put_38 (fun H locs hP hD hS => ?_)
        have hP : va_P (dC, dI) vwCl (mw_w b0 b1 b2 b3 b4 d1 d2 d3 d4 us nu bm tn (upd g ((ss k_2) + j) b.toInt8.toInt32) za ss bk) H := hP
        have hD : va_D A (mw_w b0 b1 b2 b3 b4 d1 d2 d3 d4 us nu bm tn (upd g ((ss k_2) + j) b.toInt8.toInt32) za ss bk) := hD
        refine lv_iconst (v := nI 1) hx hb dX3_put_39 (by decide) ?_
        exact W.zret (v := nI 1) hx hb hr (by decide) (fun t ht hW => ⟨⟨_, (us, nu, bm, tn, (upd g ((ss k_2) + j) b.toInt8.toInt32), za, ss, bk), rfl, by rw [zs_put_3 f1_2 hzj]; exact ⟨rfl, mw_R_bytes hR (sb_fitU hR.2.2.2.2.2.2.2.2.2.2.2.2 (pk_fb _)) (fun x hx tx hne i hi => pk_un (mw_apart hR q1_2 hx f2_2 tx hne hi c_19)) (sf_put_f f5_2)⟩, by rw [ht]; exact hP, hD⟩, hS.F ht⟩) hS.2.2 dX3_put_40
      · have hzj : zi (nI j) (zLn z k_2) = none := zi_none (by omega) (fun k hk q => by
          have := (nI_eq hj0 (by omega)).mp q
          omega)
        refine lv_iconst (v := nI 0) hx hb dX3_put_22 (by decide) ?_
        exact W.zret (v := nI 0) hx hb hr (by decide) (fun t ht hW => ⟨⟨_, (us, nu, bm, tn, g, za, ss, bk), rfl, by rw [zs_put_2 f1_2 hzj]; exact ⟨rfl, hR⟩, by rw [ht]; exact hP, hD⟩, hS.F ht⟩) hS.2.2 dX3_put_23
  · have f1_2 := mw_zn hR h_2
    refine sf_if_eq (tgt := 22) hx hb (by decide) dX3_put_5 (by decide) (fun _ => ?_) (fun c_5 => absurd c_5 (by decide))
    refine lv_iconst (v := nI 0) hx hb dX3_put_22 (by decide) ?_
    exact W.zret (v := nI 0) hx hb hr (by decide) (fun t ht hW => ⟨⟨_, (us, nu, bm, tn, g, za, ss, bk), rfl, by rw [zs_put_1 f1_2]; exact ⟨rfl, hR⟩, by rw [ht]; exact hP, hD⟩, hS.F ht⟩) hS.2.2 dX3_put_23
set_option maxHeartbeats 4000000 in
set_option maxRecDepth 100000 in
/-- fill(row, i, n, seed) -/
theorem m_fill (l : Launch) (dC : Nat → ClassId) (dI : Nat → Nat → Nat) (b0 b1 b2 b3 b4 : Nat) (d1 d2 d3 d4 : ClassId) (us nu bm tn : Nat) (g za : Nat → Int32) (ss bk : Nat → Nat) (sz : Nat) (z : sf_Z) (hR : mw_R us nu bm tn g za ss bk z) (row i n d : Int32) : Met l yX3_fill wsX3_fill ({ frames := 1, cells := 0, slots := 0, locals := 30 } : Room) (sf_Pre (dC, dI) vwCl [(d1, .byte), (d2, .int), (d3, .int), (d4, .int)] [.ref b0, .int row, .int i, .int n, .int d] (mw_w b0 b1 b2 b3 b4 d1 d2 d3 d4 us nu bm tn g za ss bk) sz) (va_Qi (fun (r : Int32) (u : mw_S) => r = (zs_fill z row i n d).1 ∧ mw_Ru u (zs_fill z row i n d).2) (sf_E (dC, dI) vwCl (va_A (mw_w b0 b1 b2 b3 b4 d1 d2 d3 d4 us nu bm tn g za ss bk) sz) (fun (u : mw_S) => mw_w b0 b1 b2 b3 b4 d1 d2 d3 d4 u.1 u.2.1 u.2.2.1 u.2.2.2.1 u.2.2.2.2.1 u.2.2.2.2.2.1 u.2.2.2.2.2.2.1 u.2.2.2.2.2.2.2)) (va_A (mw_w b0 b1 b2 b3 b4 d1 d2 d3 d4 us nu bm tn g za ss bk) sz)) 0 0 (va_A (mw_w b0 b1 b2 b3 b4 d1 d2 d3 d4 us nu bm tn g za ss bk) sz) := by
  refine Met.ofW (cc := cX3_fill) (maxL := 6) (ret := (some .boolean)) (by decide) rfl ?_
  intro p e s m args below meth c s₁ B hml hv
  obtain ⟨rfl, hsz, hP, hK, hD0, hN⟩ := hv
  have hx := B.exec
  have hb := B.bytes
  have hr := B.returns
  have hts := atoms_spec (ws := wsX3_fill) B.pre
  have hown : s.vm.findClass RX3 = some m.cls := findClass_of_methodNamed B.named
  have hlocks := B.notSynchronized
  subst hsz
  have hD := hD0.self (sz := s.heap.size)
  generalize hAe : va_A (mw_w b0 b1 b2 b3 b4 d1 d2 d3 d4 us nu bm tn g za ss bk) s.heap.size = A at hD ⊢
  have hA : ∀ q : Nat, s.heap.size ≤ q → A q := fun q h => by rw [← hAe]; exact Or.inr h
  have hS : va_S A s.heap s.heap [] := va_S.rf
  have hl := lv_entry ([.ref b0, .int row, .int i, .int n, .int d]) (n := 6) (Nat.le_of_ble_eq_true rfl)
  rw [lg_entry_eq]
  generalize (lg_sl ([.ref b0, .int row, .int i, .int n, .int d]) ++ List.replicate (6 - (lg_sl ([.ref b0, .int row, .int i, .int n, .int d])).length) Slot.unset).toArray = ls at hl ⊢
  have hl : lv_has ls 6 [(0, .ref b0), (1, .int row), (2, .int i), (3, .int n), (4, .int d)] := hl
  refine lv_aload_n hx hb dX3_fill_0 rfl (lv_at hl 0 rfl) ?_
  refine lv_iload_n hx hb dX3_fill_1 rfl (lv_at hl 1 rfl) ?_
  refine vp_callSi (va_Run.run (sf_runV (b := b0) (As := [.int row]) (rest := []) ⟨hx, hb, hml, hown, hts⟩ sf_has (m_isRow l dC dI b0 b1 b2 b3 b4 d1 d2 d3 d4 us nu bm tn g za ss bk _ _ hR.2.1) k_X3_52 ⟨sf_blind, va_recv hK hP (ci := 3) (q0 := 0) rfl rfl, sf_preU hP hK hD hN⟩ rfl hl.1 (Nat.le_of_ble_eq_true rfl) ⟨(Nat.le_of_ble_eq_true rfl), (Nat.le_of_ble_eq_true rfl)⟩ ⟨rfl, rfl⟩ ⟨Nat.zero_le _, Nat.zero_le _⟩ dX3_fill_2)) (fun r_2 h_2 => ?_)
  rcases h_2 with ⟨rfl, h_2⟩ | ⟨rfl, h_2⟩
  · obtain ⟨k_2, q1_2, q2_2, q3_2⟩ := h_2
    subst q2_2
    have hl : lv_has ls 6 [(0, .ref b0), (1, .int (nI k_2)), (2, .int i), (3, .int n), (4, .int d)] := hl
    obtain ⟨f1_2, f2_2, f3_2, f4_2, f5_2, f6_2, f7_2⟩ := mw_zs hR q1_2 q3_2
    have hnu := hR.2.1
    refine sf_if_eq (tgt := 38) hx hb (by decide) dX3_fill_5 (by decide) (fun c_5 => absurd c_5 (by decide)) (fun _ => ?_)
    refine lv_iload_n hx hb dX3_fill_8 rfl (lv_at hl 2 rfl) ?_
    refine lv_if_lt (tgt := 38) hx hb dX3_fill_9 (by decide) (fun c_9 => ?_) (fun c_9 => ?_)
    · have hno : ∀ a m : Nat, a + m ≤ zLn z k_2 → i = nI a → n ≠ nI m := fun a m h q q2 => nI_pos (n := a) (by omega) (by rw [← q]; exact c_9)
      refine lv_iconst (v := nI 0) hx hb dX3_fill_38 (by decide) ?_
      exact W.zret (v := nI 0) hx hb hr (by decide) (fun t ht hW => ⟨⟨_, (us, nu, bm, tn, g, za, ss, bk), rfl, by rw [zs_fill_2 f1_2 f4_2 hno]; exact ⟨rfl, hR⟩, by rw [ht]; exact hP, hD⟩, hS.F ht⟩) hS.2.2 dX3_fill_39
    · obtain ⟨i0, hi0, rfl⟩ := nI_of c_9
      have hl : lv_has ls 6 [(0, .ref b0), (1, .int (nI k_2)), (2, .int (nI i0)), (3, .int n), (4, .int d)] := hl
      refine lv_iload_n hx hb dX3_fill_12 rfl (lv_at hl 3 rfl) ?_
      refine lv_if_lt (tgt := 38) hx hb dX3_fill_13 (by decide) (fun c_13 => ?_) (fun c_13 => ?_)
      · have hno : ∀ a m : Nat, a + m ≤ zLn z k_2 → nI i0 = nI a → n ≠ nI m := fun a m h q q2 => nI_pos (n := m) (by omega) (by rw [← q2]; exact c_13)
        refine lv_iconst (v := nI 0) hx hb dX3_fill_38 (by decide) ?_
        exact W.zret (v := nI 0) hx hb hr (by decide) (fun t ht hW => ⟨⟨_, (us, nu, bm, tn, g, za, ss, bk), rfl, by rw [zs_fill_2 f1_2 f4_2 hno]; exact ⟨rfl, hR⟩, by rw [ht]; exact hP, hD⟩, hS.F ht⟩) hS.2.2 dX3_fill_39
      · obtain ⟨n0, hn0, rfl⟩ := nI_of c_13
        have hl : lv_has ls 6 [(0, .ref b0), (1, .int (nI k_2)), (2, .int (nI i0)), (3, .int (nI n0)), (4, .int d)] := hl
        refine lv_iload_n hx hb dX3_fill_16 rfl (lv_at hl 2 rfl) ?_
        refine lv_aload_n hx hb dX3_fill_17 rfl (lv_at hl 0 rfl) ?_
        refine va_get (D := (dC, dI)) (ci := 3) (v := .ref b3) (C := RX3) (T := TX3) (N := 8) hx hb hts sf_inX3 hown hK hP 0 rfl rfl 3 (by decide) (hts _ (sf_mem fl_X3_18 rfl)) (fun _ h9 => h9) rfl dX3_fill_18 ?_
        refine lv_iload_n hx hb dX3_fill_21 rfl (lv_at hl 1 rfl) ?_
        refine sf_iald hx hb hK hP 3 2 rfl rfl (by omega) (by decide) dX3_fill_22 ?_
        rw [f3_2]
        refine sf_icmp_gt (tgt := 38) hx hb (by omega) (by omega) dX3_fill_23 (by decide) (fun c_23 => ?_) (fun c_23 => ?_)
        · have hno : ∀ a m : Nat, a + m ≤ zLn z k_2 → nI i0 = nI a → nI n0 ≠ nI m := fun a m h q q2 => by
            have e1 := (nI_eq hi0 (by omega)).mp q
            have e2 := (nI_eq hn0 (by omega)).mp q2
            omega
          refine lv_iconst (v := nI 0) hx hb dX3_fill_38 (by decide) ?_
          exact W.zret (v := nI 0) hx hb hr (by decide) (fun t ht hW => ⟨⟨_, (us, nu, bm, tn, g, za, ss, bk), rfl, by rw [zs_fill_2 f1_2 f4_2 hno]; exact ⟨rfl, hR⟩, by rw [ht]; exact hP, hD⟩, hS.F ht⟩) hS.2.2 dX3_fill_39
        · refine lv_iload_n hx hb dX3_fill_26 rfl (lv_at hl 3 rfl) ?_
          refine lv_aload_n hx hb dX3_fill_27 rfl (lv_at hl 0 rfl) ?_
          refine va_get (D := (dC, dI)) (ci := 3) (v := .ref b3) (C := RX3) (T := TX3) (N := 8) hx hb hts sf_inX3 hown hK hP 0 rfl rfl 3 (by decide) (hts _ (sf_mem fl_X3_18 rfl)) (fun _ h9 => h9) rfl dX3_fill_28 ?_
          refine lv_iload_n hx hb dX3_fill_31 rfl (lv_at hl 1 rfl) ?_
          refine sf_iald hx hb hK hP 3 2 rfl rfl (by omega) (by decide) dX3_fill_32 ?_
          rw [f3_2]
          refine lv_iload_n hx hb dX3_fill_33 rfl (lv_at hl 2 rfl) ?_
          refine sf_isub hx hb (by omega) dX3_fill_34 ?_
          refine sf_icmp_le (tgt := 40) hx hb (by omega) (by omega) dX3_fill_35 (by decide) (fun c_35 => ?_) (fun c_35 => ?_)
          · refine lv_iconst (v := nI 0) hx hb dX3_fill_40 (by decide) ?_
            refine lv_istore (lv' := [(5, .int (nI 0)), (0, .ref b0), (1, .int (nI k_2)), (2, .int (nI i0)), (3, .int (nI n0)), (4, .int d)]) hx hb dX3_fill_41 hl (by decide) rfl (fun ls hl => ?_)
            refine sf_loop (σ := Nat × (Nat → Int32)) (fun u => n0 - u.1) (fun u H locs ls => u.1 ≤ n0 ∧ (∀ p, u.2 p = if (ss k_2 + i0) ≤ p ∧ p < (ss k_2 + i0) + u.1 then zfb d (p - (ss k_2 + i0)) else g p) ∧ sb_Fit u.2 ∧ va_P (dC, dI) vwCl (mw_w b0 b1 b2 b3 b4 d1 d2 d3 d4 us nu bm tn u.2 za ss bk) H ∧ va_D A (mw_w b0 b1 b2 b3 b4 d1 d2 d3 d4 us nu bm tn u.2 za ss bk) ∧ va_S A s.heap H locs ∧ lv_has ls 6 [(0, .ref b0), (1, .int (nI k_2)), (2, .int (nI i0)), (3, .int (nI n0)), (4, .int d), (5, .int (nI u.1))]) ?_ (0, g) _ _ _ ?_
            · intro u H locs ls hI2 ih
              obtain ⟨c0, g2⟩ := u
              obtain ⟨k1, k2, k3, hP, hD, hS, hl⟩ := hI2
              dsimp only at k1 k2 k3 hP hD hl ih
              refine lv_iload hx hb dX3_fill_43 (lv_at hl 5 rfl) ?_
              refine lv_iload_n hx hb dX3_fill_45 rfl (lv_at hl 3 rfl) ?_
              refine sf_icmp_ge (tgt := 87) hx hb (by omega) (by omega) dX3_fill_46 (by decide) (fun c_46 => ?_) (fun c_46 => ?_)
              · refine lv_iconst (v := nI 1) hx hb dX3_fill_87 (by decide) ?_
                exact W.zret (v := nI 1) hx hb hr (by decide) (fun t ht hW => ⟨⟨_, (us, nu, bm, tn, g2, za, ss, bk), rfl, by rw [zs_fill_3 f1_2 f4_2 (by omega)]; exact ⟨rfl, mw_R_fill hR q1_2 f2_2 k3 (by omega) (by rw [show c0 = n0 by omega] at k2; exact k2)⟩, by rw [ht]; exact hP, hD⟩, hS.F ht⟩) hS.2.2 dX3_fill_88
              · have hb6 := f6_2 (i0 + c0) (by omega)
                refine lv_aload_n hx hb dX3_fill_49 rfl (lv_at hl 0 rfl) ?_
                refine va_get (D := (dC, dI)) (ci := 3) (v := .ref b1) (C := RX3) (T := TX3) (N := 8) hx hb hts sf_inX3 hown hK hP 0 rfl rfl 0 (by decide) (hts _ (sf_mem fl_X3_8 rfl)) (fun _ h9 => h9) rfl dX3_fill_50 ?_
                refine lv_aload_n hx hb dX3_fill_53 rfl (lv_at hl 0 rfl) ?_
                refine va_get (D := (dC, dI)) (ci := 3) (v := .ref b2) (C := RX3) (T := TX3) (N := 8) hx hb hts sf_inX3 hown hK hP 0 rfl rfl 2 (by decide) (hts _ (sf_mem fl_X3_14 rfl)) (fun _ h9 => h9) rfl dX3_fill_54 ?_
                refine lv_iload_n hx hb dX3_fill_57 rfl (lv_at hl 1 rfl) ?_
                refine sf_iald hx hb hK hP 2 1 rfl rfl (by omega) (by decide) dX3_fill_58 ?_
                try dsimp only
                refine lv_iload_n hx hb dX3_fill_59 rfl (lv_at hl 2 rfl) ?_
                refine sf_iadd hx hb dX3_fill_60 ?_
                refine lv_iload hx hb dX3_fill_61 (lv_at hl 5 rfl) ?_
                refine sf_iadd hx hb dX3_fill_63 ?_
                refine lv_iload hx hb dX3_fill_64 (lv_at hl 4 rfl) ?_
                refine lv_bipush (v := nI 7) hx hb dX3_fill_66 (by decide) ?_
                refine lv_iload hx hb dX3_fill_68 (lv_at hl 5 rfl) ?_
                refine sf_imul hx hb dX3_fill_70 ?_
                refine lv_iadd hx hb dX3_fill_71 ?_
                refine lv_iload hx hb dX3_fill_72 (lv_at hl 5 rfl) ?_
                refine lv_sipush (v := nI 250) hx hb dX3_fill_74 (by decide) ?_
                refine sf_idiv hx hb (by omega) (by omega) (by omega) dX3_fill_77 ?_
                refine lv_iadd hx hb dX3_fill_78 ?_
                refine lv_i2b hx hb dX3_fill_79 rfl ?_
                refine sf_bast hx hb hK hP hD hS 1 0 rfl rfl (pk_vb _) (by omega) (by decide) dX3_fill_80 (fun H locs hP hD hS => ?_)
                have hP : va_P (dC, dI) vwCl (mw_w b0 b1 b2 b3 b4 d1 d2 d3 d4 us nu bm tn (upd g2 (((ss k_2) + i0) + c0) (((d + (nI (7 * c0))) + (nI (c0 / 250))).toInt8.toInt32)) za ss bk) H := hP
                have hD : va_D A (mw_w b0 b1 b2 b3 b4 d1 d2 d3 d4 us nu bm tn (upd g2 (((ss k_2) + i0) + c0) (((d + (nI (7 * c0))) + (nI (c0 / 250))).toInt8.toInt32)) za ss bk) := hD
                refine lv_iinc (v := nI (c0 + 1)) (lv' := [(5, .int (nI (c0 + 1))), (0, .ref b0), (1, .int (nI k_2)), (2, .int (nI i0)), (3, .int (nI n0)), (4, .int d)]) hx hb dX3_fill_81 hl (k := 5) rfl (nI_1 c0) (by decide) rfl (fun ls hl => ?_)
                refine lv_goto (tgt := 43) hx hb dX3_fill_84 (by decide) ?_
                exact ih (c0 + 1, upd g2 (ss k_2 + i0 + c0) (zfb d c0)) _ _ _ (by dsimp only; omega) ⟨by dsimp only; omega, sf_fill_go (h := zfb d) k2, sb_fitU k3 (pk_fb _), hP, hD, hS, lv_sub hl [1, 2, 3, 4, 5, 0] rfl⟩
            · exact ⟨Nat.zero_le _, fun p => by rw [if_neg (by omega)], hR.2.2.2.2.2.2.2.2.2.2.2.2, hP, hD, hS, lv_sub hl [1, 2, 3, 4, 5, 0] rfl⟩
          · have hno : ∀ a m : Nat, a + m ≤ zLn z k_2 → nI i0 = nI a → nI n0 ≠ nI m := fun a m h q q2 => by
              have e1 := (nI_eq hi0 (by omega)).mp q
              have e2 := (nI_eq hn0 (by omega)).mp q2
              omega
            refine lv_iconst (v := nI 0) hx hb dX3_fill_38 (by decide) ?_
            exact W.zret (v := nI 0) hx hb hr (by decide) (fun t ht hW => ⟨⟨_, (us, nu, bm, tn, g, za, ss, bk), rfl, by rw [zs_fill_2 f1_2 f4_2 hno]; exact ⟨rfl, hR⟩, by rw [ht]; exact hP, hD⟩, hS.F ht⟩) hS.2.2 dX3_fill_39
  · have f1_2 := mw_zn hR h_2
    refine sf_if_eq (tgt := 38) hx hb (by decide) dX3_fill_5 (by decide) (fun _ => ?_) (fun c_5 => absurd c_5 (by decide))
    refine lv_iconst (v := nI 0) hx hb dX3_fill_38 (by decide) ?_
    exact W.zret (v := nI 0) hx hb hr (by decide) (fun t ht hW => ⟨⟨_, (us, nu, bm, tn, g, za, ss, bk), rfl, by rw [zs_fill_1 f1_2]; exact ⟨rfl, hR⟩, by rw [ht]; exact hP, hD⟩, hS.F ht⟩) hS.2.2 dX3_fill_39
theorem mw_res_f {z : sf_Z} {k n : Nat} {g g2 : Nat → Int32} {ss ss2 : Nat → Nat} (f4 : mln z k = zLn z k) (f5 : ∀ i, i < zLn z k → zBy z k i = g (ss k + i)) (e6 : ∀ i, i < n → g2 (ss2 k + i) = if i < mln z k then g (ss k + i) else 0) : ∀ i, i < n → (fun i => if i < zLn z k then zBy z k i else 0) i = g2 (ss2 k + i) := by
  intro i hi
  show (if i < zLn z k then zBy z k i else 0) = _
  rw [e6 i hi, f4]
  by_cases q : i < zLn z k
  · rw [if_pos q, if_pos q]; exact f5 i q
  · rw [if_neg q, if_neg q]
set_option maxHeartbeats 4000000 in
set_option maxRecDepth 100000 in
/-- resize(row, n) -/
theorem m_resize (l : Launch) (dC : Nat → ClassId) (dI : Nat → Nat → Nat) (b0 b1 b2 b3 b4 : Nat) (d1 d2 d3 d4 : ClassId) (us nu bm tn : Nat) (g za : Nat → Int32) (ss bk : Nat → Nat) (sz : Nat) (z : sf_Z) (hR : mw_R us nu bm tn g za ss bk z) (row n : Int32) : Met l yX3_resize wsX3_resize ({ frames := 2, cells := 0, slots := 0, locals := 60 } : Room) (sf_Pre (dC, dI) vwCl [(d1, .byte), (d2, .int), (d3, .int), (d4, .int)] [.ref b0, .int row, .int n] (mw_w b0 b1 b2 b3 b4 d1 d2 d3 d4 us nu bm tn g za ss bk) sz) (va_Qi (fun (r : Int32) (u : mw_S) => r = (zs_resize z row n).1 ∧ mw_Ru u (zs_resize z row n).2) (sf_E (dC, dI) vwCl (va_A (mw_w b0 b1 b2 b3 b4 d1 d2 d3 d4 us nu bm tn g za ss bk) sz) (fun (u : mw_S) => mw_w b0 b1 b2 b3 b4 d1 d2 d3 d4 u.1 u.2.1 u.2.2.1 u.2.2.2.1 u.2.2.2.2.1 u.2.2.2.2.2.1 u.2.2.2.2.2.2.1 u.2.2.2.2.2.2.2)) (va_A (mw_w b0 b1 b2 b3 b4 d1 d2 d3 d4 us nu bm tn g za ss bk) sz)) 0 0 (va_A (mw_w b0 b1 b2 b3 b4 d1 d2 d3 d4 us nu bm tn g za ss bk) sz) := by
  refine Met.ofW (cc := cX3_resize) (maxL := 3) (ret := (some .int)) (by decide) rfl ?_
  intro p e s m args below meth c s₁ B hml hv
  obtain ⟨rfl, hsz, hP, hK, hD0, hN⟩ := hv
  have hx := B.exec
  have hb := B.bytes
  have hr := B.returns
  have hts := atoms_spec (ws := wsX3_resize) B.pre
  have hown : s.vm.findClass RX3 = some m.cls := findClass_of_methodNamed B.named
  have hlocks := B.notSynchronized
  subst hsz
  have hD := hD0.self (sz := s.heap.size)
  generalize hAe : va_A (mw_w b0 b1 b2 b3 b4 d1 d2 d3 d4 us nu bm tn g za ss bk) s.heap.size = A at hD ⊢
  have hA : ∀ q : Nat, s.heap.size ≤ q → A q := fun q h => by rw [← hAe]; exact Or.inr h
  have hS : va_S A s.heap s.heap [] := va_S.rf
  have hl := lv_entry ([.ref b0, .int row, .int n]) (n := 3) (Nat.le_of_ble_eq_true rfl)
  rw [lg_entry_eq]
  generalize (lg_sl ([.ref b0, .int row, .int n]) ++ List.replicate (3 - (lg_sl ([.ref b0, .int row, .int n])).length) Slot.unset).toArray = ls at hl ⊢
  have hl : lv_has ls 3 [(0, .ref b0), (1, .int row), (2, .int n)] := hl
  refine lv_aload_n hx hb dX3_resize_0 rfl (lv_at hl 0 rfl) ?_
  refine lv_iload_n hx hb dX3_resize_1 rfl (lv_at hl 1 rfl) ?_
  refine vp_callSi (va_Run.run (sf_runV (b := b0) (As := [.int row]) (rest := []) ⟨hx, hb, hml, hown, hts⟩ sf_has (m_isRow l dC dI b0 b1 b2 b3 b4 d1 d2 d3 d4 us nu bm tn g za ss bk _ _ hR.2.1) k_X3_52 ⟨sf_blind, va_recv hK hP (ci := 3) (q0 := 0) rfl rfl, sf_preU hP hK hD hN⟩ rfl hl.1 (Nat.le_of_ble_eq_true rfl) ⟨(Nat.le_of_ble_eq_true rfl), (Nat.le_of_ble_eq_true rfl)⟩ ⟨rfl, rfl⟩ ⟨Nat.zero_le _, Nat.zero_le _⟩ dX3_resize_2)) (fun r_2 h_2 => ?_)
  rcases h_2 with ⟨rfl, h_2⟩ | ⟨rfl, h_2⟩
  · obtain ⟨k_2, q1_2, q2_2, q3_2⟩ := h_2
    subst q2_2
    have hl : lv_has ls 3 [(0, .ref b0), (1, .int (nI k_2)), (2, .int n)] := hl
    obtain ⟨f1_2, f2_2, f3_2, f4_2, f5_2, f6_2, f7_2⟩ := mw_zs hR q1_2 q3_2
    have hnu := hR.2.1
    refine sf_if_eq (tgt := 19) hx hb (by decide) dX3_resize_5 (by decide) (fun c_5 => absurd c_5 (by decide)) (fun _ => ?_)
    refine lv_iload_n hx hb dX3_resize_8 rfl (lv_at hl 2 rfl) ?_
    refine lv_if_lt (tgt := 19) hx hb dX3_resize_9 (by decide) (fun c_9 => ?_) (fun c_9 => ?_)
    · have hzn : zi n 16385 = none := zi_none (by omega) (fun k hk q => nI_pos (n := k) (by omega) (by rw [← q]; exact c_9))
      refine lv_iconst (v := -1) hx hb dX3_resize_19 (by decide) ?_
      exact W.iret (v := -1) hx hb hr (fun t ht hW => ⟨⟨_, (us, nu, bm, tn, g, za, ss, bk), rfl, by rw [zs_res_2 f1_2 hzn]; exact ⟨rfl, hR⟩, by rw [ht]; exact hP, hD⟩, hS.F ht⟩) hS.2.2 dX3_resize_20
    · obtain ⟨m, hm0, rfl⟩ := nI_of c_9
      have hl : lv_has ls 3 [(0, .ref b0), (1, .int (nI k_2)), (2, .int (nI m))] := hl
      refine lv_iload_n hx hb dX3_resize_12 rfl (lv_at hl 2 rfl) ?_
      refine lv_sipush (v := nI 16384) hx hb dX3_resize_13 (by decide) ?_
      refine sf_icmp_le (tgt := 21) hx hb (by omega) (by omega) dX3_resize_16 (by decide) (fun c_16 => ?_) (fun c_16 => ?_)
      · refine lv_aload_n hx hb dX3_resize_21 rfl (lv_at hl 0 rfl) ?_
        refine lv_iload_n hx hb dX3_resize_22 rfl (lv_at hl 1 rfl) ?_
        refine lv_iload_n hx hb dX3_resize_23 rfl (lv_at hl 2 rfl) ?_
        refine vp_callSi (va_Run.run (sf_runV (b := b0) (As := [.int (nI k_2), .int (nI m)]) (rest := []) ⟨hx, hb, hml, hown, hts⟩ sf_has (m_hasRoom l dC dI b0 b1 b2 b3 b4 d1 d2 d3 d4 us nu bm tn g za ss bk _ k_2 m (zLn z k_2) (by omega) f3_2 f4_2 c_16 (by have := hR.2.2.2.2.2.2.2.2.2.1; have := hR.2.2.2.2.2.2.2.2.2.2.2.1; omega)) k_X3_56 ⟨sf_blind, va_recv hK hP (ci := 3) (q0 := 0) rfl rfl, sf_preU hP hK hD hN⟩ rfl hl.1 (Nat.le_of_ble_eq_true rfl) ⟨(Nat.le_of_ble_eq_true rfl), (Nat.le_of_ble_eq_true rfl)⟩ ⟨rfl, rfl⟩ ⟨Nat.zero_le _, Nat.zero_le _⟩ dX3_resize_24)) (fun r_24 h_24 => ?_)
        rcases h_24 with ⟨rfl, h_24⟩ | ⟨rfl, h_24⟩
        · refine sf_if_ne (tgt := 33) hx hb (by decide) dX3_resize_27 (by decide) (fun _ => ?_) (fun c_27 => absurd c_27 (by decide))
          refine lv_aload_n hx hb dX3_resize_33 rfl (lv_at hl 0 rfl) ?_
          refine lv_iload_n hx hb dX3_resize_34 rfl (lv_at hl 1 rfl) ?_
          refine lv_iload_n hx hb dX3_resize_35 rfl (lv_at hl 2 rfl) ?_
          have hmk : mln z k_2 = zLn z k_2 := mln_1 f2_2
          have hus := mw_us hR
          have hrm := mw_room hR q1_2 (n := m) (by rw [hmk, ← hR.2.2.2.2.2.2.2.2.2.1]; exact h_24)
          have htn := hR.2.2.2.2.2.2.2.2.2.1
          have hoc := hR.2.2.2.2.2.2.2.2.2.2.2.1
          refine sf_cv (sf_runV (b := b0) (As := [.int (nI k_2), .int (nI m)]) (rest := []) ⟨hx, hb, hml, hown, hts⟩ sf_has (m_change l dC dI b0 b1 b2 b3 b4 d1 d2 d3 d4 us nu bm tn g za ss bk _ k_2 m (mln z) hR.2.2.2.2.2.2.2.1 q1_2 hnu (mw_hz hR) (by rw [hmk]; exact f3_2) (by rw [hmk]; exact f4_2) c_16 hR.2.2.2.2.2.2.2.2.2.2.2.2 hus hrm (by omega) (by rw [hmk]; omega)) k_X3_42 ⟨sf_blind, va_recv hK hP (ci := 3) (q0 := 0) rfl rfl, sf_preU hP hK hD hN⟩ rfl hl.1 (Nat.le_of_ble_eq_true rfl) ⟨(Nat.le_of_ble_eq_true rfl), (Nat.le_of_ble_eq_true rfl)⟩ ⟨rfl, rfl⟩ ⟨Nat.zero_le _, Nat.zero_le _⟩ dX3_resize_36) hD hS hA (fun u_36 H locs h_36 hP hD hS => ?_)
          obtain ⟨g2, ss2⟩ := u_36
          obtain ⟨p1, p2, p3, p4⟩ := h_36
          dsimp only at p1 p2 p3 p4
          have hP : va_P (dC, dI) vwCl (mw_w b0 b1 b2 b3 b4 d1 d2 d3 d4 (us + m - mln z k_2) nu bm (tn + sf_P m - sf_P (mln z k_2)) g2 (upd za k_2 (nI m)) ss2 bk) H := hP
          have hD : va_D A (mw_w b0 b1 b2 b3 b4 d1 d2 d3 d4 (us + m - mln z k_2) nu bm (tn + sf_P m - sf_P (mln z k_2)) g2 (upd za k_2 (nI m)) ss2 bk) := hD
          refine lv_iload_n hx hb dX3_resize_39 rfl (lv_at hl 2 rfl) ?_
          exact W.iret (v := nI m) hx hb hr (fun t ht hW => ⟨⟨_, ((us + m - mln z k_2), nu, bm, (tn + sf_P m - sf_P (mln z k_2)), g2, (upd za k_2 (nI m)), ss2, bk), rfl, by rw [zs_res_4 f1_2 c_16 (by rw [← hR.2.2.2.2.2.2.2.2.2.1]; exact h_24)]; exact ⟨rfl, mw_R_len hR q1_2 f2_2 c_16 (by rw [← hR.2.2.2.2.2.2.2.2.2.1]; exact h_24) p1 p2 (mw_res_f hmk f5_2 p3) p4⟩, by rw [ht]; exact hP, hD⟩, hS.F ht⟩) hS.2.2 dX3_resize_40
        · refine sf_if_ne (tgt := 33) hx hb (by decide) dX3_resize_27 (by decide) (fun c_27 => absurd c_27 (by decide)) (fun _ => ?_)
          refine lv_bipush (v := -2) hx hb dX3_resize_30 (by decide) ?_
          exact W.iret (v := -2) hx hb hr (fun t ht hW => ⟨⟨_, (us, nu, bm, tn, g, za, ss, bk), rfl, by rw [zs_res_3 f1_2 c_16 (by rw [← hR.2.2.2.2.2.2.2.2.2.1]; exact h_24)]; exact ⟨rfl, hR⟩, by rw [ht]; exact hP, hD⟩, hS.F ht⟩) hS.2.2 dX3_resize_32
      · have hzn : zi (nI m) 16385 = none := zi_none (by omega) (fun k hk q => by
          have := (nI_eq hm0 (by omega)).mp q
          omega)
        refine lv_iconst (v := -1) hx hb dX3_resize_19 (by decide) ?_
        exact W.iret (v := -1) hx hb hr (fun t ht hW => ⟨⟨_, (us, nu, bm, tn, g, za, ss, bk), rfl, by rw [zs_res_2 f1_2 hzn]; exact ⟨rfl, hR⟩, by rw [ht]; exact hP, hD⟩, hS.F ht⟩) hS.2.2 dX3_resize_20
  · have f1_2 := mw_zn hR h_2
    refine sf_if_eq (tgt := 19) hx hb (by decide) dX3_resize_5 (by decide) (fun _ => ?_) (fun c_5 => absurd c_5 (by decide))
    refine lv_iconst (v := -1) hx hb dX3_resize_19 (by decide) ?_
    exact W.iret (v := -1) hx hb hr (fun t ht hW => ⟨⟨_, (us, nu, bm, tn, g, za, ss, bk), rfl, by rw [zs_res_1 f1_2]; exact ⟨rfl, hR⟩, by rw [ht]; exact hP, hD⟩, hS.F ht⟩) hS.2.2 dX3_resize_20
theorem mw_cp_b {us nu bm tn : Nat} {g za : Nat → Int32} {ss bk : Nat → Nat} {z : sf_Z} {k n : Nat} (h : mw_R us nu bm tn g za ss bk z) (hk : k < nu) (tk1 : zTk z k = 1) (e : zLn z k = n) : ∀ i, i < n → ss k + i < 400000 := by
  intro i hi
  have hus := mw_us h
  have := h.2.2.2.2.2.2.2.1.2.1 k hk (by rw [mln_1 tk1]; omega)
  rw [mln_1 tk1] at this
  omega
theorem mw_cp_r {us nu bm tn : Nat} {g2 g3 za : Nat → Int32} {ss bk : Nat → Nat} {z : sf_Z} {k k2 n c : Nat} (h : mw_R us nu bm tn g2 za ss bk z) (hk : k < nu) (tk1 : zTk z k = 1) (hk2 : k2 < nu) (tk2 : zTk z k2 = 1) (e1 : zLn z k = n) (e2 : zLn z k2 = n) (q : ∀ x, g3 x = if ss k ≤ x ∧ x < ss k + c then g2 (ss k2 + (x - ss k)) else g2 x) (hc : c < n) : g3 (ss k2 + c) = g2 (ss k2 + c) := by
  rw [q, if_neg]
  intro e
  by_cases ek : k2 = k
  · subst ek
    omega
  · exact mw_apart h hk hk2 tk1 tk2 ek (a := c) (b := ss k2 + c - ss k) (by omega) (by omega) (by omega)
set_option maxHeartbeats 4000000 in
set_option maxRecDepth 100000 in
/-- copy(row, src) -/
theorem m_copy (l : Launch) (dC : Nat → ClassId) (dI : Nat → Nat → Nat) (b0 b1 b2 b3 b4 : Nat) (d1 d2 d3 d4 : ClassId) (us nu bm tn : Nat) (g za : Nat → Int32) (ss bk : Nat → Nat) (sz : Nat) (z : sf_Z) (hR : mw_R us nu bm tn g za ss bk z) (row src : Int32) : Met l yX3_copy wsX3_copy ({ frames := 2, cells := 0, slots := 0, locals := 60 } : Room) (sf_Pre (dC, dI) vwCl [(d1, .byte), (d2, .int), (d3, .int), (d4, .int)] [.ref b0, .int row, .int src] (mw_w b0 b1 b2 b3 b4 d1 d2 d3 d4 us nu bm tn g za ss bk) sz) (va_Qi (fun (r : Int32) (u : mw_S) => r = (zs_copy z row src).1 ∧ mw_Ru u (zs_copy z row src).2) (sf_E (dC, dI) vwCl (va_A (mw_w b0 b1 b2 b3 b4 d1 d2 d3 d4 us nu bm tn g za ss bk) sz) (fun (u : mw_S) => mw_w b0 b1 b2 b3 b4 d1 d2 d3 d4 u.1 u.2.1 u.2.2.1 u.2.2.2.1 u.2.2.2.2.1 u.2.2.2.2.2.1 u.2.2.2.2.2.2.1 u.2.2.2.2.2.2.2)) (va_A (mw_w b0 b1 b2 b3 b4 d1 d2 d3 d4 us nu bm tn g za ss bk) sz)) 0 0 (va_A (mw_w b0 b1 b2 b3 b4 d1 d2 d3 d4 us nu bm tn g za ss bk) sz) := by
  refine Met.ofW (cc := cX3_copy) (maxL := 5) (ret := (some .int)) (by decide) rfl ?_
  intro p e s m args below meth c s₁ B hml hv
  obtain ⟨rfl, hsz, hP, hK, hD0, hN⟩ := hv
  have hx := B.exec
  have hb := B.bytes
  have hr := B.returns
  have hts := atoms_spec (ws := wsX3_copy) B.pre
  have hown : s.vm.findClass RX3 = some m.cls := findClass_of_methodNamed B.named
  have hlocks := B.notSynchronized
  subst hsz
  have hD := hD0.self (sz := s.heap.size)
  generalize hAe : va_A (mw_w b0 b1 b2 b3 b4 d1 d2 d3 d4 us nu bm tn g za ss bk) s.heap.size = A at hD ⊢
  have hA : ∀ q : Nat, s.heap.size ≤ q → A q := fun q h => by rw [← hAe]; exact Or.inr h
  have hS : va_S A s.heap s.heap [] := va_S.rf
  have hl := lv_entry ([.ref b0, .int row, .int src]) (n := 5) (Nat.le_of_ble_eq_true rfl)
  rw [lg_entry_eq]
  generalize (lg_sl ([.ref b0, .int row, .int src]) ++ List.replicate (5 - (lg_sl ([.ref b0, .int row, .int src])).length) Slot.unset).toArray = ls at hl ⊢
  have hl : lv_has ls 5 [(0, .ref b0), (1, .int row), (2, .int src)] := hl
  refine lv_aload_n hx hb dX3_copy_0 rfl (lv_at hl 0 rfl) ?_
  refine lv_iload_n hx hb dX3_copy_1 rfl (lv_at hl 1 rfl) ?_
  refine vp_callSi (va_Run.run (sf_runV (b := b0) (As := [.int row]) (rest := []) ⟨hx, hb, hml, hown, hts⟩ sf_has (m_isRow l dC dI b0 b1 b2 b3 b4 d1 d2 d3 d4 us nu bm tn g za ss bk _ _ hR.2.1) k_X3_52 ⟨sf_blind, va_recv hK hP (ci := 3) (q0 := 0) rfl rfl, sf_preU hP hK hD hN⟩ rfl hl.1 (Nat.le_of_ble_eq_true rfl) ⟨(Nat.le_of_ble_eq_true rfl), (Nat.le_of_ble_eq_true rfl)⟩ ⟨rfl, rfl⟩ ⟨Nat.zero_le _, Nat.zero_le _⟩ dX3_copy_2)) (fun r_2 h_2 => ?_)
  rcases h_2 with ⟨rfl, h_2⟩ | ⟨rfl, h_2⟩
  · obtain ⟨k_2, q1_2, q2_2, q3_2⟩ := h_2
    subst q2_2
    have hl : lv_has ls 5 [(0, .ref b0), (1, .int (nI k_2)), (2, .int src)] := hl
    obtain ⟨f1_2, f2_2, f3_2, f4_2, f5_2, f6_2, f7_2⟩ := mw_zs hR q1_2 q3_2
    have hnu := hR.2.1
    refine sf_if_eq (tgt := 16) hx hb (by decide) dX3_copy_5 (by decide) (fun c_5 => absurd c_5 (by decide)) (fun _ => ?_)
    refine lv_aload_n hx hb dX3_copy_8 rfl (lv_at hl 0 rfl) ?_
    refine lv_iload_n hx hb dX3_copy_9 rfl (lv_at hl 2 rfl) ?_
    refine vp_callSi (va_Run.run (sf_runV (b := b0) (As := [.int src]) (rest := []) ⟨hx, hb, hml, hown, hts⟩ sf_has (m_isRow l dC dI b0 b1 b2 b3 b4 d1 d2 d3 d4 us nu bm tn g za ss bk _ _ hR.2.1) k_X3_52 ⟨sf_blind, va_recv hK hP (ci := 3) (q0 := 0) rfl rfl, sf_preU hP hK hD hN⟩ rfl hl.1 (Nat.le_of_ble_eq_true rfl) ⟨(Nat.le_of_ble_eq_true rfl), (Nat.le_of_ble_eq_true rfl)⟩ ⟨rfl, rfl⟩ ⟨Nat.zero_le _, Nat.zero_le _⟩ dX3_copy_10)) (fun r_10 h_10 => ?_)
    rcases h_10 with ⟨rfl, h_10⟩ | ⟨rfl, h_10⟩
    · obtain ⟨k_10, q1_10, q2_10, q3_10⟩ := h_10
      subst q2_10
      have hl : lv_has ls 5 [(0, .ref b0), (1, .int (nI k_2)), (2, .int (nI k_10))] := hl
      obtain ⟨f1_10, f2_10, f3_10, f4_10, f5_10, f6_10, f7_10⟩ := mw_zs hR q1_10 q3_10
      have hnu := hR.2.1
      refine sf_if_ne (tgt := 18) hx hb (by decide) dX3_copy_13 (by decide) (fun _ => ?_) (fun c_13 => absurd c_13 (by decide))
      refine lv_aload_n hx hb dX3_copy_18 rfl (lv_at hl 0 rfl) ?_
      refine va_get (D := (dC, dI)) (ci := 3) (v := .ref b3) (C := RX3) (T := TX3) (N := 8) hx hb hts sf_inX3 hown hK hP 0 rfl rfl 3 (by decide) (hts _ (sf_mem fl_X3_18 rfl)) (fun _ h9 => h9) rfl dX3_copy_19 ?_
      refine lv_iload_n hx hb dX3_copy_22 rfl (lv_at hl 2 rfl) ?_
      refine sf_iald hx hb hK hP 3 2 rfl rfl (by omega) (by decide) dX3_copy_23 ?_
      rw [f3_10]
      refine lv_istore_n (lv' := [(3, .int (nI (zLn z k_10))), (0, .ref b0), (1, .int (nI k_2)), (2, .int (nI k_10))]) hx hb dX3_copy_24 rfl hl (by decide) rfl (fun ls hl => ?_)
      refine lv_aload_n hx hb dX3_copy_25 rfl (lv_at hl 1 rfl) ?_
      refine lv_iload_n hx hb dX3_copy_26 rfl (lv_at hl 2 rfl) ?_
      refine lv_iload_n hx hb dX3_copy_27 rfl (lv_at hl 0 rfl) ?_
      refine vp_callSi (va_Run.run (sf_runV (b := b0) (As := [.int (nI k_2), .int (nI (zLn z k_10))]) (rest := []) ⟨hx, hb, hml, hown, hts⟩ sf_has (m_hasRoom l dC dI b0 b1 b2 b3 b4 d1 d2 d3 d4 us nu bm tn g za ss bk _ k_2 (zLn z k_10) (zLn z k_2) (by omega) f3_2 f4_2 f4_10 (by have := hR.2.2.2.2.2.2.2.2.2.1; have := hR.2.2.2.2.2.2.2.2.2.2.2.1; omega)) k_X3_56 ⟨sf_blind, va_recv hK hP (ci := 3) (q0 := 0) rfl rfl, sf_preU hP hK hD hN⟩ rfl hl.1 (Nat.le_of_ble_eq_true rfl) ⟨(Nat.le_of_ble_eq_true rfl), (Nat.le_of_ble_eq_true rfl)⟩ ⟨rfl, rfl⟩ ⟨Nat.zero_le _, Nat.zero_le _⟩ dX3_copy_28)) (fun r_28 h_28 => ?_)
      rcases h_28 with ⟨rfl, h_28⟩ | ⟨rfl, h_28⟩
      · refine sf_if_ne (tgt := 37) hx hb (by decide) dX3_copy_31 (by decide) (fun _ => ?_) (fun c_31 => absurd c_31 (by decide))
        refine lv_aload_n hx hb dX3_copy_37 rfl (lv_at hl 1 rfl) ?_
        refine lv_iload_n hx hb dX3_copy_38 rfl (lv_at hl 2 rfl) ?_
        refine lv_iload_n hx hb dX3_copy_39 rfl (lv_at hl 0 rfl) ?_
        have hmk : mln z k_2 = zLn z k_2 := mln_1 f2_2
        have hus := mw_us hR
        have hrm := mw_room hR q1_2 (n := zLn z k_10) (by rw [hmk, ← hR.2.2.2.2.2.2.2.2.2.1]; exact h_28)
        have htn := hR.2.2.2.2.2.2.2.2.2.1
        have hoc := hR.2.2.2.2.2.2.2.2.2.2.2.1
        refine sf_cv (sf_runV (b := b0) (As := [.int (nI k_2), .int (nI (zLn z k_10))]) (rest := []) ⟨hx, hb, hml, hown, hts⟩ sf_has (m_change l dC dI b0 b1 b2 b3 b4 d1 d2 d3 d4 us nu bm tn g za ss bk _ k_2 (zLn z k_10) (mln z) hR.2.2.2.2.2.2.2.1 q1_2 hnu (mw_hz hR) (by rw [hmk]; exact f3_2) (by rw [hmk]; exact f4_2) f4_10 hR.2.2.2.2.2.2.2.2.2.2.2.2 hus hrm (by omega) (by rw [hmk]; omega)) k_X3_42 ⟨sf_blind, va_recv hK hP (ci := 3) (q0 := 0) rfl rfl, sf_preU hP hK hD hN⟩ rfl hl.1 (Nat.le_of_ble_eq_true rfl) ⟨(Nat.le_of_ble_eq_true rfl), (Nat.le_of_ble_eq_true rfl)⟩ ⟨rfl, rfl⟩ ⟨Nat.zero_le _, Nat.zero_le _⟩ dX3_copy_40) hD hS hA (fun u_40 H locs h_40 hP hD hS => ?_)
        obtain ⟨g2, ss2⟩ := u_40
        obtain ⟨p1, p2, p3, p4⟩ := h_40
        dsimp only at p1 p2 p3 p4
        have hP : va_P (dC, dI) vwCl (mw_w b0 b1 b2 b3 b4 d1 d2 d3 d4 (us + (zLn z k_10) - mln z k_2) nu bm (tn + sf_P (zLn z k_10) - sf_P (mln z k_2)) g2 (upd za k_2 (nI (zLn z k_10))) ss2 bk) H := hP
        have hD : va_D A (mw_w b0 b1 b2 b3 b4 d1 d2 d3 d4 (us + (zLn z k_10) - mln z k_2) nu bm (tn + sf_P (zLn z k_10) - sf_P (mln z k_2)) g2 (upd za k_2 (nI (zLn z k_10))) ss2 bk) := hD
        have hR2 := mw_R_len (f := fun i => g2 (ss2 k_2 + i)) hR q1_2 f2_2 f4_10 (by rw [← hR.2.2.2.2.2.2.2.2.2.1]; exact h_28) p1 p2 (fun _ _ => rfl) p4
        have hb2 : ∀ i, i < zLn z k_10 → ss2 k_2 + i < 400000 := mw_cp_b hR2 q1_2 f2_2 (va_up_self _ _ _)
        have hb10 : ∀ i, i < zLn z k_10 → ss2 k_10 + i < 400000 := mw_cp_b hR2 q1_10 f2_10 sf_up_same
        refine lv_iconst (v := nI 0) hx hb dX3_copy_43 (by decide) ?_
        refine lv_istore (lv' := [(4, .int (nI 0)), (3, .int (nI (zLn z k_10))), (0, .ref b0), (1, .int (nI k_2)), (2, .int (nI k_10))]) hx hb dX3_copy_44 hl (by decide) rfl (fun ls hl => ?_)
        refine sf_loop (σ := Nat × (Nat → Int32)) (fun u => zLn z k_10 - u.1) (fun u H locs ls => u.1 ≤ zLn z k_10 ∧ (∀ x, u.2 x = if ss2 k_2 ≤ x ∧ x < ss2 k_2 + u.1 then g2 (ss2 k_10 + (x - ss2 k_2)) else g2 x) ∧ sb_Fit u.2 ∧ va_P (dC, dI) vwCl (mw_w b0 b1 b2 b3 b4 d1 d2 d3 d4 (us + (zLn z k_10) - mln z k_2) nu bm (tn + sf_P (zLn z k_10) - sf_P (mln z k_2)) u.2 (upd za k_2 (nI (zLn z k_10))) ss2 bk) H ∧ va_D A (mw_w b0 b1 b2 b3 b4 d1 d2 d3 d4 (us + (zLn z k_10) - mln z k_2) nu bm (tn + sf_P (zLn z k_10) - sf_P (mln z k_2)) u.2 (upd za k_2 (nI (zLn z k_10))) ss2 bk) ∧ va_S A s.heap H locs ∧ lv_has ls 5 [(0, .ref b0), (1, .int (nI k_2)), (2, .int (nI k_10)), (3, .int (nI (zLn z k_10))), (4, .int (nI u.1))]) ?_ (0, g2) _ _ _ ?_
        · intro u H locs ls hI2 ih
          obtain ⟨c0, g3⟩ := u
          obtain ⟨k1, k2, k3, hP, hD, hS, hl⟩ := hI2
          dsimp only at k1 k2 k3 hP hD hl ih
          have hnar := mw_nar (k3 (ss2 k_10 + c0))
          refine lv_iload hx hb dX3_copy_46 (lv_at hl 4 rfl) ?_
          refine lv_iload_n hx hb dX3_copy_48 rfl (lv_at hl 3 rfl) ?_
          refine sf_icmp_ge (tgt := 86) hx hb (by omega) (by omega) dX3_copy_49 (by decide) (fun c_49 => ?_) (fun c_49 => ?_)
          · refine lv_iload_n hx hb dX3_copy_86 rfl (lv_at hl 3 rfl) ?_
            exact W.iret (v := nI (zLn z k_10)) hx hb hr (fun t ht hW => ⟨⟨_, ((us + (zLn z k_10) - mln z k_2), nu, bm, (tn + sf_P (zLn z k_10) - sf_P (mln z k_2)), g3, (upd za k_2 (nI (zLn z k_10))), ss2, bk), rfl, by rw [zs_cpy_4 f1_2 f1_10 (by rw [← hR.2.2.2.2.2.2.2.2.2.1]; exact h_28)]; exact ⟨rfl, mw_R_copy hR q1_2 f2_2 q1_10 f2_10 hR2 p2 p3 k3 (by rw [show c0 = zLn z k_10 by omega] at k2; exact k2)⟩, by rw [ht]; exact hP, hD⟩, hS.F ht⟩) hS.2.2 dX3_copy_87
          · have hbA := hb2 c0 (by omega)
            have hbB := hb10 c0 (by omega)
            refine lv_aload_n hx hb dX3_copy_52 rfl (lv_at hl 0 rfl) ?_
            refine va_get (D := (dC, dI)) (ci := 3) (v := .ref b1) (C := RX3) (T := TX3) (N := 8) hx hb hts sf_inX3 hown hK hP 0 rfl rfl 0 (by decide) (hts _ (sf_mem fl_X3_8 rfl)) (fun _ h9 => h9) rfl dX3_copy_53 ?_
            refine lv_aload_n hx hb dX3_copy_56 rfl (lv_at hl 0 rfl) ?_
            refine va_get (D := (dC, dI)) (ci := 3) (v := .ref b2) (C := RX3) (T := TX3) (N := 8) hx hb hts sf_inX3 hown hK hP 0 rfl rfl 2 (by decide) (hts _ (sf_mem fl_X3_14 rfl)) (fun _ h9 => h9) rfl dX3_copy_57 ?_
            refine lv_iload_n hx hb dX3_copy_60 rfl (lv_at hl 1 rfl) ?_
            refine sf_iald hx hb hK hP 2 1 rfl rfl (by omega) (by decide) dX3_copy_61 ?_
            try dsimp only
            refine lv_iload hx hb dX3_copy_62 (lv_at hl 4 rfl) ?_
            refine sf_iadd hx hb dX3_copy_64 ?_
            refine lv_aload_n hx hb dX3_copy_65 rfl (lv_at hl 0 rfl) ?_
            refine va_get (D := (dC, dI)) (ci := 3) (v := .ref b1) (C := RX3) (T := TX3) (N := 8) hx hb hts sf_inX3 hown hK hP 0 rfl rfl 0 (by decide) (hts _ (sf_mem fl_X3_8 rfl)) (fun _ h9 => h9) rfl dX3_copy_66 ?_
            refine lv_aload_n hx hb dX3_copy_69 rfl (lv_at hl 0 rfl) ?_
            refine va_get (D := (dC, dI)) (ci := 3) (v := .ref b2) (C := RX3) (T := TX3) (N := 8) hx hb hts sf_inX3 hown hK hP 0 rfl rfl 2 (by decide) (hts _ (sf_mem fl_X3_14 rfl)) (fun _ h9 => h9) rfl dX3_copy_70 ?_
            refine lv_iload_n hx hb dX3_copy_73 rfl (lv_at hl 2 rfl) ?_
            refine sf_iald hx hb hK hP 2 1 rfl rfl (by omega) (by decide) dX3_copy_74 ?_
            try dsimp only
            refine lv_iload hx hb dX3_copy_75 (lv_at hl 4 rfl) ?_
            refine sf_iadd hx hb dX3_copy_77 ?_
            refine sf_bald hx hb hK hP 1 0 rfl rfl (by omega) (by decide) dX3_copy_78 ?_
            refine sf_bast hx hb hK hP hD hS 1 0 rfl rfl hnar (by omega) (by decide) dX3_copy_79 (fun H locs hP hD hS => ?_)
            have hP : va_P (dC, dI) vwCl (mw_w b0 b1 b2 b3 b4 d1 d2 d3 d4 (us + (zLn z k_10) - mln z k_2) nu bm (tn + sf_P (zLn z k_10) - sf_P (mln z k_2)) (upd g3 ((ss2 k_2) + c0) (g3 ((ss2 k_10) + c0))) (upd za k_2 (nI (zLn z k_10))) ss2 bk) H := hP
            have hD : va_D A (mw_w b0 b1 b2 b3 b4 d1 d2 d3 d4 (us + (zLn z k_10) - mln z k_2) nu bm (tn + sf_P (zLn z k_10) - sf_P (mln z k_2)) (upd g3 ((ss2 k_2) + c0) (g3 ((ss2 k_10) + c0))) (upd za k_2 (nI (zLn z k_10))) ss2 bk) := hD
            refine lv_iinc (v := nI (c0 + 1)) (lv' := [(4, .int (nI (c0 + 1))), (0, .ref b0), (1, .int (nI k_2)), (2, .int (nI k_10)), (3, .int (nI (zLn z k_10)))]) hx hb dX3_copy_80 hl (k := 4) rfl (nI_1 c0) (by decide) rfl (fun ls hl => ?_)
            refine lv_goto (tgt := 46) hx hb dX3_copy_83 (by decide) ?_
            exact ih (c0 + 1, upd g3 (ss2 k_2 + c0) (g3 (ss2 k_10 + c0))) _ _ _ (by dsimp only; omega) ⟨by dsimp only; omega, mw_cp_step k2 (mw_cp_r hR2 q1_2 f2_2 q1_10 f2_10 (va_up_self _ _ _) sf_up_same k2 (by omega)), sb_fitU k3 (k3 _), hP, hD, hS, lv_sub hl [1, 2, 3, 4, 0] rfl⟩
        · exact ⟨Nat.zero_le _, fun p => by rw [if_neg (by omega)], p4, hP, hD, hS, lv_sub hl [2, 3, 4, 1, 0] rfl⟩
      · refine sf_if_ne (tgt := 37) hx hb (by decide) dX3_copy_31 (by decide) (fun c_31 => absurd c_31 (by decide)) (fun _ => ?_)
        refine lv_bipush (v := -2) hx hb dX3_copy_34 (by decide) ?_
        exact W.iret (v := -2) hx hb hr (fun t ht hW => ⟨⟨_, (us, nu, bm, tn, g, za, ss, bk), rfl, by rw [zs_cpy_3 f1_2 f1_10 (by rw [← hR.2.2.2.2.2.2.2.2.2.1]; exact h_28)]; exact ⟨rfl, hR⟩, by rw [ht]; exact hP, hD⟩, hS.F ht⟩) hS.2.2 dX3_copy_36
    · have f1_10 := mw_zn hR h_10
      refine sf_if_ne (tgt := 18) hx hb (by decide) dX3_copy_13 (by decide) (fun c_13 => absurd c_13 (by decide)) (fun _ => ?_)
      refine lv_iconst (v := -1) hx hb dX3_copy_16 (by decide) ?_
      exact W.iret (v := -1) hx hb hr (fun t ht hW => ⟨⟨_, (us, nu, bm, tn, g, za, ss, bk), rfl, by rw [zs_cpy_2 f1_10]; exact ⟨rfl, hR⟩, by rw [ht]; exact hP, hD⟩, hS.F ht⟩) hS.2.2 dX3_copy_17
  · have f1_2 := mw_zn hR h_2
    refine sf_if_eq (tgt := 16) hx hb (by decide) dX3_copy_5 (by decide) (fun _ => ?_) (fun c_5 => absurd c_5 (by decide))
    refine lv_iconst (v := -1) hx hb dX3_copy_16 (by decide) ?_
    exact W.iret (v := -1) hx hb hr (fun t ht hW => ⟨⟨_, (us, nu, bm, tn, g, za, ss, bk), rfl, by rw [zs_cpy_1 f1_2]; exact ⟨rfl, hR⟩, by rw [ht]; exact hP, hD⟩, hS.F ht⟩) hS.2.2 dX3_copy_17
set_option maxHeartbeats 4000000 in
set_option maxRecDepth 100000 in
/-- give(row) -/
theorem m_give (l : Launch) (dC : Nat → ClassId) (dI : Nat → Nat → Nat) (b0 b1 b2 b3 b4 : Nat) (d1 d2 d3 d4 : ClassId) (us nu bm tn : Nat) (g za : Nat → Int32) (ss bk : Nat → Nat) (sz : Nat) (z : sf_Z) (hR : mw_R us nu bm tn g za ss bk z) (row : Int32) (hbal : zMd z = zCt z + (zFr z).length) (hct : ∀ k, zrow z row = some k → 1 ≤ zCt z) : Met l yX3_give wsX3_give ({ frames := 2, cells := 0, slots := 0, locals := 60 } : Room) (sf_Pre (dC, dI) vwCl [(d1, .byte), (d2, .int), (d3, .int), (d4, .int)] [.ref b0, .int row] (mw_w b0 b1 b2 b3 b4 d1 d2 d3 d4 us nu bm tn g za ss bk) sz) (va_Qi (fun (r : Int32) (u : mw_S) => r = (zs_give z row).1 ∧ mw_Ru u (zs_give z row).2) (sf_E (dC, dI) vwCl (va_A (mw_w b0 b1 b2 b3 b4 d1 d2 d3 d4 us nu bm tn g za ss bk) sz) (fun (u : mw_S) => mw_w b0 b1 b2 b3 b4 d1 d2 d3 d4 u.1 u.2.1 u.2.2.1 u.2.2.2.1 u.2.2.2.2.1 u.2.2.2.2.2.1 u.2.2.2.2.2.2.1 u.2.2.2.2.2.2.2)) (va_A (mw_w b0 b1 b2 b3 b4 d1 d2 d3 d4 us nu bm tn g za ss bk) sz)) 0 0 (va_A (mw_w b0 b1 b2 b3 b4 d1 d2 d3 d4 us nu bm tn g za ss bk) sz) := by
  refine Met.ofW (cc := cX3_give) (maxL := 2) (ret := (some .boolean)) (by decide) rfl ?_
  intro p e s m args below meth c s₁ B hml hv
  obtain ⟨rfl, hsz, hP, hK, hD0, hN⟩ := hv
  have hx := B.exec
  have hb := B.bytes
  have hr := B.returns
  have hts := atoms_spec (ws := wsX3_give) B.pre
  have hown : s.vm.findClass RX3 = some m.cls := findClass_of_methodNamed B.named
  have hlocks := B.notSynchronized
  subst hsz
  have hD := hD0.self (sz := s.heap.size)
  generalize hAe : va_A (mw_w b0 b1 b2 b3 b4 d1 d2 d3 d4 us nu bm tn g za ss bk) s.heap.size = A at hD ⊢
  have hA : ∀ q : Nat, s.heap.size ≤ q → A q := fun q h => by rw [← hAe]; exact Or.inr h
  have hS : va_S A s.heap s.heap [] := va_S.rf
  have hl := lv_entry ([.ref b0, .int row]) (n := 2) (Nat.le_of_ble_eq_true rfl)
  rw [lg_entry_eq]
  generalize (lg_sl ([.ref b0, .int row]) ++ List.replicate (2 - (lg_sl ([.ref b0, .int row])).length) Slot.unset).toArray = ls at hl ⊢
  have hl : lv_has ls 2 [(0, .ref b0), (1, .int row)] := hl
  refine lv_aload_n hx hb dX3_give_0 rfl (lv_at hl 0 rfl) ?_
  refine lv_iload_n hx hb dX3_give_1 rfl (lv_at hl 1 rfl) ?_
  refine vp_callSi (va_Run.run (sf_runV (b := b0) (As := [.int row]) (rest := []) ⟨hx, hb, hml, hown, hts⟩ sf_has (m_isRow l dC dI b0 b1 b2 b3 b4 d1 d2 d3 d4 us nu bm tn g za ss bk _ _ hR.2.1) k_X3_52 ⟨sf_blind, va_recv hK hP (ci := 3) (q0 := 0) rfl rfl, sf_preU hP hK hD hN⟩ rfl hl.1 (Nat.le_of_ble_eq_true rfl) ⟨(Nat.le_of_ble_eq_true rfl), (Nat.le_of_ble_eq_true rfl)⟩ ⟨rfl, rfl⟩ ⟨Nat.zero_le _, Nat.zero_le _⟩ dX3_give_2)) (fun r_2 h_2 => ?_)
  rcases h_2 with ⟨rfl, h_2⟩ | ⟨rfl, h_2⟩
  · obtain ⟨k_2, q1_2, q2_2, q3_2⟩ := h_2
    subst q2_2
    have hl : lv_has ls 2 [(0, .ref b0), (1, .int (nI k_2))] := hl
    obtain ⟨f1_2, f2_2, f3_2, f4_2, f5_2, f6_2, f7_2⟩ := mw_zs hR q1_2 q3_2
    have hnu := hR.2.1
    refine sf_if_ne (tgt := 10) hx hb (by decide) dX3_give_5 (by decide) (fun _ => ?_) (fun c_5 => absurd c_5 (by decide))
    refine lv_aload_n hx hb dX3_give_10 rfl (lv_at hl 0 rfl) ?_
    refine lv_iload_n hx hb dX3_give_11 rfl (lv_at hl 1 rfl) ?_
    refine lv_iconst (v := nI 0) hx hb dX3_give_12 (by decide) ?_
    have hmk : mln z k_2 = zLn z k_2 := mln_1 f2_2
    have hus := mw_us hR
    have hrm := mw_room hR q1_2 (n := 0) (by rw [hmk, ← hR.2.2.2.2.2.2.2.2.2.1]; exact Or.inl (sf_P_mono (Nat.zero_le _)))
    have htn := hR.2.2.2.2.2.2.2.2.2.1
    have hoc := hR.2.2.2.2.2.2.2.2.2.2.2.1
    refine sf_cv (sf_runV (b := b0) (As := [.int (nI k_2), .int (nI 0)]) (rest := []) ⟨hx, hb, hml, hown, hts⟩ sf_has (m_change l dC dI b0 b1 b2 b3 b4 d1 d2 d3 d4 us nu bm tn g za ss bk _ k_2 0 (mln z) hR.2.2.2.2.2.2.2.1 q1_2 hnu (mw_hz hR) (by rw [hmk]; exact f3_2) (by rw [hmk]; exact f4_2) (by omega) hR.2.2.2.2.2.2.2.2.2.2.2.2 hus hrm (by omega) (by rw [hmk]; omega)) k_X3_42 ⟨sf_blind, va_recv hK hP (ci := 3) (q0 := 0) rfl rfl, sf_preU hP hK hD hN⟩ rfl hl.1 (Nat.le_of_ble_eq_true rfl) ⟨(Nat.le_of_ble_eq_true rfl), (Nat.le_of_ble_eq_true rfl)⟩ ⟨rfl, rfl⟩ ⟨Nat.zero_le _, Nat.zero_le _⟩ dX3_give_13) hD hS hA (fun u_13 H locs h_13 hP hD hS => ?_)
    obtain ⟨g2, ss2⟩ := u_13
    obtain ⟨p1, p2, p3, p4⟩ := h_13
    dsimp only at p1 p2 p3 p4
    have hP : va_P (dC, dI) vwCl (mw_w b0 b1 b2 b3 b4 d1 d2 d3 d4 (us + 0 - mln z k_2) nu bm (tn + sf_P 0 - sf_P (mln z k_2)) g2 (upd za k_2 (nI 0)) ss2 bk) H := hP
    have hD : va_D A (mw_w b0 b1 b2 b3 b4 d1 d2 d3 d4 (us + 0 - mln z k_2) nu bm (tn + sf_P 0 - sf_P (mln z k_2)) g2 (upd za k_2 (nI 0)) ss2 bk) := hD
    have hbm := mw_bal hR hbal
    have hct1 := hct k_2 f1_2
    refine lv_aload_n hx hb dX3_give_16 rfl (lv_at hl 0 rfl) ?_
    refine va_get (D := (dC, dI)) (ci := 3) (v := .ref b3) (C := RX3) (T := TX3) (N := 8) hx hb hts sf_inX3 hown hK hP 0 rfl rfl 3 (by decide) (hts _ (sf_mem fl_X3_18 rfl)) (fun _ h9 => h9) rfl dX3_give_17 ?_
    refine lv_iload_n hx hb dX3_give_20 rfl (lv_at hl 1 rfl) ?_
    refine lv_iconst (v := -1) hx hb dX3_give_21 (by decide) ?_
    refine sf_iast hx hb hK hP hD hS 3 2 rfl rfl (by omega) (by decide) dX3_give_22 (fun H locs hP hD hS => ?_)
    have hP : va_P (dC, dI) vwCl (mw_w b0 b1 b2 b3 b4 d1 d2 d3 d4 (us + 0 - mln z k_2) nu bm (tn + sf_P 0 - sf_P (mln z k_2)) g2 (upd (upd za k_2 (nI 0)) k_2 (-1)) ss2 bk) H := hP
    have hD : va_D A (mw_w b0 b1 b2 b3 b4 d1 d2 d3 d4 (us + 0 - mln z k_2) nu bm (tn + sf_P 0 - sf_P (mln z k_2)) g2 (upd (upd za k_2 (nI 0)) k_2 (-1)) ss2 bk) := hD
    refine lv_aload_n hx hb dX3_give_23 rfl (lv_at hl 0 rfl) ?_
    refine va_get (D := (dC, dI)) (ci := 3) (v := .ref b4) (C := RX3) (T := TX3) (N := 8) hx hb hts sf_inX3 hown hK hP 0 rfl rfl 5 (by decide) (hts _ (sf_mem fl_X3_21 rfl)) (fun _ h9 => h9) rfl dX3_give_24 ?_
    refine lv_aload_n hx hb dX3_give_27 rfl (lv_at hl 0 rfl) ?_
    refine va_get (D := (dC, dI)) (ci := 3) (v := .int (nI bm)) (C := RX3) (T := TX3) (N := 8) hx hb hts sf_inX3 hown hK hP 0 rfl rfl 6 (by decide) (hts _ (sf_mem fl_X3_28 rfl)) (fun _ h9 => h9) rfl dX3_give_28 ?_
    refine lv_iload_n hx hb dX3_give_31 rfl (lv_at hl 1 rfl) ?_
    refine sf_iast hx hb hK hP hD hS 4 3 rfl rfl (by omega) (by decide) dX3_give_32 (fun H locs hP hD hS => ?_)
    dsimp only [List.set] at hP hD
    rw [mw_updN] at hP hD
    have hP : va_P (dC, dI) vwCl (mw_w b0 b1 b2 b3 b4 d1 d2 d3 d4 (us + 0 - mln z k_2) nu bm (tn + sf_P 0 - sf_P (mln z k_2)) g2 (upd (upd za k_2 (nI 0)) k_2 (-1)) ss2 (va_up bk bm k_2)) H := hP
    have hD : va_D A (mw_w b0 b1 b2 b3 b4 d1 d2 d3 d4 (us + 0 - mln z k_2) nu bm (tn + sf_P 0 - sf_P (mln z k_2)) g2 (upd (upd za k_2 (nI 0)) k_2 (-1)) ss2 (va_up bk bm k_2)) := hD
    refine lv_aload_n hx hb dX3_give_33 rfl (lv_at hl 0 rfl) ?_
    refine lv_dup hx hb dX3_give_34 rfl ?_
    refine va_get (D := (dC, dI)) (ci := 3) (v := .int (nI bm)) (C := RX3) (T := TX3) (N := 8) hx hb hts sf_inX3 hown hK hP 0 rfl rfl 6 (by decide) (hts _ (sf_mem fl_X3_28 rfl)) (fun _ h9 => h9) rfl dX3_give_35 ?_
    refine lv_iconst (v := nI 1) hx hb dX3_give_38 (by decide) ?_
    refine sf_iadd hx hb dX3_give_39 ?_
    refine va_put (D := (dC, dI)) (ci := 3) (v := .int (nI (bm + 1))) (ty := .int) (C := RX3) (T := TX3) (N := 8) hx hb hts sf_inX3 tyX3 tyX3_ok nmX3 hown hK hP hD hS 0 rfl rfl 6 (by decide) (hts _ (sf_mem fl_X3_28 rfl)) (fun _ h9 => h9) rfl (by decide +kernel) rfl rfl (Nat.le_of_ble_eq_true rfl) dX3_give_40 (fun H locs hP hD hS => ?_)
    have hP : va_P (dC, dI) vwCl (mw_w b0 b1 b2 b3 b4 d1 d2 d3 d4 (us + 0 - mln z k_2) nu (bm + 1) (tn + sf_P 0 - sf_P (mln z k_2)) g2 (upd (upd za k_2 (nI 0)) k_2 (-1)) ss2 (va_up bk bm k_2)) H := hP
    have hD : va_D A (mw_w b0 b1 b2 b3 b4 d1 d2 d3 d4 (us + 0 - mln z k_2) nu (bm + 1) (tn + sf_P 0 - sf_P (mln z k_2)) g2 (upd (upd za k_2 (nI 0)) k_2 (-1)) ss2 (va_up bk bm k_2)) := hD
    refine lv_iconst (v := nI 1) hx hb dX3_give_43 (by decide) ?_
    exact W.zret (v := nI 1) hx hb hr (by decide) (fun t ht hW => ⟨⟨_, ((us + 0 - mln z k_2), nu, bm + 1, (tn + sf_P 0 - sf_P (mln z k_2)), g2, (upd (upd za k_2 (nI 0)) k_2 (-1)), ss2, (va_up bk bm k_2)), rfl, by rw [zs_give_2 f1_2]; exact ⟨rfl, mw_R_give hR q1_2 f2_2 p1 p2 p4⟩, by rw [ht]; exact hP, hD⟩, hS.F ht⟩) hS.2.2 dX3_give_44
  · have f1_2 := mw_zn hR h_2
    refine sf_if_ne (tgt := 10) hx hb (by decide) dX3_give_5 (by decide) (fun c_5 => absurd c_5 (by decide)) (fun _ => ?_)
    refine lv_iconst (v := nI 0) hx hb dX3_give_8 (by decide) ?_
    exact W.zret (v := nI 0) hx hb hr (by decide) (fun t ht hW => ⟨⟨_, (us, nu, bm, tn, g, za, ss, bk), rfl, by rw [zs_give_1 f1_2]; exact ⟨rfl, hR⟩, by rw [ht]; exact hP, hD⟩, hS.F ht⟩) hS.2.2 dX3_give_9
theorem mw_us2 {us nu bm tn : Nat} {g za : Nat → Int32} {ss bk : Nat → Nat} {z : sf_Z} (h : mw_R us nu bm tn g za ss bk z) : us ≤ zOc z := by
  have := mw_sum_le (f := mln z) (h := fun k => sf_P (mln z k)) (n := nu) (fun k _ => sf_P_ge _)
  rw [← h.2.2.2.2.2.2.2.2.2.2.1, ← h.2.2.2.2.2.2.2.1.1] at this
  exact this
theorem mw_full {us nu bm tn m : Nat} {g za : Nat → Int32} {ss bk : Nat → Nat} {z : sf_Z} (hm : m ≤ 16384) (h : mw_R us nu bm tn g za ss bk z) (hbal : zMd z = zCt z + (zFr z).length) (h20 : nu - bm = 20000) : zs_take z (nI m) = (-2, z) := by
  have hb := mw_bal h hbal
  by_cases q : 400000 < zOc z + sf_P m
  · exact zs_take_2 hm q
  · have e1 : bm = 0 := by have := h.2.1; omega
    refine zs_take_4 hm (by omega) (by rw [h.2.2.1, e1]; rfl) (by have := h.1; have := h.2.1; omega)
set_option maxHeartbeats 4000000 in
set_option maxRecDepth 100000 in
/-- take(n) -/
theorem m_take (l : Launch) (dC : Nat → ClassId) (dI : Nat → Nat → Nat) (b0 b1 b2 b3 b4 : Nat) (d1 d2 d3 d4 : ClassId) (us nu bm tn : Nat) (g za : Nat → Int32) (ss bk : Nat → Nat) (sz : Nat) (z : sf_Z) (hR : mw_R us nu bm tn g za ss bk z) (n : Int32) (hbal : zMd z = zCt z + (zFr z).length) : Met l yX3_take wsX3_take ({ frames := 2, cells := 0, slots := 0, locals := 60 } : Room) (sf_Pre (dC, dI) vwCl [(d1, .byte), (d2, .int), (d3, .int), (d4, .int)] [.ref b0, .int n] (mw_w b0 b1 b2 b3 b4 d1 d2 d3 d4 us nu bm tn g za ss bk) sz) (va_Qi (fun (r : Int32) (u : mw_S) => r = (zs_take z n).1 ∧ mw_Ru u (zs_take z n).2) (sf_E (dC, dI) vwCl (va_A (mw_w b0 b1 b2 b3 b4 d1 d2 d3 d4 us nu bm tn g za ss bk) sz) (fun (u : mw_S) => mw_w b0 b1 b2 b3 b4 d1 d2 d3 d4 u.1 u.2.1 u.2.2.1 u.2.2.2.1 u.2.2.2.2.1 u.2.2.2.2.2.1 u.2.2.2.2.2.2.1 u.2.2.2.2.2.2.2)) (va_A (mw_w b0 b1 b2 b3 b4 d1 d2 d3 d4 us nu bm tn g za ss bk) sz)) 0 0 (va_A (mw_w b0 b1 b2 b3 b4 d1 d2 d3 d4 us nu bm tn g za ss bk) sz) := by
  refine Met.ofW (cc := cX3_take) (maxL := 3) (ret := (some .int)) (by decide) rfl ?_
  intro p e s m args below meth c s₁ B hml hv
  obtain ⟨rfl, hsz, hP, hK, hD0, hN⟩ := hv
  have hx := B.exec
  have hb := B.bytes
  have hr := B.returns
  have hts := atoms_spec (ws := wsX3_take) B.pre
  have hown : s.vm.findClass RX3 = some m.cls := findClass_of_methodNamed B.named
  have hlocks := B.notSynchronized
  subst hsz
  have hD := hD0.self (sz := s.heap.size)
  generalize hAe : va_A (mw_w b0 b1 b2 b3 b4 d1 d2 d3 d4 us nu bm tn g za ss bk) s.heap.size = A at hD ⊢
  have hA : ∀ q : Nat, s.heap.size ≤ q → A q := fun q h => by rw [← hAe]; exact Or.inr h
  have hS : va_S A s.heap s.heap [] := va_S.rf
  have hl := lv_entry ([.ref b0, .int n]) (n := 3) (Nat.le_of_ble_eq_true rfl)
  rw [lg_entry_eq]
  generalize (lg_sl ([.ref b0, .int n]) ++ List.replicate (3 - (lg_sl ([.ref b0, .int n])).length) Slot.unset).toArray = ls at hl ⊢
  have hl : lv_has ls 3 [(0, .ref b0), (1, .int n)] := hl
  have hbm := mw_bal hR hbal
  have hnu := hR.2.1
  have htn := hR.2.2.2.2.2.2.2.2.2.1
  have hoc := hR.2.2.2.2.2.2.2.2.2.2.2.1
  have hus := mw_us hR
  have huz := mw_us2 hR
  have hfrz := hR.2.2.1
  have hmd := hR.1
  refine lv_iload_n hx hb dX3_take_0 rfl (lv_at hl 1 rfl) ?_
  refine lv_if_lt (tgt := 11) hx hb dX3_take_1 (by decide) (fun c_1 => ?_) (fun c_1 => ?_)
  · have hzn : zi n 16385 = none := zi_none (by omega) (fun k hk q => nI_pos (n := k) (by omega) (by rw [← q]; exact c_1))
    refine lv_iconst (v := -1) hx hb dX3_take_11 (by decide) ?_
    exact W.iret (v := -1) hx hb hr (fun t ht hW => ⟨⟨_, (us, nu, bm, tn, g, za, ss, bk), rfl, by rw [zs_take_1 hzn]; exact ⟨rfl, hR⟩, by rw [ht]; exact hP, hD⟩, hS.F ht⟩) hS.2.2 dX3_take_12
  · obtain ⟨m, hm0, rfl⟩ := nI_of c_1
    have hl : lv_has ls 3 [(0, .ref b0), (1, .int (nI m))] := hl
    refine lv_iload_n hx hb dX3_take_4 rfl (lv_at hl 1 rfl) ?_
    refine lv_sipush (v := nI 16384) hx hb dX3_take_5 (by decide) ?_
    refine sf_icmp_le (tgt := 13) hx hb (by omega) (by omega) dX3_take_8 (by decide) (fun c_8 => ?_) (fun c_8 => ?_)
    · have hPm := sf_P_le c_8
      have hPm2 := sf_P_ge m
      refine lv_aload_n hx hb dX3_take_13 rfl (lv_at hl 0 rfl) ?_
      refine vp_callSi (va_Run.run (sf_runV (b := b0) (As := []) (rest := []) ⟨hx, hb, hml, hown, hts⟩ sf_has (m_many l dC dI b0 b1 b2 b3 b4 d1 d2 d3 d4 us nu bm tn g za ss bk _ hbm.1) k_X3_31 ⟨sf_blind, va_recv hK hP (ci := 3) (q0 := 0) rfl rfl, sf_preU hP hK hD hN⟩ rfl hl.1 (Nat.le_of_ble_eq_true rfl) ⟨(Nat.le_of_ble_eq_true rfl), (Nat.le_of_ble_eq_true rfl)⟩ ⟨rfl, rfl⟩ ⟨Nat.zero_le _, Nat.zero_le _⟩ dX3_take_14)) (fun r_14 h_14 => ?_)
      subst h_14
      refine lv_sipush (v := nI 20000) hx hb dX3_take_17 (by decide) ?_
      refine sf_icmp_eq (tgt := 37) hx hb (by omega) (by omega) dX3_take_20 (by decide) (fun c_20 => ?_) (fun c_20 => ?_)
      · have hful : zs_take z (nI m) = (-2, z) := mw_full c_8 hR hbal (by omega)
        refine lv_bipush (v := -2) hx hb dX3_take_37 (by decide) ?_
        exact W.iret (v := -2) hx hb hr (fun t ht hW => ⟨⟨_, (us, nu, bm, tn, g, za, ss, bk), rfl, by rw [hful]; exact ⟨rfl, hR⟩, by rw [ht]; exact hP, hD⟩, hS.F ht⟩) hS.2.2 dX3_take_39
      · refine lv_aload_n hx hb dX3_take_23 rfl (lv_at hl 0 rfl) ?_
        refine va_get (D := (dC, dI)) (ci := 3) (v := .int (nI tn)) (C := RX3) (T := TX3) (N := 8) hx hb hts sf_inX3 hown hK hP 0 rfl rfl 7 (by decide) (hts _ (sf_mem fl_X3_35 rfl)) (fun _ h9 => h9) rfl dX3_take_24 ?_
        refine lv_iload_n hx hb dX3_take_27 rfl (lv_at hl 1 rfl) ?_
        refine vp_callSi (va_Run.run (sf_runS (As := [.int (nI m)]) (rest := [.int (nI tn)]) ⟨hx, hb, hml, hown, hts⟩ sf_has (m_placesOf l m c_8) k_X3_38 ⟨sf_blindT, sf_preT⟩ rfl hl.1 (Nat.le_of_ble_eq_true rfl) ⟨(Nat.le_of_ble_eq_true rfl), (Nat.le_of_ble_eq_true rfl)⟩ ⟨rfl, rfl⟩ ⟨Nat.zero_le _, Nat.zero_le _⟩ dX3_take_28)) (fun r_28 h_28 => ?_)
        subst h_28
        refine sf_iadd hx hb dX3_take_31 ?_
        refine lv_ldc (v := nI 400000) hx hb hown (hts _ (sf_mem cn_X3_7 rfl)) dX3_take_32 ?_
        refine sf_icmp_le (tgt := 40) hx hb (by omega) (by omega) dX3_take_34 (by decide) (fun c_34 => ?_) (fun c_34 => ?_)
        · refine lv_aload_n hx hb dX3_take_40 rfl (lv_at hl 0 rfl) ?_
          refine va_get (D := (dC, dI)) (ci := 3) (v := .int (nI nu)) (C := RX3) (T := TX3) (N := 8) hx hb hts sf_inX3 hown hK hP 0 rfl rfl 4 (by decide) (hts _ (sf_mem fl_X3_24 rfl)) (fun _ h9 => h9) rfl dX3_take_41 ?_
          refine lv_istore_n (lv' := [(2, .int (nI nu)), (0, .ref b0), (1, .int (nI m))]) hx hb dX3_take_44 rfl hl (by decide) rfl (fun ls hl => ?_)
          refine lv_aload_n hx hb dX3_take_45 rfl (lv_at hl 1 rfl) ?_
          refine va_get (D := (dC, dI)) (ci := 3) (v := .int (nI bm)) (C := RX3) (T := TX3) (N := 8) hx hb hts sf_inX3 hown hK hP 0 rfl rfl 6 (by decide) (hts _ (sf_mem fl_X3_28 rfl)) (fun _ h9 => h9) rfl dX3_take_46 ?_
          refine sf_if_le (tgt := 75) hx hb (by omega) dX3_take_49 (by decide) (fun c_49 => ?_) (fun c_49 => ?_)
          · have hfr2 : zFr z = [] := by rw [hfrz, c_49]; rfl
            have hnn : nu < 20000 := by omega
            have hkt : nu < nu → zTk z nu ≠ 1 := fun h => absurd h (Nat.lt_irrefl _)
            have hall : ∀ j, j < nu + 1 → j ≠ nu → j < nu := fun j h q => by omega
            refine lv_aload_n hx hb dX3_take_75 rfl (lv_at hl 1 rfl) ?_
            refine lv_dup hx hb dX3_take_76 rfl ?_
            refine va_get (D := (dC, dI)) (ci := 3) (v := .int (nI nu)) (C := RX3) (T := TX3) (N := 8) hx hb hts sf_inX3 hown hK hP 0 rfl rfl 4 (by decide) (hts _ (sf_mem fl_X3_24 rfl)) (fun _ h9 => h9) rfl dX3_take_77 ?_
            refine lv_iconst (v := nI 1) hx hb dX3_take_80 (by decide) ?_
            refine sf_iadd hx hb dX3_take_81 ?_
            refine va_put (D := (dC, dI)) (ci := 3) (v := .int (nI (nu + 1))) (ty := .int) (C := RX3) (T := TX3) (N := 8) hx hb hts sf_inX3 tyX3 tyX3_ok nmX3 hown hK hP hD hS 0 rfl rfl 4 (by decide) (hts _ (sf_mem fl_X3_24 rfl)) (fun _ h9 => h9) rfl (by decide +kernel) rfl rfl (Nat.le_of_ble_eq_true rfl) dX3_take_82 (fun H locs hP hD hS => ?_)
            have hP : va_P (dC, dI) vwCl (mw_w b0 b1 b2 b3 b4 d1 d2 d3 d4 us (nu + 1) bm tn g za ss bk) H := hP
            have hD : va_D A (mw_w b0 b1 b2 b3 b4 d1 d2 d3 d4 us (nu + 1) bm tn g za ss bk) := hD
            refine lv_aload_n hx hb dX3_take_85 rfl (lv_at hl 1 rfl) ?_
            refine va_get (D := (dC, dI)) (ci := 3) (v := .ref b3) (C := RX3) (T := TX3) (N := 8) hx hb hts sf_inX3 hown hK hP 0 rfl rfl 3 (by decide) (hts _ (sf_mem fl_X3_18 rfl)) (fun _ h9 => h9) rfl dX3_take_86 ?_
            refine lv_iload_n hx hb dX3_take_89 rfl (lv_at hl 0 rfl) ?_
            refine lv_iconst (v := nI 0) hx hb dX3_take_90 (by decide) ?_
            refine sf_iast hx hb hK hP hD hS 3 2 rfl rfl (by omega) (by decide) dX3_take_91 (fun H locs hP hD hS => ?_)
            have hP : va_P (dC, dI) vwCl (mw_w b0 b1 b2 b3 b4 d1 d2 d3 d4 us (nu + 1) bm tn g (upd za nu (nI 0)) ss bk) H := hP
            have hD : va_D A (mw_w b0 b1 b2 b3 b4 d1 d2 d3 d4 us (nu + 1) bm tn g (upd za nu (nI 0)) ss bk) := hD
            refine lv_aload_n hx hb dX3_take_92 rfl (lv_at hl 1 rfl) ?_
            refine lv_iload_n hx hb dX3_take_93 rfl (lv_at hl 0 rfl) ?_
            refine lv_iload_n hx hb dX3_take_94 rfl (lv_at hl 2 rfl) ?_
            obtain ⟨y1, y2, y3⟩ := mw_L_0 hR (nu2 := (nu + 1)) (k := nu) (by omega) hall (by omega) hkt (by omega)
            obtain ⟨lz, hlz⟩ : ∃ lz, va_up (mln z) nu 0 = lz := ⟨_, rfl⟩
            have hl0 : lz nu = 0 := by rw [← hlz, va_up_self]
            rw [hlz] at y1 y3
            refine sf_cv (sf_runV (b := b0) (As := [.int (nI nu), .int (nI m)]) (rest := []) ⟨hx, hb, hml, hown, hts⟩ sf_has (m_change l dC dI b0 b1 b2 b3 b4 d1 d2 d3 d4 us (nu + 1) bm tn g (upd za nu (nI 0)) ss bk _ nu m lz y1 (by omega) (by omega) y3 (by rw [pk_us, hl0]) (by omega) c_8 hR.2.2.2.2.2.2.2.2.2.2.2.2 hus (by omega) (by omega) (by rw [hl0]; exact Nat.zero_le _)) k_X3_42 ⟨sf_blind, va_recv hK hP (ci := 3) (q0 := 0) rfl rfl, sf_preU hP hK hD hN⟩ rfl hl.1 (Nat.le_of_ble_eq_true rfl) ⟨(Nat.le_of_ble_eq_true rfl), (Nat.le_of_ble_eq_true rfl)⟩ ⟨rfl, rfl⟩ ⟨Nat.zero_le _, Nat.zero_le _⟩ dX3_take_95) hD hS hA (fun u_95 H locs h_95 hP hD hS => ?_)
            obtain ⟨g2, ss2⟩ := u_95
            obtain ⟨p1, p2, p3, p4⟩ := h_95
            dsimp only at p1 p2 p3 p4
            rw [hl0] at hP hD p1 p3
            have hP : va_P (dC, dI) vwCl (mw_w b0 b1 b2 b3 b4 d1 d2 d3 d4 (us + m - 0) (nu + 1) bm (tn + sf_P m - sf_P 0) g2 (upd (upd za nu (nI 0)) nu (nI m)) ss2 bk) H := hP
            have hD : va_D A (mw_w b0 b1 b2 b3 b4 d1 d2 d3 d4 (us + m - 0) (nu + 1) bm (tn + sf_P m - sf_P 0) g2 (upd (upd za nu (nI 0)) nu (nI m)) ss2 bk) := hD
            rw [← hlz] at p1 p2
            refine lv_iload_n hx hb dX3_take_98 rfl (lv_at hl 0 rfl) ?_
            have hfin := mw_R_take (k := nu) (nu2 := nu + 1) (bm2 := bm) (fr2 := []) (n := m) hR (by omega) (by omega) (by omega) hall hkt (by rw [c_49]; rfl) (fun x hx => absurd hx List.not_mem_nil) List.nodup_nil c_8 (by omega) y2 p1 p2 (fun i hi => by rw [p3 i hi, if_neg (by omega)]) p4
            exact W.iret (v := nI nu) hx hb hr (fun t ht hW => ⟨⟨_, ((us + m - 0), nu + 1, bm, (tn + sf_P m - sf_P 0), g2, (upd (upd za nu (nI 0)) nu (nI m)), ss2, bk), rfl, by rw [zs_take_5 c_8 (by omega) hfr2 (by omega), ← hmd]; exact ⟨rfl, hfin⟩, by rw [ht]; exact hP, hD⟩, hS.F ht⟩) hS.2.2 dX3_take_99
          · have hfr2 : zFr z = bk (bm - 1) :: mw_fr bk (bm - 1) := by rw [hfrz, show bm = (bm - 1) + 1 by omega]; rfl
            obtain ⟨k, hkk⟩ : ∃ k, bk (bm - 1) = k := ⟨_, rfl⟩
            rw [hkk] at hfr2
            have hk4 := hR.2.2.2.1 k (by rw [hfr2]; simp)
            have hnd := hR.2.2.2.2.1
            rw [hfr2, List.nodup_cons] at hnd
            have hk5 : k < nu := hk4.1
            have hkt : k < nu → zTk z k ≠ 1 := fun _ => by omega
            have hall : ∀ j, j < nu → j ≠ k → j < nu := fun _ h _ => h
            refine lv_aload_n hx hb dX3_take_52 rfl (lv_at hl 1 rfl) ?_
            refine lv_dup hx hb dX3_take_53 rfl ?_
            refine va_get (D := (dC, dI)) (ci := 3) (v := .int (nI bm)) (C := RX3) (T := TX3) (N := 8) hx hb hts sf_inX3 hown hK hP 0 rfl rfl 6 (by decide) (hts _ (sf_mem fl_X3_28 rfl)) (fun _ h9 => h9) rfl dX3_take_54 ?_
            refine lv_iconst (v := nI 1) hx hb dX3_take_57 (by decide) ?_
            refine sf_isub hx hb (by omega) dX3_take_58 ?_
            refine va_put (D := (dC, dI)) (ci := 3) (v := .int (nI (bm - 1))) (ty := .int) (C := RX3) (T := TX3) (N := 8) hx hb hts sf_inX3 tyX3 tyX3_ok nmX3 hown hK hP hD hS 0 rfl rfl 6 (by decide) (hts _ (sf_mem fl_X3_28 rfl)) (fun _ h9 => h9) rfl (by decide +kernel) rfl rfl (Nat.le_of_ble_eq_true rfl) dX3_take_59 (fun H locs hP hD hS => ?_)
            have hP : va_P (dC, dI) vwCl (mw_w b0 b1 b2 b3 b4 d1 d2 d3 d4 us nu (bm - 1) tn g za ss bk) H := hP
            have hD : va_D A (mw_w b0 b1 b2 b3 b4 d1 d2 d3 d4 us nu (bm - 1) tn g za ss bk) := hD
            refine lv_aload_n hx hb dX3_take_62 rfl (lv_at hl 1 rfl) ?_
            refine va_get (D := (dC, dI)) (ci := 3) (v := .ref b4) (C := RX3) (T := TX3) (N := 8) hx hb hts sf_inX3 hown hK hP 0 rfl rfl 5 (by decide) (hts _ (sf_mem fl_X3_21 rfl)) (fun _ h9 => h9) rfl dX3_take_63 ?_
            refine lv_aload_n hx hb dX3_take_66 rfl (lv_at hl 1 rfl) ?_
            refine va_get (D := (dC, dI)) (ci := 3) (v := .int (nI (bm - 1))) (C := RX3) (T := TX3) (N := 8) hx hb hts sf_inX3 hown hK hP 0 rfl rfl 6 (by decide) (hts _ (sf_mem fl_X3_28 rfl)) (fun _ h9 => h9) rfl dX3_take_67 ?_
            refine sf_iald hx hb hK hP 4 3 rfl rfl (by omega) (by decide) dX3_take_70 ?_
            try dsimp only
            rw [hkk]
            refine lv_istore_n (lv' := [(2, .int (nI k)), (0, .ref b0), (1, .int (nI m))]) hx hb dX3_take_71 rfl hl (by decide) rfl (fun ls hl => ?_)
            refine lv_goto (tgt := 85) hx hb dX3_take_72 (by decide) ?_
            refine lv_aload_n hx hb dX3_take_85 rfl (lv_at hl 1 rfl) ?_
            refine va_get (D := (dC, dI)) (ci := 3) (v := .ref b3) (C := RX3) (T := TX3) (N := 8) hx hb hts sf_inX3 hown hK hP 0 rfl rfl 3 (by decide) (hts _ (sf_mem fl_X3_18 rfl)) (fun _ h9 => h9) rfl dX3_take_86 ?_
            refine lv_iload_n hx hb dX3_take_89 rfl (lv_at hl 0 rfl) ?_
            refine lv_iconst (v := nI 0) hx hb dX3_take_90 (by decide) ?_
            refine sf_iast hx hb hK hP hD hS 3 2 rfl rfl (by omega) (by decide) dX3_take_91 (fun H locs hP hD hS => ?_)
            have hP : va_P (dC, dI) vwCl (mw_w b0 b1 b2 b3 b4 d1 d2 d3 d4 us nu (bm - 1) tn g (upd za k (nI 0)) ss bk) H := hP
            have hD : va_D A (mw_w b0 b1 b2 b3 b4 d1 d2 d3 d4 us nu (bm - 1) tn g (upd za k (nI 0)) ss bk) := hD
            refine lv_aload_n hx hb dX3_take_92 rfl (lv_at hl 1 rfl) ?_
            refine lv_iload_n hx hb dX3_take_93 rfl (lv_at hl 0 rfl) ?_
            refine lv_iload_n hx hb dX3_take_94 rfl (lv_at hl 2 rfl) ?_
            obtain ⟨y1, y2, y3⟩ := mw_L_0 hR (nu2 := nu) (k := k) (by omega) hall (by omega) hkt (by omega)
            obtain ⟨lz, hlz⟩ : ∃ lz, va_up (mln z) k 0 = lz := ⟨_, rfl⟩
            have hl0 : lz k = 0 := by rw [← hlz, va_up_self]
            rw [hlz] at y1 y3
            refine sf_cv (sf_runV (b := b0) (As := [.int (nI k), .int (nI m)]) (rest := []) ⟨hx, hb, hml, hown, hts⟩ sf_has (m_change l dC dI b0 b1 b2 b3 b4 d1 d2 d3 d4 us nu (bm - 1) tn g (upd za k (nI 0)) ss bk _ k m lz y1 (by omega) (by omega) y3 (by rw [pk_us, hl0]) (by omega) c_8 hR.2.2.2.2.2.2.2.2.2.2.2.2 hus (by omega) (by omega) (by rw [hl0]; exact Nat.zero_le _)) k_X3_42 ⟨sf_blind, va_recv hK hP (ci := 3) (q0 := 0) rfl rfl, sf_preU hP hK hD hN⟩ rfl hl.1 (Nat.le_of_ble_eq_true rfl) ⟨(Nat.le_of_ble_eq_true rfl), (Nat.le_of_ble_eq_true rfl)⟩ ⟨rfl, rfl⟩ ⟨Nat.zero_le _, Nat.zero_le _⟩ dX3_take_95) hD hS hA (fun u_95 H locs h_95 hP hD hS => ?_)
            obtain ⟨g2, ss2⟩ := u_95
            obtain ⟨p1, p2, p3, p4⟩ := h_95
            dsimp only at p1 p2 p3 p4
            rw [hl0] at hP hD p1 p3
            have hP : va_P (dC, dI) vwCl (mw_w b0 b1 b2 b3 b4 d1 d2 d3 d4 (us + m - 0) nu (bm - 1) (tn + sf_P m - sf_P 0) g2 (upd (upd za k (nI 0)) k (nI m)) ss2 bk) H := hP
            have hD : va_D A (mw_w b0 b1 b2 b3 b4 d1 d2 d3 d4 (us + m - 0) nu (bm - 1) (tn + sf_P m - sf_P 0) g2 (upd (upd za k (nI 0)) k (nI m)) ss2 bk) := hD
            rw [← hlz] at p1 p2
            refine lv_iload_n hx hb dX3_take_98 rfl (lv_at hl 0 rfl) ?_
            have hfin := mw_R_take (k := k) (nu2 := nu) (bm2 := bm - 1) (n := m) hR hk5 hnu (Nat.le_refl _) hall hkt rfl (fun x hx => ⟨(hR.2.2.2.1 x (by rw [hfr2]; exact List.mem_cons_of_mem _ hx)).1, fun e => hnd.1 (e ▸ hx), (hR.2.2.2.1 x (by rw [hfr2]; exact List.mem_cons_of_mem _ hx)).2⟩) hnd.2 c_8 (by omega) y2 p1 p2 (fun i hi => by rw [p3 i hi, if_neg (by omega)]) p4
            exact W.iret (v := nI k) hx hb hr (fun t ht hW => ⟨⟨_, ((us + m - 0), nu, bm - 1, (tn + sf_P m - sf_P 0), g2, (upd (upd za k (nI 0)) k (nI m)), ss2, bk), rfl, by rw [zs_take_3 c_8 (by omega) hfr2, ← hmd]; exact ⟨rfl, hfin⟩, by rw [ht]; exact hP, hD⟩, hS.F ht⟩) hS.2.2 dX3_take_99
        · have hful : zs_take z (nI m) = (-2, z) := zs_take_2 c_8 (by omega)
          refine lv_bipush (v := -2) hx hb dX3_take_37 (by decide) ?_
          exact W.iret (v := -2) hx hb hr (fun t ht hW => ⟨⟨_, (us, nu, bm, tn, g, za, ss, bk), rfl, by rw [hful]; exact ⟨rfl, hR⟩, by rw [ht]; exact hP, hD⟩, hS.F ht⟩) hS.2.2 dX3_take_39
    · have hzn : zi (nI m) 16385 = none := zi_none (by omega) (fun k hk q => by
        have := (nI_eq hm0 (by omega)).mp q
        omega)
      refine lv_iconst (v := -1) hx hb dX3_take_11 (by decide) ?_
      exact W.iret (v := -1) hx hb hr (fun t ht hW => ⟨⟨_, (us, nu, bm, tn, g, za, ss, bk), rfl, by rw [zs_take_1 hzn]; exact ⟨rfl, hR⟩, by rw [ht]; exact hP, hD⟩, hS.F ht⟩) hS.2.2 dX3_take_12
