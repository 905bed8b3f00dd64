/-! the shelf's reads: get, size, compare, sum, rows, places -/
theorem zs_get_1 {z : sf_Z} {row i : Int32} (h : zrow z row = none) : zs_get z row i = -1 := by unfold zs_get; rw [h]
theorem zs_get_2 {z : sf_Z} {row i : Int32} {k : Nat} (h : zrow z row = some k) (h2 : zi i (zLn z k) = none) : zs_get z row i = -1 := by unfold zs_get; rw [h]; dsimp only; rw [h2]
theorem zs_get_3 {z : sf_Z} {row i : Int32} {k j : Nat} (h : zrow z row = some k) (h2 : zi i (zLn z k) = some j) : zs_get z row i = zBy z k j &&& 255 := by unfold zs_get; rw [h]; dsimp only; rw [h2]
theorem zs_size_1 {z : sf_Z} {row : Int32} (h : zrow z row = none) : zs_size z row = -1 := by unfold zs_size; rw [h]
theorem zs_size_2 {z : sf_Z} {row : Int32} {k : Nat} (h : zrow z row = some k) : zs_size z row = nI (zLn z k) := by unfold zs_size; rw [h]
theorem zs_sum_1 {z : sf_Z} {row : Int32} (h : zrow z row = none) : zs_sum z row = 0 := by unfold zs_sum; rw [h]
theorem zs_sum_2 {z : sf_Z} {row : Int32} {k : Nat} (h : zrow z row = some k) : zs_sum z row = zsum (zBy z k) (zLn z k) 0 7 := by unfold zs_sum; rw [h]
theorem zs_cmp_1 {z : sf_Z} {row o : Int32} (h : zrow z row = none) : zs_compare z row o = -2 := by unfold zs_compare; rw [h]
theorem zs_cmp_2 {z : sf_Z} {row o : Int32} (h : zrow z o = none) : zs_compare z row o = -2 := by
  unfold zs_compare
  rw [h]
  cases zrow z row <;> rfl
theorem zs_cmp_3 {z : sf_Z} {row o : Int32} {k k2 : Nat} (h : zrow z row = some k) (h2 : zrow z o = some k2) : zs_compare z row o = zcmp (zBy z k) (zBy z k2) (zord (zLn z k) (zLn z k2)) (min (zLn z k) (zLn z k2)) 0 := by unfold zs_compare; rw [h, h2]
theorem sf_c8 : ∀ j, j < 256 → (vb_c j).toInt8.toInt32 = vb_c j := by decide +kernel
theorem sf_fit_b {x : Int32} (h : fits .byte (.int x) = true) : x.toInt8.toInt32 = x := by
  simp only [fits, Bool.and_eq_true, decide_eq_true_eq] at h
  obtain ⟨j, hj, -, e⟩ := bx_small (x := x) (Int32.not_lt.mpr h.1) (Int32.not_lt.mpr h.2)
  rw [e]
  exact sf_c8 j hj
theorem sf_byte_ne {x y : Int32} (hx : fits .byte (.int x) = true) (hy : fits .byte (.int y) = true) {n : Nat} (hn : n < 256) (h1 : x &&& 255 = nI n) (h2 : y &&& 255 = nI n) : x = y := by
  rw [(sc_eq (sf_fit_b hx) hn).mpr h1, (sc_eq (sf_fit_b hy) hn).mpr h2]
theorem zcmp_hit {f g : Nat → Int32} {o : Int32} {c i : Nat} (hc : i < c) (hne : f i ≠ g i) (hf : fits .byte (.int (f i)) = true) (hg : fits .byte (.int (g i)) = true) {x y : Nat} (hx : x < 256) (hy : y < 256) (e1 : f i &&& 255 = nI x) (e2 : g i &&& 255 = nI y) : zcmp f g o (c - i) i = if x = y then 0 else if x < y then -1 else 1 := by
  have hxy : x ≠ y := fun q => hne (sf_byte_ne hf hg hx e1 (by rw [q]; exact e2))
  rw [show c - i = (c - i - 1) + 1 by omega]
  simp only [zcmp]
  rw [if_neg hne, if_neg hxy, e1, e2]
  by_cases q : x < y
  · rw [if_pos q, if_pos ((nI_ltI (by omega) (by omega)).mpr q)]
  · rw [if_neg q, if_neg (fun h => q ((nI_ltI (by omega) (by omega)).mp h))]
theorem zcmp_miss {f g : Nat → Int32} {o : Int32} {c i : Nat} (hc : i < c) (he : f i = g i) : zcmp f g o (c - i) i = zcmp f g o (c - (i + 1)) (i + 1) := by
  rw [show c - i = (c - (i + 1)) + 1 by omega]
  simp only [zcmp]
  rw [if_pos he]
theorem zsum_go {f : Nat → Int32} {c i : Nat} {v : Int32} (hc : i < c) : zsum f (c - i) i v = zsum f (c - (i + 1)) (i + 1) (nI 31 * v + (f i &&& 255)) := by
  rw [show c - i = (c - (i + 1)) + 1 by omega]
  rfl
set_option maxHeartbeats 4000000 in
set_option maxRecDepth 100000 in
/-- get(row, i) -/
theorem c_get (l : Launch) (dC : Nat → ClassId) (dI : Nat → Nat → Nat) (a0 a1 a2 a3 : Nat) (cB cT : ClassId) (LP : List Nat) (gb : Option Nat) (md ct : Nat) (tb : Nat → Option Nat) (nm tk : Nat → Nat) (oc en : Nat) (fs la : Option Nat) (g : Nat → Int32) (st ln : Nat → Nat) (bf af : Nat → Option Nat) (sz : Nat) (z : sf_Z) (cs fr : List Nat) (hI : sf_CI LP gb md ct tb nm tk oc en fs la g st ln bf af cs fr) (hR : sf_CR LP nm tk ln st g cs fr ct oc z) (row i : Int32) : Met l yX2_get wsX2_get ({ frames := 1, cells := 0, slots := 0, locals := 30 } : Room) (sf_Pre (dC, dI) vwCl [(cB, .byte), (cT, .object "ByteShelf$Row")] [.ref a0, .int row, .int i] (sf_w a0 a1 a2 a3 cB cT LP gb md ct tb nm tk oc en fs la g st ln bf af) sz) (vp_Si (fun r => r = zs_get z row i)) 0 0 (fun _ => False) := by
  refine Met.ofW (cc := cX2_get) (maxL := 4) (ret := (some .int)) (by decide) rfl ?_
  intro p e s m args below meth c s₁ B hml hv
  obtain ⟨rfl, hsz, hP, hK, hD0, hN⟩ := hv
  have hx := B.exec
  have hb := B.bytes
  have hr := B.returns
  have hts := atoms_spec (ws := wsX2_get) B.pre
  have hown : s.vm.findClass RX2 = some m.cls := findClass_of_methodNamed B.named
  have hlocks := B.notSynchronized
  subst hsz
  have hD := hD0.self (sz := s.heap.size)
  generalize hAe : va_A (sf_w a0 a1 a2 a3 cB cT LP gb md ct tb nm tk oc en fs la g st ln bf af) s.heap.size = A at hD ⊢
  have hA : ∀ q : Nat, s.heap.size ≤ q → A q := fun q h => by rw [← hAe]; exact Or.inr h
  have hS : va_S A s.heap s.heap [] := va_S.rf
  have hl := lv_entry ([.ref a0, .int row, .int i]) (n := 4) (Nat.le_of_ble_eq_true rfl)
  rw [lg_entry_eq]
  generalize (lg_sl ([.ref a0, .int row, .int i]) ++ List.replicate (4 - (lg_sl ([.ref a0, .int row, .int i])).length) Slot.unset).toArray = ls at hl ⊢
  have hl : lv_has ls 4 [(0, .ref a0), (1, .int row), (2, .int i)] := hl
  refine lv_aload_n hx hb dX2_get_0 rfl (lv_at hl 0 rfl) ?_
  refine lv_iload_n hx hb dX2_get_1 rfl (lv_at hl 1 rfl) ?_
  refine va_csq (va_Run.run (sf_runV (b := a0) (As := [.int row]) (rest := []) ⟨hx, hb, hml, hown, hts⟩ sf_has (c_find l dC dI a0 a1 a2 a3 cB cT LP gb md ct tb nm tk oc en fs la g st ln bf af _ _ (sf_CI_find hI).1 (sf_CI_find hI).2.1 (sf_CI_find hI).2.2) k_X2_59 ⟨sf_blind, va_recv hK hP (ci := 2) (q0 := 0) rfl rfl, sf_preU hP hK hD hN⟩ rfl hl.1 (Nat.le_of_ble_eq_true rfl) ⟨(Nat.le_of_ble_eq_true rfl), (Nat.le_of_ble_eq_true rfl)⟩ ⟨rfl, rfl⟩ ⟨Nat.zero_le _, Nat.zero_le _⟩ dX2_get_2)) (fun r_2 h_2 => ?_)
  rcases h_2 with h_2 | h_2
  · obtain ⟨k_2, a_2, q1_2, q2_2, q3_2, q4_2, q5_2, q6_2⟩ := h_2
    subst q2_2
    subst q6_2
    obtain ⟨f1_2, f2_2, f3_2, f4_2, f5_2, f6_2, f7_2⟩ := sf_zr_some hI hR q1_2 q3_2 q5_2
    have hl : lv_has ls 4 [(0, .ref a0), (1, .int (nI k_2)), (2, .int i)] := hl
    refine lv_astore_n (lv' := [(3, .ref a_2), (0, .ref a0), (1, .int (nI k_2)), (2, .int i)]) hx hb dX2_get_5 rfl hl (by decide) rfl (fun ls hl => ?_)
    refine lv_aload_n hx hb dX2_get_6 rfl (lv_at hl 0 rfl) ?_
    refine lv_ifnull hx hb dX2_get_7 ?_
    refine lv_aload_n hx hb dX2_get_10 rfl (lv_at hl 0 rfl) ?_
    refine lv_iload_n hx hb dX2_get_11 rfl (lv_at hl 3 rfl) ?_
    refine vp_callSi (va_Run.run (sf_runS (As := [.ref a_2, .int i]) (rest := []) ⟨hx, hb, hml, hown, hts⟩ sf_has (c_hasByte l dC dI a0 a1 a2 a3 cB cT LP gb md ct tb nm tk oc en fs la g st ln bf af _ a_2 q4_2 f6_2 i) k_X2_74 ⟨sf_blind, sf_preU hP hK hD hN⟩ rfl hl.1 (Nat.le_of_ble_eq_true rfl) ⟨(Nat.le_of_ble_eq_true rfl), (Nat.le_of_ble_eq_true rfl)⟩ ⟨rfl, rfl⟩ ⟨Nat.zero_le _, Nat.zero_le _⟩ dX2_get_12)) (fun r_12 h_12 => ?_)
    rcases h_12 with ⟨rfl, h_12⟩ | ⟨rfl, h_12⟩
    · obtain ⟨j, hj, rfl⟩ := h_12
      have hl : lv_has ls 4 [(3, .ref a_2), (0, .ref a0), (1, .int (nI k_2)), (2, .int (nI j))] := hl
      have hzj : zi (nI j) (zLn z k_2) = some j := by rw [f4_2]; exact zi_some hj (by omega)
      refine sf_if_ne (tgt := 20) hx hb (by decide) dX2_get_15 (by decide) (fun _ => ?_) (fun c_15 => absurd c_15 (by decide))
      refine lv_aload_n hx hb dX2_get_20 rfl (lv_at hl 1 rfl) ?_
      refine va_get (D := (dC, dI)) (ci := 2) (v := .ref a1) (C := RX2) (T := TX2) (N := 5) hx hb hts sf_inX2 hown hK hP 0 rfl rfl 0 (by decide) (hts _ (sf_mem fl_X2_10 rfl)) (fun _ h9 => h9) rfl dX2_get_21 ?_
      refine va_get (D := (dC, dI)) (ci := 0) (v := .ref a2) (C := RX0) (T := TX0) (N := 5) hx hb hts sf_inX0 hown hK hP 1 rfl rfl 0 (by decide) (hts _ (sf_mem fl_X2_77 rfl)) (fun _ h9 => h9) rfl dX2_get_24 ?_
      refine lv_aload_n hx hb dX2_get_27 rfl (lv_at hl 0 rfl) ?_
      refine sf_rget (D := (dC, dI)) (ci := 1) (v := .int (nI (st a_2))) (C := RX1) (T := TX1) (N := 6) hx hb hts sf_inX1 hown hK hP q4_2 rfl rfl 2 (by decide) (hts _ (sf_mem fl_X2_81 rfl)) (fun _ h9 => h9) rfl dX2_get_28 ?_
      refine lv_iload_n hx hb dX2_get_31 rfl (lv_at hl 3 rfl) ?_
      refine sf_iadd hx hb dX2_get_32 ?_
      refine sf_bald hx hb hK hP 2 0 rfl rfl (by omega) (by decide) dX2_get_33 ?_
      refine lv_sipush (v := nI 255) hx hb dX2_get_34 (by decide) ?_
      refine lv_iand hx hb dX2_get_37 ?_
      exact W.iret (v := (g (st a_2 + j) &&& nI 255)) hx hb hr (fun t ht hW => ⟨_, rfl, by rw [zs_get_3 f1_2 hzj, f5_2 j hj]; rfl, ht⟩) sf_noloc dX2_get_38
    · have hzj : zi i (zLn z k_2) = none := by rw [f4_2]; exact zi_none (by omega) h_12
      refine sf_if_ne (tgt := 20) hx hb (by decide) dX2_get_15 (by decide) (fun c_15 => absurd c_15 (by decide)) (fun _ => ?_)
      refine lv_iconst (v := -1) hx hb dX2_get_18 (by decide) ?_
      exact W.iret (v := -1) hx hb hr (fun t ht hW => ⟨_, rfl, (zs_get_2 f1_2 hzj).symm, ht⟩) sf_noloc dX2_get_19
  · obtain ⟨q1_2, q2_2⟩ := h_2
    subst q1_2
    have f1_2 := sf_zr_none hI hR q2_2
    refine lv_astore_nN (lv' := [(3, .null), (0, .ref a0), (1, .int row), (2, .int i)]) hx hb dX2_get_5 rfl hl (by decide) rfl (fun ls hl => ?_)
    refine lv_aload_nN hx hb dX2_get_6 rfl (lv_at hl 0 rfl) ?_
    refine lv_ifnullN (tgt := 18) hx hb dX2_get_7 (by decide) ?_
    refine lv_iconst (v := -1) hx hb dX2_get_18 (by decide) ?_
    exact W.iret (v := -1) hx hb hr (fun t ht hW => ⟨_, rfl, (zs_get_1 f1_2).symm, ht⟩) sf_noloc dX2_get_19
set_option maxHeartbeats 4000000 in
set_option maxRecDepth 100000 in
/-- size(row) -/
theorem c_size (l : Launch) (dC : Nat → ClassId) (dI : Nat → Nat → Nat) (a0 a1 a2 a3 : Nat) (cB cT : ClassId) (LP : List Nat) (gb : Option Nat) (md ct : Nat) (tb : Nat → Option Nat) (nm tk : Nat → Nat) (oc en : Nat) (fs la : Option Nat) (g : Nat → Int32) (st ln : Nat → Nat) (bf af : Nat → Option Nat) (sz : Nat) (z : sf_Z) (cs fr : List Nat) (hI : sf_CI LP gb md ct tb nm tk oc en fs la g st ln bf af cs fr) (hR : sf_CR LP nm tk ln st g cs fr ct oc z) (row : Int32) : Met l yX2_size wsX2_size ({ frames := 1, cells := 0, slots := 0, locals := 30 } : Room) (sf_Pre (dC, dI) vwCl [(cB, .byte), (cT, .object "ByteShelf$Row")] [.ref a0, .int row] (sf_w a0 a1 a2 a3 cB cT LP gb md ct tb nm tk oc en fs la g st ln bf af) sz) (vp_Si (fun r => r = zs_size z row)) 0 0 (fun _ => False) := by
  refine Met.ofW (cc := cX2_size) (maxL := 3) (ret := (some .int)) (by decide) rfl ?_
  intro p e s m args below meth c s₁ B hml hv
  obtain ⟨rfl, hsz, hP, hK, hD0, hN⟩ := hv
  have hx := B.exec
  have hb := B.bytes
  have hr := B.returns
  have hts := atoms_spec (ws := wsX2_size) B.pre
  have hown : s.vm.findClass RX2 = some m.cls := findClass_of_methodNamed B.named
  have hlocks := B.notSynchronized
  subst hsz
  have hD := hD0.self (sz := s.heap.size)
  generalize hAe : va_A (sf_w a0 a1 a2 a3 cB cT LP gb md ct tb nm tk oc en fs la g st ln bf af) s.heap.size = A at hD ⊢
  have hA : ∀ q : Nat, s.heap.size ≤ q → A q := fun q h => by rw [← hAe]; exact Or.inr h
  have hS : va_S A s.heap s.heap [] := va_S.rf
  have hl := lv_entry ([.ref a0, .int row]) (n := 3) (Nat.le_of_ble_eq_true rfl)
  rw [lg_entry_eq]
  generalize (lg_sl ([.ref a0, .int row]) ++ List.replicate (3 - (lg_sl ([.ref a0, .int row])).length) Slot.unset).toArray = ls at hl ⊢
  have hl : lv_has ls 3 [(0, .ref a0), (1, .int row)] := hl
  refine lv_aload_n hx hb dX2_size_0 rfl (lv_at hl 0 rfl) ?_
  refine lv_iload_n hx hb dX2_size_1 rfl (lv_at hl 1 rfl) ?_
  refine va_csq (va_Run.run (sf_runV (b := a0) (As := [.int row]) (rest := []) ⟨hx, hb, hml, hown, hts⟩ sf_has (c_find l dC dI a0 a1 a2 a3 cB cT LP gb md ct tb nm tk oc en fs la g st ln bf af _ _ (sf_CI_find hI).1 (sf_CI_find hI).2.1 (sf_CI_find hI).2.2) k_X2_59 ⟨sf_blind, va_recv hK hP (ci := 2) (q0 := 0) rfl rfl, sf_preU hP hK hD hN⟩ rfl hl.1 (Nat.le_of_ble_eq_true rfl) ⟨(Nat.le_of_ble_eq_true rfl), (Nat.le_of_ble_eq_true rfl)⟩ ⟨rfl, rfl⟩ ⟨Nat.zero_le _, Nat.zero_le _⟩ dX2_size_2)) (fun r_2 h_2 => ?_)
  rcases h_2 with h_2 | h_2
  · obtain ⟨k_2, a_2, q1_2, q2_2, q3_2, q4_2, q5_2, q6_2⟩ := h_2
    subst q2_2
    subst q6_2
    obtain ⟨f1_2, f2_2, f3_2, f4_2, f5_2, f6_2, f7_2⟩ := sf_zr_some hI hR q1_2 q3_2 q5_2
    have hl : lv_has ls 3 [(0, .ref a0), (1, .int (nI k_2))] := hl
    refine lv_astore_n (lv' := [(2, .ref a_2), (0, .ref a0), (1, .int (nI k_2))]) hx hb dX2_size_5 rfl hl (by decide) rfl (fun ls hl => ?_)
    refine lv_aload_n hx hb dX2_size_6 rfl (lv_at hl 0 rfl) ?_
    refine lv_ifnonnull (tgt := 14) hx hb dX2_size_7 (by decide) ?_
    refine lv_aload_n hx hb dX2_size_14 rfl (lv_at hl 0 rfl) ?_
    refine sf_rget (D := (dC, dI)) (ci := 1) (v := .int (nI (ln a_2))) (C := RX1) (T := TX1) (N := 6) hx hb hts sf_inX1 hown hK hP q4_2 rfl rfl 3 (by decide) (hts _ (sf_mem fl_X2_88 rfl)) (fun _ h9 => h9) rfl dX2_size_15 ?_
    exact W.iret (v := nI (ln a_2)) hx hb hr (fun t ht hW => ⟨_, rfl, by rw [zs_size_2 f1_2, f4_2], ht⟩) sf_noloc dX2_size_18
  · obtain ⟨q1_2, q2_2⟩ := h_2
    subst q1_2
    have f1_2 := sf_zr_none hI hR q2_2
    refine lv_astore_nN (lv' := [(2, .null), (0, .ref a0), (1, .int row)]) hx hb dX2_size_5 rfl hl (by decide) rfl (fun ls hl => ?_)
    refine lv_aload_nN hx hb dX2_size_6 rfl (lv_at hl 0 rfl) ?_
    refine lv_ifnonnullN hx hb dX2_size_7 ?_
    refine lv_iconst (v := -1) hx hb dX2_size_10 (by decide) ?_
    refine lv_goto (tgt := 18) hx hb dX2_size_11 (by decide) ?_
    exact W.iret (v := -1) hx hb hr (fun t ht hW => ⟨_, rfl, (zs_size_1 f1_2).symm, ht⟩) sf_noloc dX2_size_18
set_option maxHeartbeats 4000000 in
set_option maxRecDepth 100000 in
/-- rows() -/
theorem c_rows (l : Launch) (dC : Nat → ClassId) (dI : Nat → Nat → Nat) (a0 a1 a2 a3 : Nat) (cB cT : ClassId) (LP : List Nat) (gb : Option Nat) (md ct : Nat) (tb : Nat → Option Nat) (nm tk : Nat → Nat) (oc en : Nat) (fs la : Option Nat) (g : Nat → Int32) (st ln : Nat → Nat) (bf af : Nat → Option Nat) (sz : Nat) (z : sf_Z) (cs fr : List Nat) (hI : sf_CI LP gb md ct tb nm tk oc en fs la g st ln bf af cs fr) (hR : sf_CR LP nm tk ln st g cs fr ct oc z)  : Met l yX2_rows wsX2_rows ({ frames := 0, cells := 0, slots := 0, locals := 0 } : Room) (sf_Pre (dC, dI) vwCl [(cB, .byte), (cT, .object "ByteShelf$Row")] [.ref a0] (sf_w a0 a1 a2 a3 cB cT LP gb md ct tb nm tk oc en fs la g st ln bf af) sz) (vp_Si (fun r => r = nI (zCt z))) 0 0 (fun _ => False) := by
  refine Met.ofW (cc := cX2_rows) (maxL := 1) (ret := (some .int)) (by decide) rfl ?_
  intro p e s m args below meth c s₁ B hml hv
  obtain ⟨rfl, hsz, hP, hK, hD0, hN⟩ := hv
  have hx := B.exec
  have hb := B.bytes
  have hr := B.returns
  have hts := atoms_spec (ws := wsX2_rows) B.pre
  have hown : s.vm.findClass RX2 = some m.cls := findClass_of_methodNamed B.named
  have hlocks := B.notSynchronized
  subst hsz
  have hD := hD0.self (sz := s.heap.size)
  generalize hAe : va_A (sf_w a0 a1 a2 a3 cB cT LP gb md ct tb nm tk oc en fs la g st ln bf af) s.heap.size = A at hD ⊢
  have hA : ∀ q : Nat, s.heap.size ≤ q → A q := fun q h => by rw [← hAe]; exact Or.inr h
  have hS : va_S A s.heap s.heap [] := va_S.rf
  have hl := lv_entry ([.ref a0]) (n := 1) (Nat.le_of_ble_eq_true rfl)
  rw [lg_entry_eq]
  generalize (lg_sl ([.ref a0]) ++ List.replicate (1 - (lg_sl ([.ref a0])).length) Slot.unset).toArray = ls at hl ⊢
  have hl : lv_has ls 1 [(0, .ref a0)] := hl
  refine lv_aload_n hx hb dX2_rows_0 rfl (lv_at hl 0 rfl) ?_
  refine va_get (D := (dC, dI)) (ci := 2) (v := .int (nI ct)) (C := RX2) (T := TX2) (N := 5) hx hb hts sf_inX2 hown hK hP 0 rfl rfl 4 (by decide) (hts _ (sf_mem fl_X2_30 rfl)) (fun _ h9 => h9) rfl dX2_rows_1 ?_
  exact W.iret (v := nI ct) hx hb hr (fun t ht hW => ⟨_, rfl, by rw [hR.2.2.2.2.1], ht⟩) sf_noloc dX2_rows_4
set_option maxHeartbeats 4000000 in
set_option maxRecDepth 100000 in
/-- places() -/
theorem c_places (l : Launch) (dC : Nat → ClassId) (dI : Nat → Nat → Nat) (a0 a1 a2 a3 : Nat) (cB cT : ClassId) (LP : List Nat) (gb : Option Nat) (md ct : Nat) (tb : Nat → Option Nat) (nm tk : Nat → Nat) (oc en : Nat) (fs la : Option Nat) (g : Nat → Int32) (st ln : Nat → Nat) (bf af : Nat → Option Nat) (sz : Nat) (z : sf_Z) (cs fr : List Nat) (hI : sf_CI LP gb md ct tb nm tk oc en fs la g st ln bf af cs fr) (hR : sf_CR LP nm tk ln st g cs fr ct oc z)  : Met l yX2_places wsX2_places ({ frames := 0, cells := 0, slots := 0, locals := 0 } : Room) (sf_Pre (dC, dI) vwCl [(cB, .byte), (cT, .object "ByteShelf$Row")] [.ref a0] (sf_w a0 a1 a2 a3 cB cT LP gb md ct tb nm tk oc en fs la g st ln bf af) sz) (vp_Si (fun r => r = nI (zOc z))) 0 0 (fun _ => False) := by
  refine Met.ofW (cc := cX2_places) (maxL := 1) (ret := (some .int)) (by decide) rfl ?_
  intro p e s m args below meth c s₁ B hml hv
  obtain ⟨rfl, hsz, hP, hK, hD0, hN⟩ := hv
  have hx := B.exec
  have hb := B.bytes
  have hr := B.returns
  have hts := atoms_spec (ws := wsX2_places) B.pre
  have hown : s.vm.findClass RX2 = some m.cls := findClass_of_methodNamed B.named
  have hlocks := B.notSynchronized
  subst hsz
  have hD := hD0.self (sz := s.heap.size)
  generalize hAe : va_A (sf_w a0 a1 a2 a3 cB cT LP gb md ct tb nm tk oc en fs la g st ln bf af) s.heap.size = A at hD ⊢
  have hA : ∀ q : Nat, s.heap.size ≤ q → A q := fun q h => by rw [← hAe]; exact Or.inr h
  have hS : va_S A s.heap s.heap [] := va_S.rf
  have hl := lv_entry ([.ref a0]) (n := 1) (Nat.le_of_ble_eq_true rfl)
  rw [lg_entry_eq]
  generalize (lg_sl ([.ref a0]) ++ List.replicate (1 - (lg_sl ([.ref a0])).length) Slot.unset).toArray = ls at hl ⊢
  have hl : lv_has ls 1 [(0, .ref a0)] := hl
  refine lv_aload_n hx hb dX2_places_0 rfl (lv_at hl 0 rfl) ?_
  refine va_get (D := (dC, dI)) (ci := 2) (v := .ref a1) (C := RX2) (T := TX2) (N := 5) hx hb hts sf_inX2 hown hK hP 0 rfl rfl 0 (by decide) (hts _ (sf_mem fl_X2_10 rfl)) (fun _ h9 => h9) rfl dX2_places_1 ?_
  refine va_get (D := (dC, dI)) (ci := 0) (v := .int (nI oc)) (C := RX0) (T := TX0) (N := 5) hx hb hts sf_inX0 hown hK hP 1 rfl rfl 1 (by decide) (hts _ (sf_mem fl_X2_106 rfl)) (fun _ h9 => h9) rfl dX2_places_4 ?_
  exact W.iret (v := nI oc) hx hb hr (fun t ht hW => ⟨_, rfl, by rw [hR.2.2.2.2.2], ht⟩) sf_noloc dX2_places_7
set_option maxHeartbeats 4000000 in
set_option maxRecDepth 100000 in
/-- sum(row) -/
theorem c_sum (l : Launch) (dC : Nat → ClassId) (dI : Nat → Nat → Nat) (a0 a1 a2 a3 : Nat) (cB cT : ClassId) (LP : List Nat) (gb : Option Nat) (md ct : Nat) (tb : Nat → Option Nat) (nm tk : Nat → Nat) (oc en : Nat) (fs la : Option Nat) (g : Nat → Int32) (st ln : Nat → Nat) (bf af : Nat → Option Nat) (sz : Nat) (z : sf_Z) (cs fr : List Nat) (hI : sf_CI LP gb md ct tb nm tk oc en fs la g st ln bf af cs fr) (hR : sf_CR LP nm tk ln st g cs fr ct oc z) (row : Int32) : Met l yX2_sum wsX2_sum ({ frames := 1, cells := 0, slots := 0, locals := 30 } : Room) (sf_Pre (dC, dI) vwCl [(cB, .byte), (cT, .object "ByteShelf$Row")] [.ref a0, .int row] (sf_w a0 a1 a2 a3 cB cT LP gb md ct tb nm tk oc en fs la g st ln bf af) sz) (vp_Si (fun r => r = zs_sum z row)) 0 0 (fun _ => False) := by
  refine Met.ofW (cc := cX2_sum) (maxL := 7) (ret := (some .int)) (by decide) rfl ?_
  intro p e s m args below meth c s₁ B hml hv
  obtain ⟨rfl, hsz, hP, hK, hD0, hN⟩ := hv
  have hx := B.exec
  have hb := B.bytes
  have hr := B.returns
  have hts := atoms_spec (ws := wsX2_sum) B.pre
  have hown : s.vm.findClass RX2 = some m.cls := findClass_of_methodNamed B.named
  have hlocks := B.notSynchronized
  subst hsz
  have hD := hD0.self (sz := s.heap.size)
  generalize hAe : va_A (sf_w a0 a1 a2 a3 cB cT LP gb md ct tb nm tk oc en fs la g st ln bf af) s.heap.size = A at hD ⊢
  have hA : ∀ q : Nat, s.heap.size ≤ q → A q := fun q h => by rw [← hAe]; exact Or.inr h
  have hS : va_S A s.heap s.heap [] := va_S.rf
  have hl := lv_entry ([.ref a0, .int row]) (n := 7) (Nat.le_of_ble_eq_true rfl)
  rw [lg_entry_eq]
  generalize (lg_sl ([.ref a0, .int row]) ++ List.replicate (7 - (lg_sl ([.ref a0, .int row])).length) Slot.unset).toArray = ls at hl ⊢
  have hl : lv_has ls 7 [(0, .ref a0), (1, .int row)] := hl
  refine lv_aload_n hx hb dX2_sum_0 rfl (lv_at hl 0 rfl) ?_
  refine lv_iload_n hx hb dX2_sum_1 rfl (lv_at hl 1 rfl) ?_
  refine va_csq (va_Run.run (sf_runV (b := a0) (As := [.int row]) (rest := []) ⟨hx, hb, hml, hown, hts⟩ sf_has (c_find l dC dI a0 a1 a2 a3 cB cT LP gb md ct tb nm tk oc en fs la g st ln bf af _ _ (sf_CI_find hI).1 (sf_CI_find hI).2.1 (sf_CI_find hI).2.2) k_X2_59 ⟨sf_blind, va_recv hK hP (ci := 2) (q0 := 0) rfl rfl, sf_preU hP hK hD hN⟩ rfl hl.1 (Nat.le_of_ble_eq_true rfl) ⟨(Nat.le_of_ble_eq_true rfl), (Nat.le_of_ble_eq_true rfl)⟩ ⟨rfl, rfl⟩ ⟨Nat.zero_le _, Nat.zero_le _⟩ dX2_sum_2)) (fun r_2 h_2 => ?_)
  rcases h_2 with h_2 | h_2
  · obtain ⟨k_2, a_2, q1_2, q2_2, q3_2, q4_2, q5_2, q6_2⟩ := h_2
    subst q2_2
    subst q6_2
    obtain ⟨f1_2, f2_2, f3_2, f4_2, f5_2, f6_2, f7_2⟩ := sf_zr_some hI hR q1_2 q3_2 q5_2
    have hl : lv_has ls 7 [(0, .ref a0), (1, .int (nI k_2))] := hl
    refine lv_astore_n (lv' := [(2, .ref a_2), (0, .ref a0), (1, .int (nI k_2))]) hx hb dX2_sum_5 rfl hl (by decide) rfl (fun ls hl => ?_)
    refine lv_aload_n hx hb dX2_sum_6 rfl (lv_at hl 0 rfl) ?_
    refine lv_ifnonnull (tgt := 12) hx hb dX2_sum_7 (by decide) ?_
    refine lv_aload_n hx hb dX2_sum_12 rfl (lv_at hl 1 rfl) ?_
    refine va_get (D := (dC, dI)) (ci := 2) (v := .ref a1) (C := RX2) (T := TX2) (N := 5) hx hb hts sf_inX2 hown hK hP 0 rfl rfl 0 (by decide) (hts _ (sf_mem fl_X2_10 rfl)) (fun _ h9 => h9) rfl dX2_sum_13 ?_
    refine va_get (D := (dC, dI)) (ci := 0) (v := .ref a2) (C := RX0) (T := TX0) (N := 5) hx hb hts sf_inX0 hown hK hP 1 rfl rfl 0 (by decide) (hts _ (sf_mem fl_X2_77 rfl)) (fun _ h9 => h9) rfl dX2_sum_16 ?_
    refine lv_astore_n (lv' := [(3, .ref a2), (2, .ref a_2), (0, .ref a0), (1, .int (nI k_2))]) hx hb dX2_sum_19 rfl hl (by decide) rfl (fun ls hl => ?_)
    refine lv_aload_n hx hb dX2_sum_20 rfl (lv_at hl 1 rfl) ?_
    refine sf_rget (D := (dC, dI)) (ci := 1) (v := .int (nI (st a_2))) (C := RX1) (T := TX1) (N := 6) hx hb hts sf_inX1 hown hK hP q4_2 rfl rfl 2 (by decide) (hts _ (sf_mem fl_X2_81 rfl)) (fun _ h9 => h9) rfl dX2_sum_21 ?_
    refine lv_aload_n hx hb dX2_sum_24 rfl (lv_at hl 1 rfl) ?_
    refine sf_rget (D := (dC, dI)) (ci := 1) (v := .int (nI (ln a_2))) (C := RX1) (T := TX1) (N := 6) hx hb hts sf_inX1 hown hK hP q4_2 rfl rfl 3 (by decide) (hts _ (sf_mem fl_X2_88 rfl)) (fun _ h9 => h9) rfl dX2_sum_25 ?_
    refine sf_iadd hx hb dX2_sum_28 ?_
    refine lv_istore (lv' := [(4, .int (nI ((st a_2) + (ln a_2)))), (3, .ref a2), (2, .ref a_2), (0, .ref a0), (1, .int (nI k_2))]) hx hb dX2_sum_29 hl (by decide) rfl (fun ls hl => ?_)
    refine lv_bipush (v := nI 7) hx hb dX2_sum_31 (by decide) ?_
    refine lv_istore (lv' := [(5, .int (nI 7)), (4, .int (nI ((st a_2) + (ln a_2)))), (3, .ref a2), (2, .ref a_2), (0, .ref a0), (1, .int (nI k_2))]) hx hb dX2_sum_33 hl (by decide) rfl (fun ls hl => ?_)
    refine lv_aload_n hx hb dX2_sum_35 rfl (lv_at hl 3 rfl) ?_
    refine sf_rget (D := (dC, dI)) (ci := 1) (v := .int (nI (st a_2))) (C := RX1) (T := TX1) (N := 6) hx hb hts sf_inX1 hown hK hP q4_2 rfl rfl 2 (by decide) (hts _ (sf_mem fl_X2_81 rfl)) (fun _ h9 => h9) rfl dX2_sum_36 ?_
    refine lv_istore (lv' := [(6, .int (nI (st a_2))), (5, .int (nI 7)), (4, .int (nI ((st a_2) + (ln a_2)))), (3, .ref a2), (2, .ref a_2), (0, .ref a0), (1, .int (nI k_2))]) hx hb dX2_sum_39 hl (by decide) rfl (fun ls hl => ?_)
    refine sf_loop (σ := Nat × Int32) (fun u => ln a_2 - u.1) (fun u H locs ls => u.1 ≤ ln a_2 ∧ zsum (fun j => g (st a_2 + j)) (ln a_2 - u.1) u.1 u.2 = zsum (fun j => g (st a_2 + j)) (ln a_2) 0 7 ∧ H = s.heap ∧ locs = [] ∧ lv_has ls 7 [(0, .ref a0), (1, .int (nI k_2)), (2, .ref a_2), (3, .ref a2), (4, .int (nI (st a_2 + ln a_2))), (5, .int u.2), (6, .int (nI (st a_2 + u.1)))]) ?_ (0, 7) _ _ _ ?_
    · intro u H locs ls hI2 ih
      obtain ⟨i, v⟩ := u
      obtain ⟨k1, k2, rfl, rfl, hl⟩ := hI2
      dsimp only at k1 k2 hl ih
      refine lv_iload hx hb dX2_sum_41 (lv_at hl 6 rfl) ?_
      refine lv_iload hx hb dX2_sum_43 (lv_at hl 4 rfl) ?_
      refine sf_icmp_ge (tgt := 70) hx hb (by omega) (by omega) dX2_sum_45 (by decide) (fun c_45 => ?_) (fun c_45 => ?_)
      · refine lv_iload hx hb dX2_sum_70 (lv_at hl 5 rfl) ?_
        exact W.iret (v := v) hx hb hr (fun t ht hW => ⟨_, rfl, by
          rw [show i = ln a_2 by omega, Nat.sub_self] at k2
          rw [zs_sum_2 f1_2, f4_2, zsum_congr (f2 := fun j => g (st a_2 + j)) _ _ _ (fun j _ hj => f5_2 j (by omega)), ← k2]
          rfl, ht⟩) sf_noloc dX2_sum_72
      · refine lv_bipush (v := nI 31) hx hb dX2_sum_48 (by decide) ?_
        refine lv_iload hx hb dX2_sum_50 (lv_at hl 5 rfl) ?_
        refine lv_imul hx hb dX2_sum_52 ?_
        refine lv_aload_n hx hb dX2_sum_53 rfl (lv_at hl 3 rfl) ?_
        refine lv_iload hx hb dX2_sum_54 (lv_at hl 6 rfl) ?_
        refine sf_bald hx hb hK hP 2 0 rfl rfl (by omega) (by decide) dX2_sum_56 ?_
        refine lv_sipush (v := nI 255) hx hb dX2_sum_57 (by decide) ?_
        refine lv_iand hx hb dX2_sum_60 ?_
        refine lv_iadd hx hb dX2_sum_61 ?_
        refine lv_istore (lv' := [(5, .int (((nI 31) * v) + ((g (st a_2 + i)) &&& (nI 255)))), (0, .ref a0), (1, .int (nI k_2)), (2, .ref a_2), (3, .ref a2), (4, .int (nI (st a_2 + ln a_2))), (6, .int (nI (st a_2 + i)))]) hx hb dX2_sum_62 hl (by decide) rfl (fun ls hl => ?_)
        refine lv_iinc (v := nI ((st a_2 + i) + 1)) (lv' := [(6, .int (nI ((st a_2 + i) + 1))), (5, .int (((nI 31) * v) + ((g (st a_2 + i)) &&& (nI 255)))), (0, .ref a0), (1, .int (nI k_2)), (2, .ref a_2), (3, .ref a2), (4, .int (nI (st a_2 + ln a_2)))]) hx hb dX2_sum_64 hl (k := 6) rfl (nI_1 (st a_2 + i)) (by decide) rfl (fun ls hl => ?_)
        refine lv_goto (tgt := 41) hx hb dX2_sum_67 (by decide) ?_
        exact ih (i + 1, nI 31 * v + (g (st a_2 + i) &&& nI 255)) _ _ _ (by dsimp only; omega) ⟨by dsimp only; omega, by rw [← k2, zsum_go (c := ln a_2) (i := i) (by omega)]; rfl, rfl, rfl, lv_sub hl [2, 3, 4, 5, 6, 1, 0] rfl⟩
    · exact ⟨Nat.zero_le _, rfl, rfl, rfl, lv_sub hl [5, 6, 4, 3, 2, 1, 0] rfl⟩
  · obtain ⟨q1_2, q2_2⟩ := h_2
    subst q1_2
    have f1_2 := sf_zr_none hI hR q2_2
    refine lv_astore_nN (lv' := [(2, .null), (0, .ref a0), (1, .int row)]) hx hb dX2_sum_5 rfl hl (by decide) rfl (fun ls hl => ?_)
    refine lv_aload_nN hx hb dX2_sum_6 rfl (lv_at hl 0 rfl) ?_
    refine lv_ifnonnullN hx hb dX2_sum_7 ?_
    refine lv_iconst (v := nI 0) hx hb dX2_sum_10 (by decide) ?_
    exact W.iret (v := nI 0) hx hb hr (fun t ht hW => ⟨_, rfl, (zs_sum_1 f1_2).symm, ht⟩) sf_noloc dX2_sum_11
theorem sf_min {x y : Nat} (hx : x < 2 ^ 31) (hy : y < 2 ^ 31) : (if nI y < nI x then nI y else nI x) = nI (min x y) := by
  by_cases q : y < x
  · rw [if_pos ((nI_ltI hy hx).mpr q), show min x y = y by omega]
  · rw [if_neg (fun h => q ((nI_ltI hy hx).mp h)), show min x y = x by omega]
set_option maxHeartbeats 4000000 in
set_option maxRecDepth 100000 in
/-- compare(row, other) -/
theorem c_compare (l : Launch) (dC : Nat → ClassId) (dI : Nat → Nat → Nat) (a0 a1 a2 a3 : Nat) (cB cT : ClassId) (LP : List Nat) (gb : Option Nat) (md ct : Nat) (tb : Nat → Option Nat) (nm tk : Nat → Nat) (oc en : Nat) (fs la : Option Nat) (g : Nat → Int32) (st ln : Nat → Nat) (bf af : Nat → Option Nat) (sz : Nat) (z : sf_Z) (cs fr : List Nat) (hI : sf_CI LP gb md ct tb nm tk oc en fs la g st ln bf af cs fr) (hR : sf_CR LP nm tk ln st g cs fr ct oc z) (row other : Int32) : Met l yX2_compare wsX2_compare ({ frames := 1, cells := 0, slots := 0, locals := 30 } : Room) (sf_Pre (dC, dI) vwCl [(cB, .byte), (cT, .object "ByteShelf$Row")] [.ref a0, .int row, .int other] (sf_w a0 a1 a2 a3 cB cT LP gb md ct tb nm tk oc en fs la g st ln bf af) sz) (vp_Si (fun r => r = zs_compare z row other)) 0 0 (fun _ => False) := by
  refine Met.ofW (cc := cX2_compare) (maxL := 10) (ret := (some .int)) (by decide) rfl ?_
  intro p e s m args below meth c s₁ B hml hv
  obtain ⟨rfl, hsz, hP, hK, hD0, hN⟩ := hv
  have hx := B.exec
  have hb := B.bytes
  have hr := B.returns
  have hts := atoms_spec (ws := wsX2_compare) B.pre
  have hown : s.vm.findClass RX2 = some m.cls := findClass_of_methodNamed B.named
  have hlocks := B.notSynchronized
  subst hsz
  have hD := hD0.self (sz := s.heap.size)
  generalize hAe : va_A (sf_w a0 a1 a2 a3 cB cT LP gb md ct tb nm tk oc en fs la g st ln bf af) s.heap.size = A at hD ⊢
  have hA : ∀ q : Nat, s.heap.size ≤ q → A q := fun q h => by rw [← hAe]; exact Or.inr h
  have hS : va_S A s.heap s.heap [] := va_S.rf
  have hl := lv_entry ([.ref a0, .int row, .int other]) (n := 10) (Nat.le_of_ble_eq_true rfl)
  rw [lg_entry_eq]
  generalize (lg_sl ([.ref a0, .int row, .int other]) ++ List.replicate (10 - (lg_sl ([.ref a0, .int row, .int other])).length) Slot.unset).toArray = ls at hl ⊢
  have hl : lv_has ls 10 [(0, .ref a0), (1, .int row), (2, .int other)] := hl
  refine lv_aload_n hx hb dX2_compare_0 rfl (lv_at hl 0 rfl) ?_
  refine lv_iload_n hx hb dX2_compare_1 rfl (lv_at hl 1 rfl) ?_
  refine va_csq (va_Run.run (sf_runV (b := a0) (As := [.int row]) (rest := []) ⟨hx, hb, hml, hown, hts⟩ sf_has (c_find l dC dI a0 a1 a2 a3 cB cT LP gb md ct tb nm tk oc en fs la g st ln bf af _ _ (sf_CI_find hI).1 (sf_CI_find hI).2.1 (sf_CI_find hI).2.2) k_X2_59 ⟨sf_blind, va_recv hK hP (ci := 2) (q0 := 0) rfl rfl, sf_preU hP hK hD hN⟩ rfl hl.1 (Nat.le_of_ble_eq_true rfl) ⟨(Nat.le_of_ble_eq_true rfl), (Nat.le_of_ble_eq_true rfl)⟩ ⟨rfl, rfl⟩ ⟨Nat.zero_le _, Nat.zero_le _⟩ dX2_compare_2)) (fun r_2 h_2 => ?_)
  rcases h_2 with h_2 | h_2
  · obtain ⟨k_2, a_2, q1_2, q2_2, q3_2, q4_2, q5_2, q6_2⟩ := h_2
    subst q2_2
    subst q6_2
    obtain ⟨f1_2, f2_2, f3_2, f4_2, f5_2, f6_2, f7_2⟩ := sf_zr_some hI hR q1_2 q3_2 q5_2
    have hl : lv_has ls 10 [(0, .ref a0), (1, .int (nI k_2)), (2, .int other)] := hl
    refine lv_astore_n (lv' := [(3, .ref a_2), (0, .ref a0), (1, .int (nI k_2)), (2, .int other)]) hx hb dX2_compare_5 rfl hl (by decide) rfl (fun ls hl => ?_)
    refine lv_aload_n hx hb dX2_compare_6 rfl (lv_at hl 1 rfl) ?_
    refine lv_iload_n hx hb dX2_compare_7 rfl (lv_at hl 3 rfl) ?_
    refine va_csq (va_Run.run (sf_runV (b := a0) (As := [.int other]) (rest := []) ⟨hx, hb, hml, hown, hts⟩ sf_has (c_find l dC dI a0 a1 a2 a3 cB cT LP gb md ct tb nm tk oc en fs la g st ln bf af _ _ (sf_CI_find hI).1 (sf_CI_find hI).2.1 (sf_CI_find hI).2.2) k_X2_59 ⟨sf_blind, va_recv hK hP (ci := 2) (q0 := 0) rfl rfl, sf_preU hP hK hD hN⟩ rfl hl.1 (Nat.le_of_ble_eq_true rfl) ⟨(Nat.le_of_ble_eq_true rfl), (Nat.le_of_ble_eq_true rfl)⟩ ⟨rfl, rfl⟩ ⟨Nat.zero_le _, Nat.zero_le _⟩ dX2_compare_8)) (fun r_8 h_8 => ?_)
    rcases h_8 with h_8 | h_8
    · obtain ⟨k_8, a_8, q1_8, q2_8, q3_8, q4_8, q5_8, q6_8⟩ := h_8
      subst q2_8
      subst q6_8
      obtain ⟨f1_8, f2_8, f3_8, f4_8, f5_8, f6_8, f7_8⟩ := sf_zr_some hI hR q1_8 q3_8 q5_8
      have hl : lv_has ls 10 [(3, .ref a_2), (0, .ref a0), (1, .int (nI k_2)), (2, .int (nI k_8))] := hl
      refine lv_astore (lv' := [(4, .ref a_8), (3, .ref a_2), (0, .ref a0), (1, .int (nI k_2)), (2, .int (nI k_8))]) hx hb dX2_compare_11 hl (by decide) rfl (fun ls hl => ?_)
      refine lv_aload_n hx hb dX2_compare_13 rfl (lv_at hl 1 rfl) ?_
      refine lv_ifnull hx hb dX2_compare_14 ?_
      refine lv_aload hx hb dX2_compare_17 (lv_at hl 0 rfl) ?_
      refine lv_ifnonnull (tgt := 25) hx hb dX2_compare_19 (by decide) ?_
      refine lv_aload_n hx hb dX2_compare_25 rfl (lv_at hl 2 rfl) ?_
      refine va_get (D := (dC, dI)) (ci := 2) (v := .ref a1) (C := RX2) (T := TX2) (N := 5) hx hb hts sf_inX2 hown hK hP 0 rfl rfl 0 (by decide) (hts _ (sf_mem fl_X2_10 rfl)) (fun _ h9 => h9) rfl dX2_compare_26 ?_
      refine va_get (D := (dC, dI)) (ci := 0) (v := .ref a2) (C := RX0) (T := TX0) (N := 5) hx hb hts sf_inX0 hown hK hP 1 rfl rfl 0 (by decide) (hts _ (sf_mem fl_X2_77 rfl)) (fun _ h9 => h9) rfl dX2_compare_29 ?_
      refine lv_astore (lv' := [(5, .ref a2), (4, .ref a_8), (3, .ref a_2), (0, .ref a0), (1, .int (nI k_2)), (2, .int (nI k_8))]) hx hb dX2_compare_32 hl (by decide) rfl (fun ls hl => ?_)
      refine lv_aload_n hx hb dX2_compare_34 rfl (lv_at hl 2 rfl) ?_
      refine sf_rget (D := (dC, dI)) (ci := 1) (v := .int (nI (st a_2))) (C := RX1) (T := TX1) (N := 6) hx hb hts sf_inX1 hown hK hP q4_2 rfl rfl 2 (by decide) (hts _ (sf_mem fl_X2_81 rfl)) (fun _ h9 => h9) rfl dX2_compare_35 ?_
      refine lv_istore (lv' := [(6, .int (nI (st a_2))), (5, .ref a2), (4, .ref a_8), (3, .ref a_2), (0, .ref a0), (1, .int (nI k_2)), (2, .int (nI k_8))]) hx hb dX2_compare_38 hl (by decide) rfl (fun ls hl => ?_)
      refine lv_aload hx hb dX2_compare_40 (lv_at hl 2 rfl) ?_
      refine sf_rget (D := (dC, dI)) (ci := 1) (v := .int (nI (st a_8))) (C := RX1) (T := TX1) (N := 6) hx hb hts sf_inX1 hown hK hP q4_8 rfl rfl 2 (by decide) (hts _ (sf_mem fl_X2_81 rfl)) (fun _ h9 => h9) rfl dX2_compare_42 ?_
      refine lv_istore (lv' := [(7, .int (nI (st a_8))), (6, .int (nI (st a_2))), (5, .ref a2), (4, .ref a_8), (3, .ref a_2), (0, .ref a0), (1, .int (nI k_2)), (2, .int (nI k_8))]) hx hb dX2_compare_45 hl (by decide) rfl (fun ls hl => ?_)
      refine lv_aload_n hx hb dX2_compare_47 rfl (lv_at hl 4 rfl) ?_
      refine sf_rget (D := (dC, dI)) (ci := 1) (v := .int (nI (ln a_2))) (C := RX1) (T := TX1) (N := 6) hx hb hts sf_inX1 hown hK hP q4_2 rfl rfl 3 (by decide) (hts _ (sf_mem fl_X2_88 rfl)) (fun _ h9 => h9) rfl dX2_compare_48 ?_
      refine lv_aload hx hb dX2_compare_51 (lv_at hl 3 rfl) ?_
      refine sf_rget (D := (dC, dI)) (ci := 1) (v := .int (nI (ln a_8))) (C := RX1) (T := TX1) (N := 6) hx hb hts sf_inX1 hown hK hP q4_8 rfl rfl 3 (by decide) (hts _ (sf_mem fl_X2_88 rfl)) (fun _ h9 => h9) rfl dX2_compare_53 ?_
      refine va_mmin hx hb (hml.trans hl.1.symm) hown (hts _ (sf_mem ml_X2_97 rfl)) (hts _ (sf_mem sm_J9_min_7cf53 rfl)) (hts _ (sf_mem in_J9 rfl)) (hts _ (sf_mem co_J9_min_7cf53 rfl)) (Nat.le_of_ble_eq_true rfl) (Nat.le_of_ble_eq_true rfl) (Nat.zero_le _) (Nat.zero_le _) dX2_compare_56 ?_
      rw [sf_min (by omega) (by omega)]
      refine lv_istore (lv' := [(8, .int (nI (min (ln a_2) (ln a_8)))), (7, .int (nI (st a_8))), (6, .int (nI (st a_2))), (5, .ref a2), (4, .ref a_8), (3, .ref a_2), (0, .ref a0), (1, .int (nI k_2)), (2, .int (nI k_8))]) hx hb dX2_compare_59 hl (by decide) rfl (fun ls hl => ?_)
      refine lv_iconst (v := nI 0) hx hb dX2_compare_61 (by decide) ?_
      refine lv_istore (lv' := [(9, .int (nI 0)), (8, .int (nI (min (ln a_2) (ln a_8)))), (7, .int (nI (st a_8))), (6, .int (nI (st a_2))), (5, .ref a2), (4, .ref a_8), (3, .ref a_2), (0, .ref a0), (1, .int (nI k_2)), (2, .int (nI k_8))]) hx hb dX2_compare_62 hl (by decide) rfl (fun ls hl => ?_)
      refine sf_loop (σ := Nat) (fun u => min (ln a_2) (ln a_8) - u) (fun u H locs ls => u ≤ min (ln a_2) (ln a_8) ∧ zcmp (fun j => g (st a_2 + j)) (fun j => g (st a_8 + j)) (zord (ln a_2) (ln a_8)) (min (ln a_2) (ln a_8) - u) u = zcmp (fun j => g (st a_2 + j)) (fun j => g (st a_8 + j)) (zord (ln a_2) (ln a_8)) (min (ln a_2) (ln a_8)) 0 ∧ H = s.heap ∧ locs = [] ∧ lv_has ls 10 [(0, .ref a0), (1, .int (nI k_2)), (2, .int (nI k_8)), (3, .ref a_2), (4, .ref a_8), (5, .ref a2), (6, .int (nI (st a_2))), (7, .int (nI (st a_8))), (8, .int (nI (min (ln a_2) (ln a_8)))), (9, .int (nI u))]) ?_ 0 _ _ _ ?_
      · intro u H locs ls hI2 ih
        obtain ⟨i, rfl⟩ : ∃ i : Nat, i = u := ⟨u, rfl⟩
        obtain ⟨k1, k2, rfl, rfl, hl⟩ := hI2
        have hFa := hI.1.2.2.2.2.2.2.2.2.2 (st a_2 + i)
        have hFb := hI.1.2.2.2.2.2.2.2.2.2 (st a_8 + i)
        obtain ⟨x1, hx1, ex1⟩ := pk_andE (g (st a_2 + i)) (m := nI 255) 8 (by decide)
        obtain ⟨y1, hy1, ey1⟩ := pk_andE (g (st a_8 + i)) (m := nI 255) 8 (by decide)
        refine lv_iload hx hb dX2_compare_64 (lv_at hl 9 rfl) ?_
        refine lv_iload hx hb dX2_compare_66 (lv_at hl 8 rfl) ?_
        refine sf_icmp_ge (tgt := 124) hx hb (by omega) (by omega) dX2_compare_68 (by decide) (fun c_68 => ?_) (fun c_68 => ?_)
        · refine lv_aload_n hx hb dX2_compare_124 rfl (lv_at hl 3 rfl) ?_
          refine sf_rget (D := (dC, dI)) (ci := 1) (v := .int (nI (ln a_2))) (C := RX1) (T := TX1) (N := 6) hx hb hts sf_inX1 hown hK hP q4_2 rfl rfl 3 (by decide) (hts _ (sf_mem fl_X2_88 rfl)) (fun _ h9 => h9) rfl dX2_compare_125 ?_
          refine lv_aload hx hb dX2_compare_128 (lv_at hl 4 rfl) ?_
          refine sf_rget (D := (dC, dI)) (ci := 1) (v := .int (nI (ln a_8))) (C := RX1) (T := TX1) (N := 6) hx hb hts sf_inX1 hown hK hP q4_8 rfl rfl 3 (by decide) (hts _ (sf_mem fl_X2_88 rfl)) (fun _ h9 => h9) rfl dX2_compare_130 ?_
          refine vp_callSi (va_Run.run (sf_runS (As := [.int (nI (ln a_2)), .int (nI (ln a_8))]) (rest := []) ⟨hx, hb, hml, hown, hts⟩ sf_has (c_order l (ln a_2) (ln a_8) (by omega) (by omega)) k_X2_103 ⟨sf_blindT, sf_preT⟩ rfl hl.1 (Nat.le_of_ble_eq_true rfl) ⟨(Nat.le_of_ble_eq_true rfl), (Nat.le_of_ble_eq_true rfl)⟩ ⟨rfl, rfl⟩ ⟨Nat.zero_le _, Nat.zero_le _⟩ dX2_compare_133)) (fun r_133 h_133 => ?_)
          subst h_133
          exact W.iret (v := (if ln a_2 = ln a_8 then 0 else if ln a_2 < ln a_8 then -1 else 1)) hx hb hr (fun t ht hW => ⟨_, rfl, by
            rw [show i = min (ln a_2) (ln a_8) by omega, Nat.sub_self] at k2
            rw [zs_cmp_3 f1_2 f1_8, f4_2, f4_8, zcmp_congr (f2 := fun j => g (st a_2 + j)) (g2 := fun j => g (st a_8 + j)) _ _ (fun j _ hj => ⟨f5_2 j (by omega), f5_8 j (by omega)⟩), ← k2]
            rfl, ht⟩) sf_noloc dX2_compare_136
        · refine lv_aload hx hb dX2_compare_71 (lv_at hl 5 rfl) ?_
          refine lv_iload hx hb dX2_compare_73 (lv_at hl 6 rfl) ?_
          refine lv_iload hx hb dX2_compare_75 (lv_at hl 9 rfl) ?_
          refine sf_iadd hx hb dX2_compare_77 ?_
          refine sf_bald hx hb hK hP 2 0 rfl rfl (by omega) (by decide) dX2_compare_78 ?_
          refine lv_aload hx hb dX2_compare_79 (lv_at hl 5 rfl) ?_
          refine lv_iload hx hb dX2_compare_81 (lv_at hl 7 rfl) ?_
          refine lv_iload hx hb dX2_compare_83 (lv_at hl 9 rfl) ?_
          refine sf_iadd hx hb dX2_compare_85 ?_
          refine sf_bald hx hb hK hP 2 0 rfl rfl (by omega) (by decide) dX2_compare_86 ?_
          refine lv_icmp_eq (tgt := 118) hx hb dX2_compare_87 (by decide) (fun c_87 => ?_) (fun c_87 => ?_)
          · refine lv_iinc (v := nI (i + 1)) (lv' := [(9, .int (nI (i + 1))), (0, .ref a0), (1, .int (nI k_2)), (2, .int (nI k_8)), (3, .ref a_2), (4, .ref a_8), (5, .ref a2), (6, .int (nI (st a_2))), (7, .int (nI (st a_8))), (8, .int (nI (min (ln a_2) (ln a_8))))]) hx hb dX2_compare_118 hl (k := 9) rfl (nI_1 i) (by decide) rfl (fun ls hl => ?_)
            refine lv_goto (tgt := 64) hx hb dX2_compare_121 (by decide) ?_
            exact ih (i + 1) _ _ _ (by omega) ⟨by omega, by rw [← k2, zcmp_miss (c := min (ln a_2) (ln a_8)) (i := i) (by omega) c_87], rfl, rfl, lv_sub hl [1, 2, 3, 4, 5, 6, 7, 8, 9, 0] rfl⟩
          · refine lv_aload hx hb dX2_compare_90 (lv_at hl 5 rfl) ?_
            refine lv_iload hx hb dX2_compare_92 (lv_at hl 6 rfl) ?_
            refine lv_iload hx hb dX2_compare_94 (lv_at hl 9 rfl) ?_
            refine sf_iadd hx hb dX2_compare_96 ?_
            refine sf_bald hx hb hK hP 2 0 rfl rfl (by omega) (by decide) dX2_compare_97 ?_
            refine lv_sipush (v := nI 255) hx hb dX2_compare_98 (by decide) ?_
            refine lv_iand hx hb dX2_compare_101 ?_
            rw [ex1]
            refine lv_aload hx hb dX2_compare_102 (lv_at hl 5 rfl) ?_
            refine lv_iload hx hb dX2_compare_104 (lv_at hl 7 rfl) ?_
            refine lv_iload hx hb dX2_compare_106 (lv_at hl 9 rfl) ?_
            refine sf_iadd hx hb dX2_compare_108 ?_
            refine sf_bald hx hb hK hP 2 0 rfl rfl (by omega) (by decide) dX2_compare_109 ?_
            refine lv_sipush (v := nI 255) hx hb dX2_compare_110 (by decide) ?_
            refine lv_iand hx hb dX2_compare_113 ?_
            rw [ey1]
            refine vp_callSi (va_Run.run (sf_runS (As := [.int (nI x1), .int (nI y1)]) (rest := []) ⟨hx, hb, hml, hown, hts⟩ sf_has (c_order l x1 y1 (by omega) (by omega)) k_X2_103 ⟨sf_blindT, sf_preT⟩ rfl hl.1 (Nat.le_of_ble_eq_true rfl) ⟨(Nat.le_of_ble_eq_true rfl), (Nat.le_of_ble_eq_true rfl)⟩ ⟨rfl, rfl⟩ ⟨Nat.zero_le _, Nat.zero_le _⟩ dX2_compare_114)) (fun r_114 h_114 => ?_)
            subst h_114
            exact W.iret (v := (if x1 = y1 then 0 else if x1 < y1 then -1 else 1)) hx hb hr (fun t ht hW => ⟨_, rfl, by
              rw [zs_cmp_3 f1_2 f1_8, f4_2, f4_8, zcmp_congr (f2 := fun j => g (st a_2 + j)) (g2 := fun j => g (st a_8 + j)) _ _ (fun j _ hj => ⟨f5_2 j (by omega), f5_8 j (by omega)⟩), ← k2]
              exact (zcmp_hit (c := min (ln a_2) (ln a_8)) (i := i) (by omega) c_87 hFa hFb hx1 hy1 ex1 ey1).symm, ht⟩) sf_noloc dX2_compare_117
      · exact ⟨Nat.zero_le _, rfl, rfl, rfl, lv_sub hl [7, 8, 9, 6, 5, 4, 3, 2, 1, 0] rfl⟩
    · obtain ⟨q1_8, q2_8⟩ := h_8
      subst q1_8
      have f1_8 := sf_zr_none hI hR q2_8
      refine lv_astoreN (lv' := [(4, .null), (3, .ref a_2), (0, .ref a0), (1, .int (nI k_2)), (2, .int other)]) hx hb dX2_compare_11 hl (by decide) rfl (fun ls hl => ?_)
      refine lv_aload_n hx hb dX2_compare_13 rfl (lv_at hl 1 rfl) ?_
      refine lv_ifnull hx hb dX2_compare_14 ?_
      refine lv_aloadN hx hb dX2_compare_17 (lv_at hl 0 rfl) ?_
      refine lv_ifnonnullN hx hb dX2_compare_19 ?_
      refine lv_bipush (v := -2) hx hb dX2_compare_22 (by decide) ?_
      exact W.iret (v := -2) hx hb hr (fun t ht hW => ⟨_, rfl, (zs_cmp_2 f1_8).symm, ht⟩) sf_noloc dX2_compare_24
  · obtain ⟨q1_2, q2_2⟩ := h_2
    subst q1_2
    have f1_2 := sf_zr_none hI hR q2_2
    refine lv_astore_nN (lv' := [(3, .null), (0, .ref a0), (1, .int row), (2, .int other)]) hx hb dX2_compare_5 rfl hl (by decide) rfl (fun ls hl => ?_)
    refine lv_aload_n hx hb dX2_compare_6 rfl (lv_at hl 1 rfl) ?_
    refine lv_iload_n hx hb dX2_compare_7 rfl (lv_at hl 3 rfl) ?_
    refine va_csq (va_Run.run (sf_runV (b := a0) (As := [.int other]) (rest := []) ⟨hx, hb, hml, hown, hts⟩ sf_has (c_find l dC dI a0 a1 a2 a3 cB cT LP gb md ct tb nm tk oc en fs la g st ln bf af _ _ (sf_CI_find hI).1 (sf_CI_find hI).2.1 (sf_CI_find hI).2.2) k_X2_59 ⟨sf_blind, va_recv hK hP (ci := 2) (q0 := 0) rfl rfl, sf_preU hP hK hD hN⟩ rfl hl.1 (Nat.le_of_ble_eq_true rfl) ⟨(Nat.le_of_ble_eq_true rfl), (Nat.le_of_ble_eq_true rfl)⟩ ⟨rfl, rfl⟩ ⟨Nat.zero_le _, Nat.zero_le _⟩ dX2_compare_8)) (fun r_8 h_8 => ?_)
    rcases h_8 with h_8 | h_8
    · obtain ⟨k_8, a_8, q1_8, q2_8, q3_8, q4_8, q5_8, q6_8⟩ := h_8
      subst q2_8
      subst q6_8
      obtain ⟨f1_8, f2_8, f3_8, f4_8, f5_8, f6_8, f7_8⟩ := sf_zr_some hI hR q1_8 q3_8 q5_8
      have hl : lv_has ls 10 [(3, .null), (0, .ref a0), (1, .int row), (2, .int (nI k_8))] := hl
      refine lv_astore (lv' := [(4, .ref a_8), (3, .null), (0, .ref a0), (1, .int row), (2, .int (nI k_8))]) hx hb dX2_compare_11 hl (by decide) rfl (fun ls hl => ?_)
      refine lv_aload_nN hx hb dX2_compare_13 rfl (lv_at hl 1 rfl) ?_
      refine lv_ifnullN (tgt := 22) hx hb dX2_compare_14 (by decide) ?_
      refine lv_bipush (v := -2) hx hb dX2_compare_22 (by decide) ?_
      exact W.iret (v := -2) hx hb hr (fun t ht hW => ⟨_, rfl, (zs_cmp_1 f1_2).symm, ht⟩) sf_noloc dX2_compare_24
    · obtain ⟨q1_8, q2_8⟩ := h_8
      subst q1_8
      have f1_8 := sf_zr_none hI hR q2_8
      refine lv_astoreN (lv' := [(4, .null), (3, .null), (0, .ref a0), (1, .int row), (2, .int other)]) hx hb dX2_compare_11 hl (by decide) rfl (fun ls hl => ?_)
      refine lv_aload_nN hx hb dX2_compare_13 rfl (lv_at hl 1 rfl) ?_
      refine lv_ifnullN (tgt := 22) hx hb dX2_compare_14 (by decide) ?_
      refine lv_bipush (v := -2) hx hb dX2_compare_22 (by decide) ?_
      exact W.iret (v := -2) hx hb hr (fun t ht hW => ⟨_, rfl, (zs_cmp_1 f1_2).symm, ht⟩) sf_noloc dX2_compare_24
