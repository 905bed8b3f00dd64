/-! leaves of the shelf: static methods, reads -/
set_option maxHeartbeats 4000000 in
set_option maxRecDepth 100000 in
/-- placesFor(n): the places of n bytes -/
theorem c_placesFor (l : Launch) (n : Nat) (hn : n ≤ 16384) : Met l yX2_placesFor wsX2_placesFor ({ frames := 0, cells := 0, slots := 0, locals := 0 } : Room) (sf_PreT [.int (nI n)]) (vp_Si (fun r => r = nI (sf_P n))) 0 0 (fun _ => False) := by
  refine Met.ofW (cc := cX2_placesFor) (maxL := 1) (ret := (some .int)) (by decide) rfl ?_
  intro p e s m args below meth c s₁ B hml hv
  obtain ⟨rfl, -⟩ := hv
  have hx := B.exec
  have hb := B.bytes
  have hr := B.returns
  have hts := atoms_spec (ws := wsX2_placesFor) B.pre
  have hown : s.vm.findClass RX2 = some m.cls := findClass_of_methodNamed B.named
  have hlocks := B.notSynchronized
  have hl := lv_entry ([.int (nI n)]) (n := 1) (Nat.le_of_ble_eq_true rfl)
  rw [lg_entry_eq]
  generalize (lg_sl ([.int (nI n)]) ++ List.replicate (1 - (lg_sl ([.int (nI n)])).length) Slot.unset).toArray = ls at hl ⊢
  have hl : lv_has ls 1 [(0, .int (nI n))] := hl
  refine lv_iload_n hx hb dX2_placesFor_0 rfl (lv_at hl 0 rfl) ?_
  refine lv_bipush (v := nI 8) hx hb dX2_placesFor_1 (by decide) ?_
  refine sf_iadd hx hb dX2_placesFor_3 ?_
  refine lv_iconst (v := nI 1) hx hb dX2_placesFor_4 (by decide) ?_
  refine sf_isub hx hb (by omega) dX2_placesFor_5 ?_
  refine lv_bipush (v := nI 8) hx hb dX2_placesFor_6 (by decide) ?_
  refine sf_idiv hx hb (by omega) (by omega) (by omega) dX2_placesFor_8 ?_
  refine lv_bipush (v := nI 8) hx hb dX2_placesFor_9 (by decide) ?_
  refine sf_imul hx hb dX2_placesFor_11 ?_
  exact W.iret (v := nI ((n + 8 - 1) / 8 * 8)) hx hb hr (fun t ht hW => ⟨_, rfl, rfl, ht⟩) sf_noloc dX2_placesFor_12
set_option maxHeartbeats 4000000 in
set_option maxRecDepth 100000 in
/-- isLength(n) -/
theorem c_isLength (l : Launch) (n : Int32) : Met l yX2_isLength wsX2_isLength ({ frames := 0, cells := 0, slots := 0, locals := 0 } : Room) (sf_PreT [.int n]) (vp_Si (fun r => (r = nI 1 ∧ ∃ k : Nat, k ≤ 16384 ∧ n = nI k) ∨ (r = nI 0 ∧ ∀ k : Nat, k ≤ 16384 → n ≠ nI k))) 0 0 (fun _ => False) := by
  refine Met.ofW (cc := cX2_isLength) (maxL := 1) (ret := (some .boolean)) (by decide) rfl ?_
  intro p e s m args below meth c s₁ B hml hv
  obtain ⟨rfl, -⟩ := hv
  have hx := B.exec
  have hb := B.bytes
  have hr := B.returns
  have hts := atoms_spec (ws := wsX2_isLength) B.pre
  have hown : s.vm.findClass RX2 = some m.cls := findClass_of_methodNamed B.named
  have hlocks := B.notSynchronized
  have hl := lv_entry ([.int n]) (n := 1) (Nat.le_of_ble_eq_true rfl)
  rw [lg_entry_eq]
  generalize (lg_sl ([.int n]) ++ List.replicate (1 - (lg_sl ([.int n])).length) Slot.unset).toArray = ls at hl ⊢
  have hl : lv_has ls 1 [(0, .int n)] := hl
  refine lv_iload_n hx hb dX2_isLength_0 rfl (lv_at hl 0 rfl) ?_
  refine lv_if_lt (tgt := 15) hx hb dX2_isLength_1 (by decide) (fun c_1 => ?_) (fun c_1 => ?_)
  · have hno : ∀ k : Nat, k ≤ 16384 → n ≠ nI k := fun k hk q => nI_pos (n := k) (by omega) (by rw [← q]; exact c_1)
    refine lv_iconst (v := nI 0) hx hb dX2_isLength_15 (by decide) ?_
    exact W.zret (v := nI 0) hx hb hr (by decide) (fun t ht hW => ⟨_, rfl, Or.inr ⟨rfl, hno⟩, ht⟩) sf_noloc dX2_isLength_16
  · refine lv_iload_n hx hb dX2_isLength_4 rfl (lv_at hl 0 rfl) ?_
    refine lv_sipush (v := nI 16384) hx hb dX2_isLength_5 (by decide) ?_
    refine lv_icmp_gt (tgt := 15) hx hb dX2_isLength_8 (by decide) (fun c_8 => ?_) (fun c_8 => ?_)
    · have hno : ∀ k : Nat, k ≤ 16384 → n ≠ nI k := fun k hk q => Nat.not_lt.mpr hk ((nI_ltI (by decide) (by omega)).mp (by rw [← q]; exact c_8))
      refine lv_iconst (v := nI 0) hx hb dX2_isLength_15 (by decide) ?_
      exact W.zret (v := nI 0) hx hb hr (by decide) (fun t ht hW => ⟨_, rfl, Or.inr ⟨rfl, hno⟩, ht⟩) sf_noloc dX2_isLength_16
    · refine lv_iconst (v := nI 1) hx hb dX2_isLength_11 (by decide) ?_
      refine lv_goto (tgt := 16) hx hb dX2_isLength_12 (by decide) ?_
      exact W.zret (v := nI 1) hx hb hr (by decide) (fun t ht hW => ⟨_, rfl, Or.inl ⟨rfl, (nI_of2 (M := nI 16384) (n := 16384) (by decide) c_1 (Int32.not_lt.mp c_8))⟩, ht⟩) sf_noloc dX2_isLength_16
set_option maxHeartbeats 4000000 in
set_option maxRecDepth 100000 in
/-- order(x, y) -/
theorem c_order (l : Launch) (x y : Nat) (hx0 : x < 2 ^ 31) (hy0 : y < 2 ^ 31) : Met l yX2_order wsX2_order ({ frames := 0, cells := 0, slots := 0, locals := 0 } : Room) (sf_PreT [.int (nI x), .int (nI y)]) (vp_Si (fun r => r = if x = y then 0 else if x < y then -1 else 1)) 0 0 (fun _ => False) := by
  refine Met.ofW (cc := cX2_order) (maxL := 2) (ret := (some .int)) (by decide) rfl ?_
  intro p e s m args below meth c s₁ B hml hv
  obtain ⟨rfl, -⟩ := hv
  have hx := B.exec
  have hb := B.bytes
  have hr := B.returns
  have hts := atoms_spec (ws := wsX2_order) B.pre
  have hown : s.vm.findClass RX2 = some m.cls := findClass_of_methodNamed B.named
  have hlocks := B.notSynchronized
  have hl := lv_entry ([.int (nI x), .int (nI y)]) (n := 2) (Nat.le_of_ble_eq_true rfl)
  rw [lg_entry_eq]
  generalize (lg_sl ([.int (nI x), .int (nI y)]) ++ List.replicate (2 - (lg_sl ([.int (nI x), .int (nI y)])).length) Slot.unset).toArray = ls at hl ⊢
  have hl : lv_has ls 2 [(0, .int (nI x)), (1, .int (nI y))] := hl
  refine lv_iload_n hx hb dX2_order_0 rfl (lv_at hl 0 rfl) ?_
  refine lv_iload_n hx hb dX2_order_1 rfl (lv_at hl 1 rfl) ?_
  refine sf_icmp_ne (tgt := 7) hx hb (by assumption) (by assumption) dX2_order_2 (by decide) (fun c_2 => ?_) (fun c_2 => ?_)
  · refine lv_iload_n hx hb dX2_order_7 rfl (lv_at hl 0 rfl) ?_
    refine lv_iload_n hx hb dX2_order_8 rfl (lv_at hl 1 rfl) ?_
    refine sf_icmp_ge (tgt := 16) hx hb (by assumption) (by assumption) dX2_order_9 (by decide) (fun c_9 => ?_) (fun c_9 => ?_)
    · refine lv_iconst (v := nI 1) hx hb dX2_order_16 (by decide) ?_
      exact W.iret (v := nI 1) hx hb hr (fun t ht hW => ⟨_, rfl, by rw [if_neg c_2, if_neg (Nat.not_lt.mpr c_9)]; rfl, ht⟩) sf_noloc dX2_order_17
    · refine lv_iconst (v := -1) hx hb dX2_order_12 (by decide) ?_
      refine lv_goto (tgt := 17) hx hb dX2_order_13 (by decide) ?_
      exact W.iret (v := -1) hx hb hr (fun t ht hW => ⟨_, rfl, by rw [if_neg c_2, if_pos c_9], ht⟩) sf_noloc dX2_order_17
  · refine lv_iconst (v := nI 0) hx hb dX2_order_5 (by decide) ?_
    exact W.iret (v := nI 0) hx hb hr (fun t ht hW => ⟨_, rfl, by rw [if_pos c_2]; rfl, ht⟩) sf_noloc dX2_order_6
set_option maxHeartbeats 4000000 in
set_option maxRecDepth 100000 in
/-- hasByte -/
theorem c_hasByte (l : Launch) (dC : Nat → ClassId) (dI : Nat → Nat → Nat) (a0 a1 a2 a3 : Nat) (cB cT : ClassId) (LP : List Nat) (gb : Option Nat) (md ct : Nat) (tb : Nat → Option Nat) (nm tk : Nat → Nat) (oc en : Nat) (fs la : Option Nat) (g : Nat → Int32) (st ln : Nat → Nat) (bf af : Nat → Option Nat) (sz : Nat) (a : Nat) (ha : a ∈ LP) (hln : ln a ≤ 16384) (i : Int32) : Met l yX2_hasByte wsX2_hasByte ({ frames := 0, cells := 0, slots := 0, locals := 0 } : Room) (sf_Pre (dC, dI) vwCl [(cB, .byte), (cT, .object "ByteShelf$Row")] [.ref a, .int i] (sf_w a0 a1 a2 a3 cB cT LP gb md ct tb nm tk oc en fs la g st ln bf af) sz) (vp_Si (fun r => (r = nI 1 ∧ ∃ k : Nat, k < ln a ∧ i = nI k) ∨ (r = nI 0 ∧ ∀ k : Nat, k < ln a → i ≠ nI k))) 0 0 (fun _ => False) := by
  refine Met.ofW (cc := cX2_hasByte) (maxL := 2) (ret := (some .boolean)) (by decide) rfl ?_
  intro p e s m args below meth c s₁ B hml hv
  obtain ⟨rfl, hsz, hP, hK, hD0, hN⟩ := hv
  have hx := B.exec
  have hb := B.bytes
  have hr := B.returns
  have hts := atoms_spec (ws := wsX2_hasByte) B.pre
  have hown : s.vm.findClass RX2 = some m.cls := findClass_of_methodNamed B.named
  have hlocks := B.notSynchronized
  subst hsz
  have hD := hD0.self (sz := s.heap.size)
  generalize hAe : va_A (sf_w a0 a1 a2 a3 cB cT LP gb md ct tb nm tk oc en fs la g st ln bf af) s.heap.size = A at hD ⊢
  have hA : ∀ q : Nat, s.heap.size ≤ q → A q := fun q h => by rw [← hAe]; exact Or.inr h
  have hS : va_S A s.heap s.heap [] := va_S.rf
  have hl := lv_entry ([.ref a, .int i]) (n := 2) (Nat.le_of_ble_eq_true rfl)
  rw [lg_entry_eq]
  generalize (lg_sl ([.ref a, .int i]) ++ List.replicate (2 - (lg_sl ([.ref a, .int i])).length) Slot.unset).toArray = ls at hl ⊢
  have hl : lv_has ls 2 [(0, .ref a), (1, .int i)] := hl
  refine lv_iload_n hx hb dX2_hasByte_0 rfl (lv_at hl 1 rfl) ?_
  refine lv_if_lt (tgt := 16) hx hb dX2_hasByte_1 (by decide) (fun c_1 => ?_) (fun c_1 => ?_)
  · have hno : ∀ k : Nat, k < ln a → i ≠ nI k := fun k hk q => nI_pos (n := k) (by omega) (by rw [← q]; exact c_1)
    refine lv_iconst (v := nI 0) hx hb dX2_hasByte_16 (by decide) ?_
    exact W.zret (v := nI 0) hx hb hr (by decide) (fun t ht hW => ⟨_, rfl, Or.inr ⟨rfl, hno⟩, ht⟩) sf_noloc dX2_hasByte_17
  · refine lv_iload_n hx hb dX2_hasByte_4 rfl (lv_at hl 1 rfl) ?_
    refine lv_aload_n hx hb dX2_hasByte_5 rfl (lv_at hl 0 rfl) ?_
    refine sf_rget (D := (dC, dI)) (ci := 1) (v := .int (nI (ln a))) (C := RX1) (T := TX1) (N := 6) hx hb hts sf_inX1 hown hK hP ha rfl rfl 3 (by decide) (hts _ (sf_mem fl_X2_88 rfl)) (fun _ h9 => h9) rfl dX2_hasByte_6 ?_
    refine lv_icmp_ge (tgt := 16) hx hb dX2_hasByte_9 (by decide) (fun c_9 => ?_) (fun c_9 => ?_)
    · have hno : ∀ k : Nat, k < ln a → i ≠ nI k := fun k hk q => Nat.not_le.mpr hk ((nI_leI (by omega) (by omega)).mp (by rw [← q]; exact c_9))
      refine lv_iconst (v := nI 0) hx hb dX2_hasByte_16 (by decide) ?_
      exact W.zret (v := nI 0) hx hb hr (by decide) (fun t ht hW => ⟨_, rfl, Or.inr ⟨rfl, hno⟩, ht⟩) sf_noloc dX2_hasByte_17
    · obtain ⟨k, hk0, rfl⟩ := nI_of c_1
      have hk : k < ln a := Nat.not_le.mp fun q => c_9 (nI_le q (by omega))
      refine lv_iconst (v := nI 1) hx hb dX2_hasByte_12 (by decide) ?_
      refine lv_goto (tgt := 17) hx hb dX2_hasByte_13 (by decide) ?_
      exact W.zret (v := nI 1) hx hb hr (by decide) (fun t ht hW => ⟨_, rfl, Or.inl ⟨rfl, k, hk, rfl⟩, ht⟩) sf_noloc dX2_hasByte_17
theorem sf_hb {k j n : Nat} (hk : k < 2 ^ 31) (hj : j < 2 ^ 31) (hn : n ≤ 16384) (h : ¬ nI n - nI j < nI k) : k + j ≤ n := by
  rw [Int32.lt_iff_toInt_lt] at h
  have e : (nI n - nI j).toInt = (n : Int) - j := by
    rw [Int32.toInt_sub, nI_toInt (by omega), nI_toInt hj]
    exact Int.bmod_eq_of_le (by omega) (by omega)
  rw [e, nI_toInt hk] at h
  omega
set_option maxHeartbeats 4000000 in
set_option maxRecDepth 100000 in
/-- hasBytes -/
theorem c_hasBytes (l : Launch) (dC : Nat → ClassId) (dI : Nat → Nat → Nat) (a0 a1 a2 a3 : Nat) (cB cT : ClassId) (LP : List Nat) (gb : Option Nat) (md ct : Nat) (tb : Nat → Option Nat) (nm tk : Nat → Nat) (oc en : Nat) (fs la : Option Nat) (g : Nat → Int32) (st ln : Nat → Nat) (bf af : Nat → Option Nat) (sz : Nat) (a : Nat) (ha : a ∈ LP) (hln : ln a ≤ 16384) (i n : Int32) : Met l yX2_hasBytes wsX2_hasBytes ({ frames := 0, cells := 0, slots := 0, locals := 0 } : Room) (sf_Pre (dC, dI) vwCl [(cB, .byte), (cT, .object "ByteShelf$Row")] [.ref a, .int i, .int n] (sf_w a0 a1 a2 a3 cB cT LP gb md ct tb nm tk oc en fs la g st ln bf af) sz) (vp_Si (fun r => (r = nI 1 ∧ ∃ k j : Nat, k + j ≤ ln a ∧ i = nI k ∧ n = nI j) ∨ (r = nI 0 ∧ ∀ k j : Nat, k + j ≤ ln a → i = nI k → n ≠ nI j))) 0 0 (fun _ => False) := by
  refine Met.ofW (cc := cX2_hasBytes) (maxL := 3) (ret := (some .boolean)) (by decide) rfl ?_
  intro p e s m args below meth c s₁ B hml hv
  obtain ⟨rfl, hsz, hP, hK, hD0, hN⟩ := hv
  have hx := B.exec
  have hb := B.bytes
  have hr := B.returns
  have hts := atoms_spec (ws := wsX2_hasBytes) B.pre
  have hown : s.vm.findClass RX2 = some m.cls := findClass_of_methodNamed B.named
  have hlocks := B.notSynchronized
  subst hsz
  have hD := hD0.self (sz := s.heap.size)
  generalize hAe : va_A (sf_w a0 a1 a2 a3 cB cT LP gb md ct tb nm tk oc en fs la g st ln bf af) s.heap.size = A at hD ⊢
  have hA : ∀ q : Nat, s.heap.size ≤ q → A q := fun q h => by rw [← hAe]; exact Or.inr h
  have hS : va_S A s.heap s.heap [] := va_S.rf
  have hl := lv_entry ([.ref a, .int i, .int n]) (n := 3) (Nat.le_of_ble_eq_true rfl)
  rw [lg_entry_eq]
  generalize (lg_sl ([.ref a, .int i, .int n]) ++ List.replicate (3 - (lg_sl ([.ref a, .int i, .int n])).length) Slot.unset).toArray = ls at hl ⊢
  have hl : lv_has ls 3 [(0, .ref a), (1, .int i), (2, .int n)] := hl
  refine lv_iload_n hx hb dX2_hasBytes_0 rfl (lv_at hl 1 rfl) ?_
  refine lv_if_lt (tgt := 22) hx hb dX2_hasBytes_1 (by decide) (fun c_1 => ?_) (fun c_1 => ?_)
  · have hno : ∀ k j : Nat, k + j ≤ ln a → i = nI k → n ≠ nI j := fun k j hk q q2 => nI_pos (n := k) (by omega) (by rw [← q]; exact c_1)
    refine lv_iconst (v := nI 0) hx hb dX2_hasBytes_22 (by decide) ?_
    exact W.zret (v := nI 0) hx hb hr (by decide) (fun t ht hW => ⟨_, rfl, Or.inr ⟨rfl, hno⟩, ht⟩) sf_noloc dX2_hasBytes_23
  · refine lv_iload_n hx hb dX2_hasBytes_4 rfl (lv_at hl 2 rfl) ?_
    refine lv_if_lt (tgt := 22) hx hb dX2_hasBytes_5 (by decide) (fun c_5 => ?_) (fun c_5 => ?_)
    · have hno : ∀ k j : Nat, k + j ≤ ln a → i = nI k → n ≠ nI j := fun k j hk q q2 => nI_pos (n := j) (by omega) (by rw [← q2]; exact c_5)
      refine lv_iconst (v := nI 0) hx hb dX2_hasBytes_22 (by decide) ?_
      exact W.zret (v := nI 0) hx hb hr (by decide) (fun t ht hW => ⟨_, rfl, Or.inr ⟨rfl, hno⟩, ht⟩) sf_noloc dX2_hasBytes_23
    · refine lv_iload_n hx hb dX2_hasBytes_8 rfl (lv_at hl 1 rfl) ?_
      refine lv_aload_n hx hb dX2_hasBytes_9 rfl (lv_at hl 0 rfl) ?_
      refine sf_rget (D := (dC, dI)) (ci := 1) (v := .int (nI (ln a))) (C := RX1) (T := TX1) (N := 6) hx hb hts sf_inX1 hown hK hP ha rfl rfl 3 (by decide) (hts _ (sf_mem fl_X2_88 rfl)) (fun _ h9 => h9) rfl dX2_hasBytes_10 ?_
      refine lv_iload_n hx hb dX2_hasBytes_13 rfl (lv_at hl 2 rfl) ?_
      refine lv_isub hx hb dX2_hasBytes_14 ?_
      refine lv_icmp_gt (tgt := 22) hx hb dX2_hasBytes_15 (by decide) (fun c_15 => ?_) (fun c_15 => ?_)
      · have hno : ∀ k j : Nat, k + j ≤ ln a → i = nI k → n ≠ nI j := fun k j hk q q2 => by
          rw [q, q2, pk_sub (by omega)] at c_15
          exact Nat.not_lt.mpr (by omega) ((nI_ltI (by omega) (by omega)).mp c_15)
        refine lv_iconst (v := nI 0) hx hb dX2_hasBytes_22 (by decide) ?_
        exact W.zret (v := nI 0) hx hb hr (by decide) (fun t ht hW => ⟨_, rfl, Or.inr ⟨rfl, hno⟩, ht⟩) sf_noloc dX2_hasBytes_23
      · obtain ⟨k, hk0, rfl⟩ := nI_of c_1
        obtain ⟨j, hj0, rfl⟩ := nI_of c_5
        have hk : k + j ≤ ln a := sf_hb hk0 hj0 hln c_15
        refine lv_iconst (v := nI 1) hx hb dX2_hasBytes_18 (by decide) ?_
        refine lv_goto (tgt := 23) hx hb dX2_hasBytes_19 (by decide) ?_
        exact W.zret (v := nI 1) hx hb hr (by decide) (fun t ht hW => ⟨_, rfl, Or.inl ⟨rfl, k, j, hk, rfl, rfl⟩, ht⟩) sf_noloc dX2_hasBytes_23
set_option maxHeartbeats 4000000 in
set_option maxRecDepth 100000 in
/-- find(row): the row of that number, if it is taken -/
theorem c_find (l : Launch) (dC : Nat → ClassId) (dI : Nat → Nat → Nat) (a0 a1 a2 a3 : Nat) (cB cT : ClassId) (LP : List Nat) (gb : Option Nat) (md ct : Nat) (tb : Nat → Option Nat) (nm tk : Nat → Nat) (oc en : Nat) (fs la : Option Nat) (g : Nat → Int32) (st ln : Nat → Nat) (bf af : Nat → Option Nat) (sz : Nat) (row : Int32) (hmd : md ≤ 20000) (htb : ∀ k, k < md → ∃ a, a ∈ LP ∧ tb k = some a) (htk : ∀ a, a ∈ LP → tk a ≤ 1) : Met l yX2_find wsX2_find ({ frames := 0, cells := 0, slots := 0, locals := 0 } : Room) (sf_Pre (dC, dI) vwCl [(cB, .byte), (cT, .object "ByteShelf$Row")] [.ref a0, .int row] (sf_w a0 a1 a2 a3 cB cT LP gb md ct tb nm tk oc en fs la g st ln bf af) sz) (va_Sq (fun r => (∃ k a : Nat, k < md ∧ row = nI k ∧ tb k = some a ∧ a ∈ LP ∧ tk a = 1 ∧ r = some a) ∨ (r = none ∧ ∀ k a : Nat, k < md → row = nI k → tb k = some a → tk a = 0))) 0 0 (fun _ => False) := by
  refine Met.ofW (cc := cX2_find) (maxL := 3) (ret := (some (.object "ByteShelf$Row"))) (by decide) rfl ?_
  intro p e s m args below meth c s₁ B hml hv
  obtain ⟨rfl, hsz, hP, hK, hD0, hN⟩ := hv
  have hx := B.exec
  have hb := B.bytes
  have hr := B.returns
  have hts := atoms_spec (ws := wsX2_find) B.pre
  have hown : s.vm.findClass RX2 = some m.cls := findClass_of_methodNamed B.named
  have hlocks := B.notSynchronized
  subst hsz
  have hD := hD0.self (sz := s.heap.size)
  generalize hAe : va_A (sf_w a0 a1 a2 a3 cB cT LP gb md ct tb nm tk oc en fs la g st ln bf af) s.heap.size = A at hD ⊢
  have hA : ∀ q : Nat, s.heap.size ≤ q → A q := fun q h => by rw [← hAe]; exact Or.inr h
  have hS : va_S A s.heap s.heap [] := va_S.rf
  have hl := lv_entry ([.ref a0, .int row]) (n := 3) (Nat.le_of_ble_eq_true rfl)
  rw [lg_entry_eq]
  generalize (lg_sl ([.ref a0, .int row]) ++ List.replicate (3 - (lg_sl ([.ref a0, .int row])).length) Slot.unset).toArray = ls at hl ⊢
  have hl : lv_has ls 3 [(0, .ref a0), (1, .int row)] := hl
  refine lv_iload_n hx hb dX2_find_0 rfl (lv_at hl 1 rfl) ?_
  refine lv_if_lt (tgt := 12) hx hb dX2_find_1 (by decide) (fun c_1 => ?_) (fun c_1 => ?_)
  · have hno : ∀ k a : Nat, k < md → row = nI k → tb k = some a → tk a = 0 := fun k a hk q _ => absurd (by rw [q] at c_1; exact c_1) (nI_pos (n := k) (by omega))
    refine lv_null hx hb dX2_find_12 ?_
    exact W.aret (v := va_rf none) hx hb hr (Or.inl ⟨_, rfl⟩) (va_rf_or _) (fun t ht hW => ⟨_, rfl, Or.inr ⟨rfl, hno⟩, ht⟩) sf_noloc dX2_find_13
  · obtain ⟨k, hk0, rfl⟩ := nI_of c_1
    refine lv_iload_n hx hb dX2_find_4 rfl (lv_at hl 1 rfl) ?_
    refine lv_aload_n hx hb dX2_find_5 rfl (lv_at hl 0 rfl) ?_
    refine va_get (D := (dC, dI)) (ci := 2) (v := .int (nI md)) (C := RX2) (T := TX2) (N := 5) hx hb hts sf_inX2 hown hK hP 0 rfl rfl 3 (by decide) (hts _ (sf_mem fl_X2_26 rfl)) (fun _ h9 => h9) rfl dX2_find_6 ?_
    refine sf_icmp_lt (tgt := 14) hx hb (by omega) (by omega) dX2_find_9 (by decide) (fun c_9 => ?_) (fun c_9 => ?_)
    · obtain ⟨a, ha, hta⟩ := htb k c_9
      have htka := htk a ha
      refine lv_aload_n hx hb dX2_find_14 rfl (lv_at hl 0 rfl) ?_
      refine va_get (D := (dC, dI)) (ci := 2) (v := .ref a3) (C := RX2) (T := TX2) (N := 5) hx hb hts sf_inX2 hown hK hP 0 rfl rfl 1 (by decide) (hts _ (sf_mem fl_X2_18 rfl)) (fun _ h9 => h9) rfl dX2_find_15 ?_
      refine lv_iload_n hx hb dX2_find_18 rfl (lv_at hl 1 rfl) ?_
      refine sf_aald hx hb hK hP 3 1 rfl rfl (by omega) (by decide) dX2_find_19 ?_
      rw [hta]
      refine lv_astore_n (lv' := [(2, .ref a), (0, .ref a0), (1, .int (nI k))]) hx hb dX2_find_20 rfl hl (by decide) rfl (fun ls hl => ?_)
      refine lv_aload_n hx hb dX2_find_21 rfl (lv_at hl 0 rfl) ?_
      refine lv_ifnull hx hb dX2_find_22 ?_
      refine lv_aload_n hx hb dX2_find_25 rfl (lv_at hl 0 rfl) ?_
      refine sf_rget (D := (dC, dI)) (ci := 1) (v := .int (nI (tk a))) (C := RX1) (T := TX1) (N := 6) hx hb hts sf_inX1 hown hK hP ha rfl rfl 1 (by decide) (hts _ (sf_mem fl_X2_52 rfl)) (fun _ h9 => h9) rfl dX2_find_26 ?_
      refine sf_if_eq (tgt := 36) hx hb (by omega) dX2_find_29 (by decide) (fun c_29 => ?_) (fun c_29 => ?_)
      · have hno : ∀ k2 a2 : Nat, k2 < md → nI k = nI k2 → tb k2 = some a2 → tk a2 = 0 := fun k2 a2 hk q q2 => by
          have e := (nI_eq hk0 (by omega)).mp q
          subst e
          rw [hta] at q2
          cases q2
          exact c_29
        refine lv_null hx hb dX2_find_36 ?_
        exact W.aret (v := va_rf none) hx hb hr (Or.inl ⟨_, rfl⟩) (va_rf_or _) (fun t ht hW => ⟨_, rfl, Or.inr ⟨rfl, hno⟩, ht⟩) sf_noloc dX2_find_37
      · refine lv_aload_n hx hb dX2_find_32 rfl (lv_at hl 0 rfl) ?_
        refine lv_goto (tgt := 37) hx hb dX2_find_33 (by decide) ?_
        exact W.aret (v := va_rf (some a)) hx hb hr (Or.inl ⟨_, rfl⟩) (va_rf_or _) (fun t ht hW => ⟨_, rfl, Or.inl ⟨k, a, c_9, rfl, hta, ha, by omega, rfl⟩, ht⟩) sf_noloc dX2_find_37
    · have hno : ∀ k2 a : Nat, k2 < md → nI k = nI k2 → tb k2 = some a → tk a = 0 := fun k2 a hk q _ => by
        have := (nI_eq hk0 (by omega)).mp q
        omega
      refine lv_null hx hb dX2_find_12 ?_
      exact W.aret (v := va_rf none) hx hb hr (Or.inl ⟨_, rfl⟩) (va_rf_or _) (fun t ht hW => ⟨_, rfl, Or.inr ⟨rfl, hno⟩, ht⟩) sf_noloc dX2_find_13
set_option maxHeartbeats 4000000 in
set_option maxRecDepth 100000 in
/-- hasRoomFor(w) -/
theorem c_hasRoomFor (l : Launch) (dC : Nat → ClassId) (dI : Nat → Nat → Nat) (a0 a1 a2 a3 : Nat) (cB cT : ClassId) (LP : List Nat) (gb : Option Nat) (md ct : Nat) (tb : Nat → Option Nat) (nm tk : Nat → Nat) (oc en : Nat) (fs la : Option Nat) (g : Nat → Int32) (st ln : Nat → Nat) (bf af : Nat → Option Nat) (sz : Nat) (w : Nat) (hoc : oc ≤ 400000) (hw : w ≤ 400000) : Met l yX0_hasRoomFor wsX0_hasRoomFor ({ frames := 0, cells := 0, slots := 0, locals := 0 } : Room) (sf_Pre (dC, dI) vwCl [(cB, .byte), (cT, .object "ByteShelf$Row")] [.ref a1, .int (nI w)] (sf_w a0 a1 a2 a3 cB cT LP gb md ct tb nm tk oc en fs la g st ln bf af) sz) (vp_Si (fun r => (r = nI 1 ∧ oc + w ≤ 400000) ∨ (r = nI 0 ∧ 400000 < oc + w))) 0 0 (fun _ => False) := by
  refine Met.ofW (cc := cX0_hasRoomFor) (maxL := 2) (ret := (some .boolean)) (by decide) rfl ?_
  intro p e s m args below meth c s₁ B hml hv
  obtain ⟨rfl, hsz, hP, hK, hD0, hN⟩ := hv
  have hx := B.exec
  have hb := B.bytes
  have hr := B.returns
  have hts := atoms_spec (ws := wsX0_hasRoomFor) B.pre
  have hown : s.vm.findClass RX0 = some m.cls := findClass_of_methodNamed B.named
  have hlocks := B.notSynchronized
  subst hsz
  have hD := hD0.self (sz := s.heap.size)
  generalize hAe : va_A (sf_w a0 a1 a2 a3 cB cT LP gb md ct tb nm tk oc en fs la g st ln bf af) s.heap.size = A at hD ⊢
  have hA : ∀ q : Nat, s.heap.size ≤ q → A q := fun q h => by rw [← hAe]; exact Or.inr h
  have hS : va_S A s.heap s.heap [] := va_S.rf
  have hl := lv_entry ([.ref a1, .int (nI w)]) (n := 2) (Nat.le_of_ble_eq_true rfl)
  rw [lg_entry_eq]
  generalize (lg_sl ([.ref a1, .int (nI w)]) ++ List.replicate (2 - (lg_sl ([.ref a1, .int (nI w)])).length) Slot.unset).toArray = ls at hl ⊢
  have hl : lv_has ls 2 [(0, .ref a1), (1, .int (nI w))] := hl
  refine lv_iload_n hx hb dX0_hasRoomFor_0 rfl (lv_at hl 1 rfl) ?_
  refine lv_ldc (v := nI 400000) hx hb hown (hts _ (sf_mem cn_X0_9 rfl)) dX0_hasRoomFor_1 ?_
  refine lv_aload_n hx hb dX0_hasRoomFor_3 rfl (lv_at hl 0 rfl) ?_
  refine va_get (D := (dC, dI)) (ci := 0) (v := .int (nI oc)) (C := RX0) (T := TX0) (N := 5) hx hb hts sf_inX0 hown hK hP 1 rfl rfl 1 (by decide) (hts _ (sf_mem fl_X0_16 rfl)) (fun _ h9 => h9) rfl dX0_hasRoomFor_4 ?_
  refine sf_isub hx hb (by omega) dX0_hasRoomFor_7 ?_
  refine sf_icmp_gt (tgt := 15) hx hb (by omega) (by omega) dX0_hasRoomFor_8 (by decide) (fun c_8 => ?_) (fun c_8 => ?_)
  · refine lv_iconst (v := nI 0) hx hb dX0_hasRoomFor_15 (by decide) ?_
    exact W.zret (v := nI 0) hx hb hr (by decide) (fun t ht hW => ⟨_, rfl, Or.inr ⟨rfl, by omega⟩, ht⟩) sf_noloc dX0_hasRoomFor_16
  · refine lv_iconst (v := nI 1) hx hb dX0_hasRoomFor_11 (by decide) ?_
    refine lv_goto (tgt := 16) hx hb dX0_hasRoomFor_12 (by decide) ?_
    exact W.zret (v := nI 1) hx hb hr (by decide) (fun t ht hW => ⟨_, rfl, Or.inl ⟨rfl, by omega⟩, ht⟩) sf_noloc dX0_hasRoomFor_16
