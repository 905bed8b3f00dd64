/-! the memory's links; Arrays.fill -/
set_option maxHeartbeats 4000000 in
set_option maxRecDepth 100000 in
/-- append(row): to the end of the chain -/
theorem c_append (l : Launch) (dC : Nat → ClassId) (dI : Nat → Nat → Nat) (a0 a1 a2 a3 : Nat) (cB cT : ClassId) (LP : List Nat) (gb : Option Nat) (md ct : Nat) (tb : Nat → Option Nat) (nm tk : Nat → Nat) (oc en : Nat) (fs la : Option Nat) (g : Nat → Int32) (st ln : Nat → Nat) (bf af : Nat → Option Nat) (sz : Nat) (a : Nat) (ha : a ∈ LP) (hla : ∀ z, la = some z → z ∈ LP) : Met l yX0_append wsX0_append ({ frames := 0, cells := 0, slots := 0, locals := 0 } : Room) (sf_Pre (dC, dI) vwCl [(cB, .byte), (cT, .object "ByteShelf$Row")] [.ref a1, .ref a] (sf_w a0 a1 a2 a3 cB cT LP gb md ct tb nm tk oc en fs la g st ln bf af) sz) (va_Qv (fun _ => True) (sf_E (dC, dI) vwCl (va_A (sf_w a0 a1 a2 a3 cB cT LP gb md ct tb nm tk oc en fs la g st ln bf af) sz) (fun (u : Unit) => sf_w a0 a1 a2 a3 cB cT LP gb md ct tb nm tk oc en (sf_pk la (some a) fs) (some a) g st ln (va_up bf a la) (sf_apA af la a))) (va_A (sf_w a0 a1 a2 a3 cB cT LP gb md ct tb nm tk oc en fs la g st ln bf af) sz)) 0 0 (va_A (sf_w a0 a1 a2 a3 cB cT LP gb md ct tb nm tk oc en fs la g st ln bf af) sz) := by
  refine Met.ofW (cc := cX0_append) (maxL := 2) (ret := none) (by decide) rfl ?_
  intro p e s m args below meth c s₁ B hml hv
  obtain ⟨rfl, hsz, hP, hK, hD0, hN⟩ := hv
  have hx := B.exec
  have hb := B.bytes
  have hr := B.returns
  have hts := atoms_spec (ws := wsX0_append) B.pre
  have hown : s.vm.findClass RX0 = some m.cls := findClass_of_methodNamed B.named
  have hlocks := B.notSynchronized
  subst hsz
  have hD := hD0.self (sz := s.heap.size)
  generalize hAe : va_A (sf_w a0 a1 a2 a3 cB cT LP gb md ct tb nm tk oc en fs la g st ln bf af) s.heap.size = A at hD ⊢
  have hA : ∀ q : Nat, s.heap.size ≤ q → A q := fun q h => by rw [← hAe]; exact Or.inr h
  have hS : va_S A s.heap s.heap [] := va_S.rf
  have hl := lv_entry ([.ref a1, .ref a]) (n := 2) (Nat.le_of_ble_eq_true rfl)
  rw [lg_entry_eq]
  generalize (lg_sl ([.ref a1, .ref a]) ++ List.replicate (2 - (lg_sl ([.ref a1, .ref a])).length) Slot.unset).toArray = ls at hl ⊢
  have hl : lv_has ls 2 [(0, .ref a1), (1, .ref a)] := hl
  refine lv_aload_n hx hb dX0_append_0 rfl (lv_at hl 1 rfl) ?_
  refine lv_aload_n hx hb dX0_append_1 rfl (lv_at hl 0 rfl) ?_
  refine va_get (D := (dC, dI)) (ci := 0) (v := va_rf la) (C := RX0) (T := TX0) (N := 5) hx hb hts sf_inX0 hown hK hP 1 rfl rfl 4 (by decide) (hts _ (sf_mem fl_X0_27 rfl)) (fun _ h9 => h9) rfl dX0_append_2 ?_
  refine sf_rput (D := (dC, dI)) (ci := 1) (v := va_rf la) (ty := .object "ByteShelf$Row") (C := RX1) (T := TX1) (N := 6) hx hb hts sf_inX1 tyX1 tyX1_ok nmX1 hown hK hP hD hS ha rfl rfl 4 (by decide) (hts _ (sf_mem fl_X0_78 rfl)) (fun _ h9 => h9) rfl (by decide +kernel) (sf_nq _) (sf_fq _) (Nat.le_of_ble_eq_true rfl) (sf_rw_bf la) dX0_append_5 (fun H locs hP hD hS => ?_)
  have hP : va_P (dC, dI) vwCl (sf_w a0 a1 a2 a3 cB cT LP gb md ct tb nm tk oc en fs la g st ln (va_up bf a la) af) H := hP
  have hD : va_D A (sf_w a0 a1 a2 a3 cB cT LP gb md ct tb nm tk oc en fs la g st ln (va_up bf a la) af) := hD
  refine lv_aload_n hx hb dX0_append_8 rfl (lv_at hl 1 rfl) ?_
  refine lv_null hx hb dX0_append_9 ?_
  refine sf_rput (D := (dC, dI)) (ci := 1) (v := .null) (ty := .object "ByteShelf$Row") (C := RX1) (T := TX1) (N := 6) hx hb hts sf_inX1 tyX1 tyX1_ok nmX1 hown hK hP hD hS ha rfl rfl 5 (by decide) (hts _ (sf_mem fl_X0_75 rfl)) (fun _ h9 => h9) rfl (by decide +kernel) rfl rfl (Nat.le_of_ble_eq_true rfl) (sf_rw_af none) dX0_append_10 (fun H locs hP hD hS => ?_)
  have hP : va_P (dC, dI) vwCl (sf_w a0 a1 a2 a3 cB cT LP gb md ct tb nm tk oc en fs la g st ln (va_up bf a la) (va_up af a none)) H := hP
  have hD : va_D A (sf_w a0 a1 a2 a3 cB cT LP gb md ct tb nm tk oc en fs la g st ln (va_up bf a la) (va_up af a none)) := hD
  refine lv_aload_n hx hb dX0_append_13 rfl (lv_at hl 0 rfl) ?_
  refine va_get (D := (dC, dI)) (ci := 0) (v := va_rf la) (C := RX0) (T := TX0) (N := 5) hx hb hts sf_inX0 hown hK hP 1 rfl rfl 4 (by decide) (hts _ (sf_mem fl_X0_27 rfl)) (fun _ h9 => h9) rfl dX0_append_14 ?_
  refine sf_ifnonnull (tgt := 28) hx hb dX0_append_17 (by decide) (fun z_17 e_17 => ?_) (fun e_17 => ?_)
  · subst e_17
    have hl : lv_has ls 2 [(0, .ref a1), (1, .ref a)] := hl
    refine lv_aload_n hx hb dX0_append_28 rfl (lv_at hl 0 rfl) ?_
    refine va_get (D := (dC, dI)) (ci := 0) (v := .ref z_17) (C := RX0) (T := TX0) (N := 5) hx hb hts sf_inX0 hown hK hP 1 rfl rfl 4 (by decide) (hts _ (sf_mem fl_X0_27 rfl)) (fun _ h9 => h9) rfl dX0_append_29 ?_
    refine lv_aload_n hx hb dX0_append_32 rfl (lv_at hl 1 rfl) ?_
    refine sf_rput (D := (dC, dI)) (ci := 1) (v := .ref a) (ty := .object "ByteShelf$Row") (C := RX1) (T := TX1) (N := 6) hx hb hts sf_inX1 tyX1 tyX1_ok nmX1 hown hK hP hD hS (hla _ rfl) rfl rfl 5 (by decide) (hts _ (sf_mem fl_X0_75 rfl)) (fun _ h9 => h9) rfl (by decide +kernel) rfl rfl (Nat.le_of_ble_eq_true rfl) (sf_rw_af (some a)) dX0_append_33 (fun H locs hP hD hS => ?_)
    have hP : va_P (dC, dI) vwCl (sf_w a0 a1 a2 a3 cB cT LP gb md ct tb nm tk oc en fs (some z_17) g st ln (va_up bf a (some z_17)) (va_up (va_up af a none) z_17 (some a))) H := hP
    have hD : va_D A (sf_w a0 a1 a2 a3 cB cT LP gb md ct tb nm tk oc en fs (some z_17) g st ln (va_up bf a (some z_17)) (va_up (va_up af a none) z_17 (some a))) := hD
    refine lv_aload_n hx hb dX0_append_36 rfl (lv_at hl 0 rfl) ?_
    refine lv_aload_n hx hb dX0_append_37 rfl (lv_at hl 1 rfl) ?_
    refine va_put (D := (dC, dI)) (ci := 0) (v := .ref a) (ty := .object "ByteShelf$Row") (C := RX0) (T := TX0) (N := 5) hx hb hts sf_inX0 tyX0 tyX0_ok nmX0 hown hK hP hD hS 1 rfl rfl 4 (by decide) (hts _ (sf_mem fl_X0_27 rfl)) (fun _ h9 => h9) rfl (by decide +kernel) rfl rfl (Nat.le_of_ble_eq_true rfl) dX0_append_38 (fun H locs hP hD hS => ?_)
    have hP : va_P (dC, dI) vwCl (sf_w a0 a1 a2 a3 cB cT LP gb md ct tb nm tk oc en fs (some a) g st ln (va_up bf a (some z_17)) (va_up (va_up af a none) z_17 (some a))) H := hP
    have hD : va_D A (sf_w a0 a1 a2 a3 cB cT LP gb md ct tb nm tk oc en fs (some a) g st ln (va_up bf a (some z_17)) (va_up (va_up af a none) z_17 (some a))) := hD
    exact W.vret hx hb hr (fun t ht hW => ⟨⟨(), rfl, trivial, by rw [ht]; exact hP, hD⟩, hS.F ht⟩) hS.2.2 dX0_append_41
  · subst e_17
    have hl : lv_has ls 2 [(0, .ref a1), (1, .ref a)] := hl
    refine lv_aload_n hx hb dX0_append_20 rfl (lv_at hl 0 rfl) ?_
    refine lv_aload_n hx hb dX0_append_21 rfl (lv_at hl 1 rfl) ?_
    refine va_put (D := (dC, dI)) (ci := 0) (v := .ref a) (ty := .object "ByteShelf$Row") (C := RX0) (T := TX0) (N := 5) hx hb hts sf_inX0 tyX0 tyX0_ok nmX0 hown hK hP hD hS 1 rfl rfl 3 (by decide) (hts _ (sf_mem fl_X0_23 rfl)) (fun _ h9 => h9) rfl (by decide +kernel) rfl rfl (Nat.le_of_ble_eq_true rfl) dX0_append_22 (fun H locs hP hD hS => ?_)
    have hP : va_P (dC, dI) vwCl (sf_w a0 a1 a2 a3 cB cT LP gb md ct tb nm tk oc en (some a) none g st ln (va_up bf a none) (va_up af a none)) H := hP
    have hD : va_D A (sf_w a0 a1 a2 a3 cB cT LP gb md ct tb nm tk oc en (some a) none g st ln (va_up bf a none) (va_up af a none)) := hD
    refine lv_goto (tgt := 36) hx hb dX0_append_25 (by decide) ?_
    refine lv_aload_n hx hb dX0_append_36 rfl (lv_at hl 0 rfl) ?_
    refine lv_aload_n hx hb dX0_append_37 rfl (lv_at hl 1 rfl) ?_
    refine va_put (D := (dC, dI)) (ci := 0) (v := .ref a) (ty := .object "ByteShelf$Row") (C := RX0) (T := TX0) (N := 5) hx hb hts sf_inX0 tyX0 tyX0_ok nmX0 hown hK hP hD hS 1 rfl rfl 4 (by decide) (hts _ (sf_mem fl_X0_27 rfl)) (fun _ h9 => h9) rfl (by decide +kernel) rfl rfl (Nat.le_of_ble_eq_true rfl) dX0_append_38 (fun H locs hP hD hS => ?_)
    have hP : va_P (dC, dI) vwCl (sf_w a0 a1 a2 a3 cB cT LP gb md ct tb nm tk oc en (some a) (some a) g st ln (va_up bf a none) (va_up af a none)) H := hP
    have hD : va_D A (sf_w a0 a1 a2 a3 cB cT LP gb md ct tb nm tk oc en (some a) (some a) g st ln (va_up bf a none) (va_up af a none)) := hD
    exact W.vret hx hb hr (fun t ht hW => ⟨⟨(), rfl, trivial, by rw [ht]; exact hP, hD⟩, hS.F ht⟩) hS.2.2 dX0_append_41
set_option maxHeartbeats 4000000 in
set_option maxRecDepth 100000 in
/-- unlink(row): out of the chain -/
theorem c_unlink (l : Launch) (dC : Nat → ClassId) (dI : Nat → Nat → Nat) (a0 a1 a2 a3 : Nat) (cB cT : ClassId) (LP : List Nat) (gb : Option Nat) (md ct : Nat) (tb : Nat → Option Nat) (nm tk : Nat → Nat) (oc en : Nat) (fs la : Option Nat) (g : Nat → Int32) (st ln : Nat → Nat) (bf af : Nat → Option Nat) (sz : Nat) (a : Nat) (ha : a ∈ LP) (rb rn : Option Nat) (hrb : bf a = rb) (hrn : af a = rn) (hb1 : ∀ z, rb = some z → z ∈ LP) (hn1 : ∀ z, rn = some z → z ∈ LP) : Met l yX0_unlink wsX0_unlink ({ frames := 0, cells := 0, slots := 0, locals := 0 } : Room) (sf_Pre (dC, dI) vwCl [(cB, .byte), (cT, .object "ByteShelf$Row")] [.ref a1, .ref a] (sf_w a0 a1 a2 a3 cB cT LP gb md ct tb nm tk oc en fs la g st ln bf af) sz) (va_Qv (fun _ => True) (sf_E (dC, dI) vwCl (va_A (sf_w a0 a1 a2 a3 cB cT LP gb md ct tb nm tk oc en fs la g st ln bf af) sz) (fun (u : Unit) => sf_w a0 a1 a2 a3 cB cT LP gb md ct tb nm tk oc en (sf_pk rb rn fs) (sf_pk rn rb la) g st ln (sf_unA bf rn rb) (sf_unA af rb rn))) (va_A (sf_w a0 a1 a2 a3 cB cT LP gb md ct tb nm tk oc en fs la g st ln bf af) sz)) 0 0 (va_A (sf_w a0 a1 a2 a3 cB cT LP gb md ct tb nm tk oc en fs la g st ln bf af) sz) := by
  refine Met.ofW (cc := cX0_unlink) (maxL := 4) (ret := none) (by decide) rfl ?_
  intro p e s m args below meth c s₁ B hml hv
  obtain ⟨rfl, hsz, hP, hK, hD0, hN⟩ := hv
  have hx := B.exec
  have hb := B.bytes
  have hr := B.returns
  have hts := atoms_spec (ws := wsX0_unlink) B.pre
  have hown : s.vm.findClass RX0 = some m.cls := findClass_of_methodNamed B.named
  have hlocks := B.notSynchronized
  subst hsz
  have hD := hD0.self (sz := s.heap.size)
  generalize hAe : va_A (sf_w a0 a1 a2 a3 cB cT LP gb md ct tb nm tk oc en fs la g st ln bf af) s.heap.size = A at hD ⊢
  have hA : ∀ q : Nat, s.heap.size ≤ q → A q := fun q h => by rw [← hAe]; exact Or.inr h
  have hS : va_S A s.heap s.heap [] := va_S.rf
  have hl := lv_entry ([.ref a1, .ref a]) (n := 4) (Nat.le_of_ble_eq_true rfl)
  rw [lg_entry_eq]
  generalize (lg_sl ([.ref a1, .ref a]) ++ List.replicate (4 - (lg_sl ([.ref a1, .ref a])).length) Slot.unset).toArray = ls at hl ⊢
  have hl : lv_has ls 4 [(0, .ref a1), (1, .ref a)] := hl
  refine lv_aload_n hx hb dX0_unlink_0 rfl (lv_at hl 1 rfl) ?_
  refine sf_rget (D := (dC, dI)) (ci := 1) (v := va_rf rb) (C := RX1) (T := TX1) (N := 6) hx hb hts sf_inX1 hown hK hP ha rfl rfl 4 (by decide) (hts _ (sf_mem fl_X0_78 rfl)) (fun _ h9 => h9) (congrArg (fun z => some (va_rf z)) hrb) dX0_unlink_1 ?_
  refine sf_astore_n (lv' := [(2, va_rf rb), (0, .ref a1), (1, .ref a)]) hx hb dX0_unlink_4 rfl hl (by decide) rfl (fun ls hl => ?_)
  refine lv_aload_n hx hb dX0_unlink_5 rfl (lv_at hl 2 rfl) ?_
  refine sf_rget (D := (dC, dI)) (ci := 1) (v := va_rf rn) (C := RX1) (T := TX1) (N := 6) hx hb hts sf_inX1 hown hK hP ha rfl rfl 5 (by decide) (hts _ (sf_mem fl_X0_75 rfl)) (fun _ h9 => h9) (congrArg (fun z => some (va_rf z)) hrn) dX0_unlink_6 ?_
  refine sf_astore_n (lv' := [(3, va_rf rn), (2, va_rf rb), (0, .ref a1), (1, .ref a)]) hx hb dX0_unlink_9 rfl hl (by decide) (by cases rb <;> rfl) (fun ls hl => ?_)
  refine sf_aload_n hx hb dX0_unlink_10 rfl (lv_at hl 1 rfl) ?_
  refine sf_ifnonnull (tgt := 22) hx hb dX0_unlink_11 (by decide) (fun z_11 e_11 => ?_) (fun e_11 => ?_)
  · subst e_11
    have hl : lv_has ls 4 [(3, va_rf rn), (2, .ref z_11), (0, .ref a1), (1, .ref a)] := hl
    refine lv_aload_n hx hb dX0_unlink_22 rfl (lv_at hl 1 rfl) ?_
    refine sf_aload_n hx hb dX0_unlink_23 rfl (lv_at hl 0 rfl) ?_
    refine sf_rput (D := (dC, dI)) (ci := 1) (v := va_rf rn) (ty := .object "ByteShelf$Row") (C := RX1) (T := TX1) (N := 6) hx hb hts sf_inX1 tyX1 tyX1_ok nmX1 hown hK hP hD hS (hb1 _ rfl) rfl rfl 5 (by decide) (hts _ (sf_mem fl_X0_75 rfl)) (fun _ h9 => h9) rfl (by decide +kernel) (sf_nq _) (sf_fq _) (Nat.le_of_ble_eq_true rfl) (sf_rw_af rn) dX0_unlink_24 (fun H locs hP hD hS => ?_)
    have hP : va_P (dC, dI) vwCl (sf_w a0 a1 a2 a3 cB cT LP gb md ct tb nm tk oc en fs la g st ln bf (va_up af z_11 rn)) H := hP
    have hD : va_D A (sf_w a0 a1 a2 a3 cB cT LP gb md ct tb nm tk oc en fs la g st ln bf (va_up af z_11 rn)) := hD
    refine sf_aload_n hx hb dX0_unlink_27 rfl (lv_at hl 0 rfl) ?_
    refine sf_ifnonnull (tgt := 39) hx hb dX0_unlink_28 (by decide) (fun z_28 e_28 => ?_) (fun e_28 => ?_)
    · subst e_28
      have hl : lv_has ls 4 [(3, .ref z_28), (2, .ref z_11), (0, .ref a1), (1, .ref a)] := hl
      refine lv_aload_n hx hb dX0_unlink_39 rfl (lv_at hl 0 rfl) ?_
      refine lv_aload_n hx hb dX0_unlink_40 rfl (lv_at hl 1 rfl) ?_
      refine sf_rput (D := (dC, dI)) (ci := 1) (v := .ref z_11) (ty := .object "ByteShelf$Row") (C := RX1) (T := TX1) (N := 6) hx hb hts sf_inX1 tyX1 tyX1_ok nmX1 hown hK hP hD hS (hn1 _ rfl) rfl rfl 4 (by decide) (hts _ (sf_mem fl_X0_78 rfl)) (fun _ h9 => h9) rfl (by decide +kernel) rfl rfl (Nat.le_of_ble_eq_true rfl) (sf_rw_bf (some z_11)) dX0_unlink_41 (fun H locs hP hD hS => ?_)
      have hP : va_P (dC, dI) vwCl (sf_w a0 a1 a2 a3 cB cT LP gb md ct tb nm tk oc en fs la g st ln (va_up bf z_28 (some z_11)) (va_up af z_11 (some z_28))) H := hP
      have hD : va_D A (sf_w a0 a1 a2 a3 cB cT LP gb md ct tb nm tk oc en fs la g st ln (va_up bf z_28 (some z_11)) (va_up af z_11 (some z_28))) := hD
      exact W.vret hx hb hr (fun t ht hW => ⟨⟨(), rfl, trivial, by rw [ht]; exact hP, hD⟩, hS.F ht⟩) hS.2.2 dX0_unlink_44
    · subst e_28
      have hl : lv_has ls 4 [(3, .null), (2, .ref z_11), (0, .ref a1), (1, .ref a)] := hl
      refine lv_aload_n hx hb dX0_unlink_31 rfl (lv_at hl 2 rfl) ?_
      refine lv_aload_n hx hb dX0_unlink_32 rfl (lv_at hl 1 rfl) ?_
      refine va_put (D := (dC, dI)) (ci := 0) (v := .ref z_11) (ty := .object "ByteShelf$Row") (C := RX0) (T := TX0) (N := 5) hx hb hts sf_inX0 tyX0 tyX0_ok nmX0 hown hK hP hD hS 1 rfl rfl 4 (by decide) (hts _ (sf_mem fl_X0_27 rfl)) (fun _ h9 => h9) rfl (by decide +kernel) rfl rfl (Nat.le_of_ble_eq_true rfl) dX0_unlink_33 (fun H locs hP hD hS => ?_)
      have hP : va_P (dC, dI) vwCl (sf_w a0 a1 a2 a3 cB cT LP gb md ct tb nm tk oc en fs (some z_11) g st ln bf (va_up af z_11 none)) H := hP
      have hD : va_D A (sf_w a0 a1 a2 a3 cB cT LP gb md ct tb nm tk oc en fs (some z_11) g st ln bf (va_up af z_11 none)) := hD
      refine lv_goto (tgt := 44) hx hb dX0_unlink_36 (by decide) ?_
      exact W.vret hx hb hr (fun t ht hW => ⟨⟨(), rfl, trivial, by rw [ht]; exact hP, hD⟩, hS.F ht⟩) hS.2.2 dX0_unlink_44
  · subst e_11
    have hl : lv_has ls 4 [(3, va_rf rn), (2, .null), (0, .ref a1), (1, .ref a)] := hl
    refine lv_aload_n hx hb dX0_unlink_14 rfl (lv_at hl 2 rfl) ?_
    refine sf_aload_n hx hb dX0_unlink_15 rfl (lv_at hl 0 rfl) ?_
    refine va_put (D := (dC, dI)) (ci := 0) (v := va_rf rn) (ty := .object "ByteShelf$Row") (C := RX0) (T := TX0) (N := 5) hx hb hts sf_inX0 tyX0 tyX0_ok nmX0 hown hK hP hD hS 1 rfl rfl 3 (by decide) (hts _ (sf_mem fl_X0_23 rfl)) (fun _ h9 => h9) rfl (by decide +kernel) (sf_nq _) (sf_fq _) (Nat.le_of_ble_eq_true rfl) dX0_unlink_16 (fun H locs hP hD hS => ?_)
    have hP : va_P (dC, dI) vwCl (sf_w a0 a1 a2 a3 cB cT LP gb md ct tb nm tk oc en rn la g st ln bf af) H := hP
    have hD : va_D A (sf_w a0 a1 a2 a3 cB cT LP gb md ct tb nm tk oc en rn la g st ln bf af) := hD
    refine lv_goto (tgt := 27) hx hb dX0_unlink_19 (by decide) ?_
    refine sf_aload_n hx hb dX0_unlink_27 rfl (lv_at hl 0 rfl) ?_
    refine sf_ifnonnull (tgt := 39) hx hb dX0_unlink_28 (by decide) (fun z_28 e_28 => ?_) (fun e_28 => ?_)
    · subst e_28
      have hl : lv_has ls 4 [(3, .ref z_28), (2, .null), (0, .ref a1), (1, .ref a)] := hl
      refine lv_aload_n hx hb dX0_unlink_39 rfl (lv_at hl 0 rfl) ?_
      refine lv_aload_nN hx hb dX0_unlink_40 rfl (lv_at hl 1 rfl) ?_
      refine sf_rput (D := (dC, dI)) (ci := 1) (v := .null) (ty := .object "ByteShelf$Row") (C := RX1) (T := TX1) (N := 6) hx hb hts sf_inX1 tyX1 tyX1_ok nmX1 hown hK hP hD hS (hn1 _ rfl) rfl rfl 4 (by decide) (hts _ (sf_mem fl_X0_78 rfl)) (fun _ h9 => h9) rfl (by decide +kernel) rfl rfl (Nat.le_of_ble_eq_true rfl) (sf_rw_bf none) dX0_unlink_41 (fun H locs hP hD hS => ?_)
      have hP : va_P (dC, dI) vwCl (sf_w a0 a1 a2 a3 cB cT LP gb md ct tb nm tk oc en (some z_28) la g st ln (va_up bf z_28 none) af) H := hP
      have hD : va_D A (sf_w a0 a1 a2 a3 cB cT LP gb md ct tb nm tk oc en (some z_28) la g st ln (va_up bf z_28 none) af) := hD
      exact W.vret hx hb hr (fun t ht hW => ⟨⟨(), rfl, trivial, by rw [ht]; exact hP, hD⟩, hS.F ht⟩) hS.2.2 dX0_unlink_44
    · subst e_28
      have hl : lv_has ls 4 [(3, .null), (2, .null), (0, .ref a1), (1, .ref a)] := hl
      refine lv_aload_n hx hb dX0_unlink_31 rfl (lv_at hl 2 rfl) ?_
      refine lv_aload_nN hx hb dX0_unlink_32 rfl (lv_at hl 1 rfl) ?_
      refine va_put (D := (dC, dI)) (ci := 0) (v := .null) (ty := .object "ByteShelf$Row") (C := RX0) (T := TX0) (N := 5) hx hb hts sf_inX0 tyX0 tyX0_ok nmX0 hown hK hP hD hS 1 rfl rfl 4 (by decide) (hts _ (sf_mem fl_X0_27 rfl)) (fun _ h9 => h9) rfl (by decide +kernel) rfl rfl (Nat.le_of_ble_eq_true rfl) dX0_unlink_33 (fun H locs hP hD hS => ?_)
      have hP : va_P (dC, dI) vwCl (sf_w a0 a1 a2 a3 cB cT LP gb md ct tb nm tk oc en none none g st ln bf af) H := hP
      have hD : va_D A (sf_w a0 a1 a2 a3 cB cT LP gb md ct tb nm tk oc en none none g st ln bf af) := hD
      refine lv_goto (tgt := 44) hx hb dX0_unlink_36 (by decide) ?_
      exact W.vret hx hb hr (fun t ht hW => ⟨⟨(), rfl, trivial, by rw [ht]; exact hP, hD⟩, hS.F ht⟩) hS.2.2 dX0_unlink_44
set_option maxHeartbeats 4000000 in
set_option maxRecDepth 100000 in
theorem c_rangeCheck (l : Launch) (n lo hi : Nat) (h1 : lo ≤ hi) (h2 : hi ≤ n) (h3 : n < 2 ^ 31) : Met l yJ7_rangeCheck_23922 wsJ7_rangeCheck_23922 ({ frames := 0, cells := 0, slots := 0, locals := 0 } : Room) (sf_PreT [.int (nI n), .int (nI lo), .int (nI hi)]) sf_Sv 0 0 (fun _ => False) := by
  refine Met.ofW (cc := cJ7_rangeCheck_23922) (maxL := 3) (ret := none) (by decide) rfl ?_
  intro p e s m args below meth c s₁ B hml hv
  obtain ⟨rfl, -⟩ := hv
  have hx := B.exec
  have hb := B.bytes
  have hr := B.returns
  have hts := atoms_spec (ws := wsJ7_rangeCheck_23922) B.pre
  have hown : s.vm.findClass RJ7 = some m.cls := findClass_of_methodNamed B.named
  have hlocks := B.notSynchronized
  have hl := lv_entry ([.int (nI n), .int (nI lo), .int (nI hi)]) (n := 3) (Nat.le_of_ble_eq_true rfl)
  rw [lg_entry_eq]
  generalize (lg_sl ([.int (nI n), .int (nI lo), .int (nI hi)]) ++ List.replicate (3 - (lg_sl ([.int (nI n), .int (nI lo), .int (nI hi)])).length) Slot.unset).toArray = ls at hl ⊢
  have hl : lv_has ls 3 [(0, .int (nI n)), (1, .int (nI lo)), (2, .int (nI hi))] := hl
  refine lv_iload_n hx hb dJ7_rangeCheck_23922_0 rfl (lv_at hl 1 rfl) ?_
  refine lv_iload_n hx hb dJ7_rangeCheck_23922_1 rfl (lv_at hl 2 rfl) ?_
  refine sf_icmp_le (tgt := 46) hx hb (by omega) (by omega) dJ7_rangeCheck_23922_2 (by decide) (fun c_2 => ?_) (fun c_2 => ?_)
  · refine lv_iload_n hx hb dJ7_rangeCheck_23922_46 rfl (lv_at hl 1 rfl) ?_
    refine sf_if_ge (tgt := 59) hx hb (by omega) dJ7_rangeCheck_23922_47 (by decide) ?_
    refine lv_iload_n hx hb dJ7_rangeCheck_23922_59 rfl (lv_at hl 2 rfl) ?_
    refine lv_iload_n hx hb dJ7_rangeCheck_23922_60 rfl (lv_at hl 0 rfl) ?_
    refine sf_icmp_le (tgt := 73) hx hb (by omega) (by omega) dJ7_rangeCheck_23922_61 (by decide) (fun c_61 => ?_) (fun c_61 => ?_)
    · exact W.vret hx hb hr (fun t ht hW => ⟨rfl, ht⟩) sf_noloc dJ7_rangeCheck_23922_73
    · exact absurd c_61 (by omega)
  · exact absurd c_2 (by omega)
theorem sf_set_same {ws : va_W} {q0 : Nat} {x : Nat × va_E} (h : ws[q0]? = some x) : ws.set q0 x = ws := by
  apply List.ext_getElem?
  intro j
  by_cases hj : q0 = j
  · subst hj
    rw [List.getElem?_set_self (List.getElem?_eq_some_iff.mp h).1, h]
  · rw [List.getElem?_set_ne hj]
theorem sf_fill_step {f f2 : Nat → Int32} {lo i : Nat} (h : ∀ j, f2 j = if lo ≤ j ∧ j < i then nI 0 else f j) (hi : lo ≤ i) : ∀ j, upd f2 i (nI 0) j = if lo ≤ j ∧ j < i + 1 then nI 0 else f j := by
  intro j
  by_cases e : j = i
  · subst e
    rw [pk_us, if_pos (by omega)]
  · rw [pk_un e, h j]
    by_cases q : lo ≤ j ∧ j < i
    · rw [if_pos q, if_pos (by omega)]
    · rw [if_neg q, if_neg (by omega)]
set_option maxHeartbeats 4000000 in
set_option maxRecDepth 100000 in
/-- Arrays.fill(a, lo, hi, 0) in any world -/
theorem c_fill0 (l : Launch) (dC : Nat → ClassId) (dI : Nat → Nat → Nat) (tys : List (ClassId × FieldType)) (ws : va_W) (sz a : Nat) (cA : ClassId) (n : Nat) (f : Nat → Int32) (q0 t0 lo hi : Nat) (ha : ws[q0]? = some (a, .inl (cA, n, .inl f))) (ht : tys[t0]? = some (cA, .byte)) (h1 : lo ≤ hi) (h2 : hi ≤ n) (h3 : n < 2 ^ 31) : Met l yJ7_fill_eb02e wsJ7_fill_eb02e ({ frames := 1, cells := 0, slots := 0, locals := 30 } : Room) (sf_Pre (dC, dI) vwCl tys [.ref a, .int (nI lo), .int (nI hi), .int (nI 0)] ws sz) (va_Qv (fun f2 : Nat → Int32 => ∀ j, f2 j = if lo ≤ j ∧ j < hi then nI 0 else f j) (sf_E (dC, dI) vwCl (va_A ws sz) (fun f2 => ws.set q0 (a, .inl (cA, n, .inl f2)))) (va_A ws sz)) 0 0 (va_A ws sz) := by
  refine Met.ofW (cc := cJ7_fill_eb02e) (maxL := 5) (ret := none) (by decide) rfl ?_
  intro p e s m args below meth c s₁ B hml hv
  obtain ⟨rfl, hsz, hP, hK, hD0, hN⟩ := hv
  have hx := B.exec
  have hb := B.bytes
  have hr := B.returns
  have hts := atoms_spec (ws := wsJ7_fill_eb02e) B.pre
  have hown : s.vm.findClass RJ7 = some m.cls := findClass_of_methodNamed B.named
  have hlocks := B.notSynchronized
  subst hsz
  have hD := hD0.self (sz := s.heap.size)
  generalize hAe : va_A (ws) s.heap.size = A at hD ⊢
  have hA : ∀ q : Nat, s.heap.size ≤ q → A q := fun q h => by rw [← hAe]; exact Or.inr h
  have hS : va_S A s.heap s.heap [] := va_S.rf
  have hl := lv_entry ([.ref a, .int (nI lo), .int (nI hi), .int (nI 0)]) (n := 5) (Nat.le_of_ble_eq_true rfl)
  rw [lg_entry_eq]
  generalize (lg_sl ([.ref a, .int (nI lo), .int (nI hi), .int (nI 0)]) ++ List.replicate (5 - (lg_sl ([.ref a, .int (nI lo), .int (nI hi), .int (nI 0)])).length) Slot.unset).toArray = ls at hl ⊢
  have hl : lv_has ls 5 [(0, .ref a), (1, .int (nI lo)), (2, .int (nI hi)), (3, .int (nI 0))] := hl
  refine lv_aload_n hx hb dJ7_fill_eb02e_0 rfl (lv_at hl 0 rfl) ?_
  refine va_alen hx hb hK hP q0 t0 ha ht rfl dJ7_fill_eb02e_1 ?_
  refine lv_iload_n hx hb dJ7_fill_eb02e_2 rfl (lv_at hl 1 rfl) ?_
  refine lv_iload_n hx hb dJ7_fill_eb02e_3 rfl (lv_at hl 2 rfl) ?_
  refine sf_csv (va_Run.run (sf_runS (As := [.int (nI n), .int (nI lo), .int (nI hi)]) (rest := []) ⟨hx, hb, hml, hown, hts⟩ sf_has (c_rangeCheck l n lo hi h1 h2 h3) k_J7_13 ⟨sf_blindT, sf_preT⟩ rfl hl.1 (Nat.le_of_ble_eq_true rfl) ⟨(Nat.le_of_ble_eq_true rfl), (Nat.le_of_ble_eq_true rfl)⟩ ⟨rfl, rfl⟩ ⟨Nat.zero_le _, Nat.zero_le _⟩ dJ7_fill_eb02e_4)) ?_
  refine lv_iload_n hx hb dJ7_fill_eb02e_7 rfl (lv_at hl 1 rfl) ?_
  refine lv_istore (lv' := [(4, .int (nI lo)), (0, .ref a), (1, .int (nI lo)), (2, .int (nI hi)), (3, .int (nI 0))]) hx hb dJ7_fill_eb02e_8 hl (by decide) rfl (fun ls hl => ?_)
  have hset : ws.set q0 (a, .inl (cA, n, .inl f)) = ws := sf_set_same ha
  have hlen : q0 < ws.length := (List.getElem?_eq_some_iff.mp ha).1
  refine sf_loop (σ := Nat × (Nat → Int32)) (fun u => hi - u.1) (fun u H locs ls => lo ≤ u.1 ∧ u.1 ≤ hi ∧ (∀ j, u.2 j = if lo ≤ j ∧ j < u.1 then nI 0 else f j) ∧ va_P (dC, dI) vwCl (ws.set q0 (a, .inl (cA, n, .inl u.2))) H ∧ va_D A (ws.set q0 (a, .inl (cA, n, .inl u.2))) ∧ va_S A s.heap H locs ∧ lv_has ls 5 [(0, .ref a), (1, .int (nI lo)), (2, .int (nI hi)), (3, .int (nI 0)), (4, .int (nI u.1))]) ?_ (lo, f) _ _ _ ?_
  · intro u H locs ls hI ih
    obtain ⟨i, f2⟩ := u
    obtain ⟨k1, k2, k3, hP, hD, hS, hl⟩ := hI
    dsimp only at k1 k2 k3 hP hD hl ih
    have ha2 : (ws.set q0 (a, .inl (cA, n, .inl f2)))[q0]? = some (a, .inl (cA, n, .inl f2)) := List.getElem?_set_self hlen
    refine lv_iload hx hb dJ7_fill_eb02e_10 (lv_at hl 4 rfl) ?_
    refine lv_iload_n hx hb dJ7_fill_eb02e_12 rfl (lv_at hl 2 rfl) ?_
    refine sf_icmp_ge (tgt := 27) hx hb (by omega) (by omega) dJ7_fill_eb02e_13 (by decide) (fun c_13 => ?_) (fun c_13 => ?_)
    · exact W.vret hx hb hr (fun t ht hW => ⟨⟨f2, rfl, fun j => by rw [k3 j, show i = hi by omega], by rw [ht]; exact hP, hD⟩, hS.F ht⟩) hS.2.2 dJ7_fill_eb02e_27
    · refine lv_aload_n hx hb dJ7_fill_eb02e_16 rfl (lv_at hl 0 rfl) ?_
      refine lv_iload hx hb dJ7_fill_eb02e_17 (lv_at hl 4 rfl) ?_
      refine lv_iload_n hx hb dJ7_fill_eb02e_19 rfl (lv_at hl 3 rfl) ?_
      refine sf_bast hx hb hK hP hD hS q0 t0 ha2 ht (by decide) (by omega) h3 dJ7_fill_eb02e_20 (fun H locs hP hD hS => ?_)
      rw [List.set_set] at hP hD
      refine lv_iinc (v := nI (i + 1)) (lv' := [(4, .int (nI (i + 1))), (0, .ref a), (1, .int (nI lo)), (2, .int (nI hi)), (3, .int (nI 0))]) hx hb dJ7_fill_eb02e_21 hl (k := 4) rfl (nI_1 i) (by decide) rfl (fun ls hl => ?_)
      refine lv_goto (tgt := 10) hx hb dJ7_fill_eb02e_24 (by decide) ?_
      exact ih (i + 1, upd f2 i (nI 0)) _ _ _ (by dsimp only; omega) ⟨by dsimp only; omega, by dsimp only; omega, sf_fill_step k3 k1, hP, hD, hS, lv_sub hl [1, 2, 3, 4, 0] rfl⟩
  · exact ⟨Nat.le_refl _, h1, fun j => by rw [if_neg (by omega)], by rw [hset]; exact hP, by rw [hset]; exact hD, hS, lv_sub hl [1, 2, 3, 4, 0] rfl⟩
