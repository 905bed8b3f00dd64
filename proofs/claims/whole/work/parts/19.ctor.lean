/-! the constructors -/
def sf_PreO (D : va_G) (cl : List vw_C) (tys : List (ClassId × FieldType)) (av : List Value) (ws : va_W) (sz : Nat) : Array Value → State → Prop := va_Pc av (fun U => U.heap.size = sz ∧ va_P D cl ws U.heap ∧ va_K D cl tys U ∧ va_D (fun _ => True) ws ∧ sf_N U ∧ va_AO "ByteShelf$Row" U)
theorem sf_blindO {D : va_G} {cl : List vw_C} {tys : List (ClassId × FieldType)} {av : List Value} {ws : va_W} {sz : Nat} : FrameBlind (sf_PreO D cl tys av ws sz) := fun a U g mk q => by
  obtain ⟨q0, q1, qP, qK, qD, qN, qO⟩ := q
  exact ⟨q0, q1, qP, va_K.moved (u := U) (U := U.calling g mk a) (Vm.Alike.refl U.vm) qK, qD, va_Nw.same (u := U) (U := U.calling g mk a) rfl rfl qN, va_AO.moved (u := U) (U := U.calling g mk a) (Vm.Alike.refl U.vm) qO⟩
theorem sf_preO {D : va_G} {cl : List vw_C} {tys : List (ClassId × FieldType)} {av : List Value} {ws : va_W} {H : Heap} {s : State} {A : Nat → Prop} (hP : va_P D cl ws H) (hK : va_K D cl tys s) (hD : va_D A ws) (hN : sf_N s) (hO : va_AO "ByteShelf$Row" s) : ∀ U : State, U.heap = H → s.WarmedH U.vm → sf_PreO D cl tys av ws H.size av.toArray U :=
  fun U hU hW => ⟨rfl, by rw [hU], by rw [hU]; exact hP, va_K.moved hW.alike hK, hD.weaken (fun _ _ _ _ => trivial), va_Nw.warmM hW hN, va_AO.moved hW.alike hO⟩
def sf_z0 : sf_Z := (0, [], (fun _ => 0), (fun _ => 0), (fun _ _ => 0), 0, 0)
theorem sf_OK_0 : sf_OKu ([], none, 0, 0, (fun _ => none), (fun _ => 0), (fun _ => 0), 0, 0, none, none, (fun _ => 0), (fun _ => 0), (fun _ => 0), (fun _ => none), (fun _ => none)) sf_z0 := by
  refine ⟨[], [], ⟨⟨List.nodup_nil, fun a h => absurd h List.not_mem_nil, rfl, rfl, sf_lnk_nil, Nat.le_refl _, Nat.zero_le _, rfl, fun a h => absurd h List.not_mem_nil, sb_fit0⟩, rfl, Nat.zero_le _, fun _ => rfl, fun k a h => by simp at h, fun a h => absurd h List.not_mem_nil, fun a h => absurd h List.not_mem_nil, fun a h => absurd h List.not_mem_nil, List.nodup_nil, rfl, rfl⟩, rfl, rfl, fun k a h => by simp at h, fun k a h => by simp at h, rfl, rfl⟩
set_option maxHeartbeats 4000000 in
set_option maxRecDepth 100000 in
/-- Memory() -/
theorem c_Memory_init (l : Launch) (dC : Nat → ClassId) (dI : Nat → Nat → Nat) (a0 a1 sz : Nat) (v0 v1 v2 v3 v4 : Value) : Met l yX0_init wsX0_init ({ frames := 1, cells := 1, slots := 400000, locals := 30 } : Room) (sf_Pre (dC, dI) vwCl [] [.ref a1] [(a0, .inr (2, [v0, v1, v2, v3, v4])), (a1, .inr (0, [.null, .int 0, .int 0, .null, .null]))] sz) (va_Qv (fun _ : Nat × ClassId => True) (fun u t => va_P (dC, dI) vwCl [(a0, .inr (2, [v0, v1, v2, v3, v4])), (a1, .inr (0, [.ref u.1, .int (nI 0), .int (nI 0), .null, .null])), (u.1, .inl (u.2, 400000, .inl (fun _ => 0)))] t.heap ∧ va_K (dC, dI) vwCl [(u.2, .byte)] t ∧ va_D (va_A [(a0, .inr (2, [v0, v1, v2, v3, v4])), (a1, .inr (0, [.null, .int 0, .int 0, .null, .null]))] sz) [(a0, .inr (2, [v0, v1, v2, v3, v4])), (a1, .inr (0, [.ref u.1, .int (nI 0), .int (nI 0), .null, .null])), (u.1, .inl (u.2, 400000, .inl (fun _ => 0)))]) (va_A [(a0, .inr (2, [v0, v1, v2, v3, v4])), (a1, .inr (0, [.null, .int 0, .int 0, .null, .null]))] sz)) 1 400000 (va_A [(a0, .inr (2, [v0, v1, v2, v3, v4])), (a1, .inr (0, [.null, .int 0, .int 0, .null, .null]))] sz) := by
  refine Met.ofW (cc := cX0_init) (maxL := 1) (ret := none) (by decide) rfl ?_
  intro p e s m args below meth c s₁ B hml hv
  obtain ⟨rfl, hsz, hP, hK, hD0, hN⟩ := hv
  have hx := B.exec
  have hb := B.bytes
  have hr := B.returns
  have hts := atoms_spec (ws := wsX0_init) B.pre
  have hown : s.vm.findClass RX0 = some m.cls := findClass_of_methodNamed B.named
  have hlocks := B.notSynchronized
  subst hsz
  have hD := hD0.self (sz := s.heap.size)
  generalize hAe : va_A ([(a0, .inr (2, [v0, v1, v2, v3, v4])), (a1, .inr (0, [.null, .int 0, .int 0, .null, .null]))]) s.heap.size = A at hD ⊢
  have hA : ∀ q : Nat, s.heap.size ≤ q → A q := fun q h => by rw [← hAe]; exact Or.inr h
  have hS : va_S A s.heap s.heap [] := va_S.rf
  have hl := lv_entry ([.ref a1]) (n := 1) (Nat.le_of_ble_eq_true rfl)
  rw [lg_entry_eq]
  generalize (lg_sl ([.ref a1]) ++ List.replicate (1 - (lg_sl ([.ref a1])).length) Slot.unset).toArray = ls at hl ⊢
  have hl : lv_has ls 1 [(0, .ref a1)] := hl
  have hin : meth.name = "<init>" := (name_of_methodNamed B.named B.method).1
  refine lv_aload_n hx hb dX0_init_0 rfl (lv_at hl 0 rfl) ?_
  refine W.objInit hx hb hown (hts _ (sf_mem ml_X0_3 rfl)) (hts _ (sf_mem im_O_init rfl)) (hts _ (sf_mem co_O_init rfl)) rfl (by rw [hml]; exact hl.1) rfl dX0_init_1 (Nat.le_of_ble_eq_true rfl) (Nat.le_of_ble_eq_true rfl) ?_
  refine W.eq (g2 := F0 m 4 ls []) rfl ?_
  refine lv_aload_n hx hb dX0_init_4 rfl (lv_at hl 0 rfl) ?_
  refine lv_ldc (v := nI 400000) hx hb hown (hts _ (sf_mem cn_X0_9 rfl)) dX0_init_5 ?_
  refine va_newa (atype := .byte) (ty := .byte) (N' := 400000) (a0 := (400000, .inl (fun _ => 0))) hx hb (hts _ (sf_mem ac_byte rfl)) rfl hK hP hD hS hA (fun _ => rfl) (nI_pos (by decide)) (nI_clamp (by decide)) (by decide) (Nat.le_of_ble_eq_true rfl) (Nat.le_of_ble_eq_true rfl) dX0_init_7 (fun q cq H hK hP hD hS => ?_)
  have hP : va_P (dC, dI) vwCl ([(a0, .inr (2, [v0, v1, v2, v3, v4])), (a1, .inr (0, [.null, .int 0, .int 0, .null, .null])), (q, .inl (cq, 400000, .inl (fun _ => 0)))]) H := hP
  have hD : va_D A ([(a0, .inr (2, [v0, v1, v2, v3, v4])), (a1, .inr (0, [.null, .int 0, .int 0, .null, .null])), (q, .inl (cq, 400000, .inl (fun _ => 0)))]) := hD
  refine va_putF (D := (dC, dI)) (ci := 0) (v := .ref q) (ty := .array .byte) (C := RX0) (T := TX0) (N := 5) hx hb hts sf_inX0 tyX0 tyX0_ok nmX0 hown hK hP hD hS 1 rfl rfl 0 (by decide) (hts _ (sf_mem fl_X0_10 rfl)) (fun _ h9 => h9) rfl hin rfl (by decide +kernel) rfl rfl (Nat.le_of_ble_eq_true rfl) dX0_init_9 (fun H locs hP hD hS => ?_)
  have hP : va_P (dC, dI) vwCl ([(a0, .inr (2, [v0, v1, v2, v3, v4])), (a1, .inr (0, [.ref q, .int 0, .int 0, .null, .null])), (q, .inl (cq, 400000, .inl (fun _ => 0)))]) H := hP
  have hD : va_D A ([(a0, .inr (2, [v0, v1, v2, v3, v4])), (a1, .inr (0, [.ref q, .int 0, .int 0, .null, .null])), (q, .inl (cq, 400000, .inl (fun _ => 0)))]) := hD
  refine lv_aload_n hx hb dX0_init_12 rfl (lv_at hl 0 rfl) ?_
  refine lv_iconst (v := nI 0) hx hb dX0_init_13 (by decide) ?_
  refine va_put (D := (dC, dI)) (ci := 0) (v := .int (nI 0)) (ty := .int) (C := RX0) (T := TX0) (N := 5) hx hb hts sf_inX0 tyX0 tyX0_ok nmX0 hown hK hP hD hS 1 rfl rfl 1 (by decide) (hts _ (sf_mem fl_X0_16 rfl)) (fun _ h9 => h9) rfl (by decide +kernel) rfl rfl (Nat.le_of_ble_eq_true rfl) dX0_init_14 (fun H locs hP hD hS => ?_)
  have hP : va_P (dC, dI) vwCl ([(a0, .inr (2, [v0, v1, v2, v3, v4])), (a1, .inr (0, [.ref q, .int (nI 0), .int 0, .null, .null])), (q, .inl (cq, 400000, .inl (fun _ => 0)))]) H := hP
  have hD : va_D A ([(a0, .inr (2, [v0, v1, v2, v3, v4])), (a1, .inr (0, [.ref q, .int (nI 0), .int 0, .null, .null])), (q, .inl (cq, 400000, .inl (fun _ => 0)))]) := hD
  refine lv_aload_n hx hb dX0_init_17 rfl (lv_at hl 0 rfl) ?_
  refine lv_iconst (v := nI 0) hx hb dX0_init_18 (by decide) ?_
  refine va_put (D := (dC, dI)) (ci := 0) (v := .int (nI 0)) (ty := .int) (C := RX0) (T := TX0) (N := 5) hx hb hts sf_inX0 tyX0 tyX0_ok nmX0 hown hK hP hD hS 1 rfl rfl 2 (by decide) (hts _ (sf_mem fl_X0_20 rfl)) (fun _ h9 => h9) rfl (by decide +kernel) rfl rfl (Nat.le_of_ble_eq_true rfl) dX0_init_19 (fun H locs hP hD hS => ?_)
  have hP : va_P (dC, dI) vwCl ([(a0, .inr (2, [v0, v1, v2, v3, v4])), (a1, .inr (0, [.ref q, .int (nI 0), .int (nI 0), .null, .null])), (q, .inl (cq, 400000, .inl (fun _ => 0)))]) H := hP
  have hD : va_D A ([(a0, .inr (2, [v0, v1, v2, v3, v4])), (a1, .inr (0, [.ref q, .int (nI 0), .int (nI 0), .null, .null])), (q, .inl (cq, 400000, .inl (fun _ => 0)))]) := hD
  refine lv_aload_n hx hb dX0_init_22 rfl (lv_at hl 0 rfl) ?_
  refine lv_null hx hb dX0_init_23 ?_
  refine va_put (D := (dC, dI)) (ci := 0) (v := .null) (ty := .object "ByteShelf$Row") (C := RX0) (T := TX0) (N := 5) hx hb hts sf_inX0 tyX0 tyX0_ok nmX0 hown hK hP hD hS 1 rfl rfl 3 (by decide) (hts _ (sf_mem fl_X0_23 rfl)) (fun _ h9 => h9) rfl (by decide +kernel) rfl rfl (Nat.le_of_ble_eq_true rfl) dX0_init_24 (fun H locs hP hD hS => ?_)
  have hP : va_P (dC, dI) vwCl ([(a0, .inr (2, [v0, v1, v2, v3, v4])), (a1, .inr (0, [.ref q, .int (nI 0), .int (nI 0), .null, .null])), (q, .inl (cq, 400000, .inl (fun _ => 0)))]) H := hP
  have hD : va_D A ([(a0, .inr (2, [v0, v1, v2, v3, v4])), (a1, .inr (0, [.ref q, .int (nI 0), .int (nI 0), .null, .null])), (q, .inl (cq, 400000, .inl (fun _ => 0)))]) := hD
  refine lv_aload_n hx hb dX0_init_27 rfl (lv_at hl 0 rfl) ?_
  refine lv_null hx hb dX0_init_28 ?_
  refine va_put (D := (dC, dI)) (ci := 0) (v := .null) (ty := .object "ByteShelf$Row") (C := RX0) (T := TX0) (N := 5) hx hb hts sf_inX0 tyX0 tyX0_ok nmX0 hown hK hP hD hS 1 rfl rfl 4 (by decide) (hts _ (sf_mem fl_X0_27 rfl)) (fun _ h9 => h9) rfl (by decide +kernel) rfl rfl (Nat.le_of_ble_eq_true rfl) dX0_init_29 (fun H locs hP hD hS => ?_)
  have hP : va_P (dC, dI) vwCl ([(a0, .inr (2, [v0, v1, v2, v3, v4])), (a1, .inr (0, [.ref q, .int (nI 0), .int (nI 0), .null, .null])), (q, .inl (cq, 400000, .inl (fun _ => 0)))]) H := hP
  have hD : va_D A ([(a0, .inr (2, [v0, v1, v2, v3, v4])), (a1, .inr (0, [.ref q, .int (nI 0), .int (nI 0), .null, .null])), (q, .inl (cq, 400000, .inl (fun _ => 0)))]) := hD
  exact W.vret hx hb hr (fun t ht hW => ⟨⟨(q, cq), rfl, trivial, by rw [ht]; exact hP, va_K.moved hW.alike hK, hD⟩, hS.F ht⟩) hS.2.2 dX0_init_32
set_option maxHeartbeats 4000000 in
set_option maxRecDepth 100000 in
/-- ByteShelf() -/
theorem c_ByteShelf_init (l : Launch) (dC : Nat → ClassId) (dI : Nat → Nat → Nat) (a0 sz : Nat) : Met l yX2_init wsX2_init ({ frames := 2, cells := 3, slots := 420005, locals := 60 } : Room) (sf_PreO (dC, dI) vwCl [] [.ref a0] [(a0, .inr (2, [.null, .null, .null, .int 0, .int 0]))] sz) (va_Qv (fun _ : Nat × Nat × Nat × ClassId × ClassId => True) (fun u t => va_P (dC, dI) vwCl (sf_w a0 u.1 u.2.1 u.2.2.1 u.2.2.2.1 u.2.2.2.2 [] none 0 0 (fun _ => none) (fun _ => 0) (fun _ => 0) 0 0 none none (fun _ => 0) (fun _ => 0) (fun _ => 0) (fun _ => none) (fun _ => none)) t.heap ∧ va_K (dC, dI) vwCl [(u.2.2.2.1, .byte), (u.2.2.2.2, .object "ByteShelf$Row")] t ∧ va_D (va_A [(a0, .inr (2, [.null, .null, .null, .int 0, .int 0]))] sz) (sf_w a0 u.1 u.2.1 u.2.2.1 u.2.2.2.1 u.2.2.2.2 [] none 0 0 (fun _ => none) (fun _ => 0) (fun _ => 0) 0 0 none none (fun _ => 0) (fun _ => 0) (fun _ => 0) (fun _ => none) (fun _ => none))) (va_A [(a0, .inr (2, [.null, .null, .null, .int 0, .int 0]))] sz)) 3 420005 (va_A [(a0, .inr (2, [.null, .null, .null, .int 0, .int 0]))] sz) := by
  refine Met.ofW (cc := cX2_init) (maxL := 1) (ret := none) (by decide) rfl ?_
  intro p e s m args below meth c s₁ B hml hv
  obtain ⟨rfl, hsz, hP, hK, hD0, hN, hO⟩ := hv
  have hx := B.exec
  have hb := B.bytes
  have hr := B.returns
  have hts := atoms_spec (ws := wsX2_init) B.pre
  have hown : s.vm.findClass RX2 = some m.cls := findClass_of_methodNamed B.named
  have hlocks := B.notSynchronized
  subst hsz
  have hD := hD0.self (sz := s.heap.size)
  generalize hAe : va_A ([(a0, .inr (2, [.null, .null, .null, .int 0, .int 0]))]) s.heap.size = A at hD ⊢
  have hA : ∀ q : Nat, s.heap.size ≤ q → A q := fun q h => by rw [← hAe]; exact Or.inr h
  have hS : va_S A s.heap s.heap [] := va_S.rf
  have hl := lv_entry ([.ref a0]) (n := 1) (Nat.le_of_ble_eq_true rfl)
  rw [lg_entry_eq]
  generalize (lg_sl ([.ref a0]) ++ List.replicate (1 - (lg_sl ([.ref a0])).length) Slot.unset).toArray = ls at hl ⊢
  have hl : lv_has ls 1 [(0, .ref a0)] := hl
  have hin : meth.name = "<init>" := (name_of_methodNamed B.named B.method).1
  refine lv_aload_n hx hb dX2_init_0 rfl (lv_at hl 0 rfl) ?_
  refine W.objInit hx hb hown (hts _ (sf_mem ml_X2_1 rfl)) (hts _ (sf_mem im_O_init rfl)) (hts _ (sf_mem co_O_init rfl)) rfl (by rw [hml]; exact hl.1) rfl dX2_init_1 (Nat.le_of_ble_eq_true rfl) (Nat.le_of_ble_eq_true rfl) ?_
  refine W.eq (g2 := F0 m 4 ls []) rfl ?_
  refine lv_aload_n hx hb dX2_init_4 rfl (lv_at hl 0 rfl) ?_
  refine va_new (ci := 0) (fs := [.null, .int 0, .int 0, .null, .null]) (C := RX0) (T := TX0) (N := 5) hx hb hts sf_inX0 tyX0 tyX0_ok hown (hts _ (sf_mem cl_X2_7 rfl)) (hts _ (sf_mem it_X0 rfl)) (hts _ (sf_mem in_X0 rfl)) hK hP hD hS hA rfl (fun j hj => by rcases (show j = 0 ∨ j = 1 ∨ j = 2 ∨ j = 3 ∨ j = 4 by omega) with rfl | rfl | rfl | rfl | rfl <;> rfl) (Nat.le_of_ble_eq_true rfl) (Nat.le_of_ble_eq_true rfl) dX2_init_5 (fun a1 H hP hD hS => ?_)
  have hP : va_P (dC, dI) vwCl ([(a0, .inr (2, [.null, .null, .null, .int 0, .int 0])), (a1, .inr (0, [.null, .int 0, .int 0, .null, .null]))]) H := hP
  have hD : va_D A ([(a0, .inr (2, [.null, .null, .null, .int 0, .int 0])), (a1, .inr (0, [.null, .int 0, .int 0, .null, .null]))]) := hD
  refine W.widen (k := 1) (n := 5) (Nat.le_of_ble_eq_true rfl) (Nat.le_of_ble_eq_true rfl) ?_
  refine lv_dup hx hb dX2_init_8 rfl ?_
  have hF := sf_in hD hS hA
  refine va_callv (sf_runI (b := a1) (As := []) (rest := [.ref a1, .ref a0]) ⟨hx, hb, hml, hown, hts⟩ sf_has (c_Memory_init l dC dI a0 a1 _ .null .null .null (.int 0) (.int 0)) k_X2_9 ⟨sf_blind, sf_preU hP hK hD hN⟩ rfl hl.1 (Nat.le_of_ble_eq_true rfl) ⟨(Nat.le_of_ble_eq_true rfl), (Nat.le_of_ble_eq_true rfl)⟩ ⟨rfl, rfl⟩ ⟨(Nat.le_of_ble_eq_true rfl), (Nat.le_of_ble_eq_true rfl)⟩ dX2_init_9) hS (fun q _ h => hF q h) hF (fun u t H locs ht hvm hw hB hz1 hk1 hS => ?_)
  obtain ⟨a2, cB⟩ := u
  obtain ⟨hP, hK1, hD1⟩ := hB
  rw [ht] at hP
  have hK := va_K.moved hvm.symm hK1
  have hD := hD1.weaken (fun k q _ h => hF q.1 h)
  dsimp only at hP hD hK
  have hP : va_P (dC, dI) vwCl ([(a0, .inr (2, [.null, .null, .null, .int 0, .int 0])), (a1, .inr (0, [.ref a2, .int (nI 0), .int (nI 0), .null, .null])), (a2, .inl (cB, 400000, .inl (fun _ => 0)))]) H := hP
  have hD : va_D A ([(a0, .inr (2, [.null, .null, .null, .int 0, .int 0])), (a1, .inr (0, [.ref a2, .int (nI 0), .int (nI 0), .null, .null])), (a2, .inl (cB, 400000, .inl (fun _ => 0)))]) := hD
  refine W.widen (k := 2) (n := 400005) (Nat.le_of_ble_eq_true rfl) (Nat.le_of_ble_eq_true rfl) ?_
  refine va_putF (D := (dC, dI)) (ci := 2) (v := .ref a1) (ty := .object "ByteShelf$Memory") (C := RX2) (T := TX2) (N := 5) hx hb hts sf_inX2 tyX2 tyX2_ok nmX2 hown hK hP hD hS 0 rfl rfl 0 (by decide) (hts _ (sf_mem fl_X2_10 rfl)) (fun _ h9 => h9) rfl hin rfl (by decide +kernel) rfl rfl (Nat.le_of_ble_eq_true rfl) dX2_init_12 (fun H locs hP hD hS => ?_)
  have hP : va_P (dC, dI) vwCl ([(a0, .inr (2, [.ref a1, .null, .null, .int 0, .int 0])), (a1, .inr (0, [.ref a2, .int (nI 0), .int (nI 0), .null, .null])), (a2, .inl (cB, 400000, .inl (fun _ => 0)))]) H := hP
  have hD : va_D A ([(a0, .inr (2, [.ref a1, .null, .null, .int 0, .int 0])), (a1, .inr (0, [.ref a2, .int (nI 0), .int (nI 0), .null, .null])), (a2, .inl (cB, 400000, .inl (fun _ => 0)))]) := hD
  refine lv_aload_n hx hb dX2_init_15 rfl (lv_at hl 0 rfl) ?_
  refine lv_sipush (v := nI 20000) hx hb dX2_init_16 (by decide) ?_
  refine va_newq (N' := 20000) (C := RX1) hx hb hown (hts _ (sf_mem cl_X2_16 rfl)) hO hK hP hD hS hA (nI_pos (by decide)) (nI_clamp (by decide)) (by decide) (Nat.le_of_ble_eq_true rfl) (Nat.le_of_ble_eq_true rfl) dX2_init_19 (fun a3 cT H hK hP hD hS => ?_)
  have hP : va_P (dC, dI) vwCl ([(a0, .inr (2, [.ref a1, .null, .null, .int 0, .int 0])), (a1, .inr (0, [.ref a2, .int (nI 0), .int (nI 0), .null, .null])), (a2, .inl (cB, 400000, .inl (fun _ => 0))), (a3, .inl (cT, 20000, .inr (.inr (.inr (.inr (fun _ => none))))))]) H := hP
  have hD : va_D A ([(a0, .inr (2, [.ref a1, .null, .null, .int 0, .int 0])), (a1, .inr (0, [.ref a2, .int (nI 0), .int (nI 0), .null, .null])), (a2, .inl (cB, 400000, .inl (fun _ => 0))), (a3, .inl (cT, 20000, .inr (.inr (.inr (.inr (fun _ => none))))))]) := hD
  refine W.widen (k := 3) (n := 420005) (Nat.le_of_ble_eq_true rfl) (Nat.le_of_ble_eq_true rfl) ?_
  refine va_putF (D := (dC, dI)) (ci := 2) (v := .ref a3) (ty := .array (.object "ByteShelf$Row")) (C := RX2) (T := TX2) (N := 5) hx hb hts sf_inX2 tyX2 tyX2_ok nmX2 hown hK hP hD hS 0 rfl rfl 1 (by decide) (hts _ (sf_mem fl_X2_18 rfl)) (fun _ h9 => h9) rfl hin rfl (by decide +kernel) rfl rfl (Nat.le_of_ble_eq_true rfl) dX2_init_22 (fun H locs hP hD hS => ?_)
  have hP : va_P (dC, dI) vwCl ([(a0, .inr (2, [.ref a1, .ref a3, .null, .int 0, .int 0])), (a1, .inr (0, [.ref a2, .int (nI 0), .int (nI 0), .null, .null])), (a2, .inl (cB, 400000, .inl (fun _ => 0))), (a3, .inl (cT, 20000, .inr (.inr (.inr (.inr (fun _ => none))))))]) H := hP
  have hD : va_D A ([(a0, .inr (2, [.ref a1, .ref a3, .null, .int 0, .int 0])), (a1, .inr (0, [.ref a2, .int (nI 0), .int (nI 0), .null, .null])), (a2, .inl (cB, 400000, .inl (fun _ => 0))), (a3, .inl (cT, 20000, .inr (.inr (.inr (.inr (fun _ => none))))))]) := hD
  refine lv_aload_n hx hb dX2_init_25 rfl (lv_at hl 0 rfl) ?_
  refine lv_null hx hb dX2_init_26 ?_
  refine va_put (D := (dC, dI)) (ci := 2) (v := .null) (ty := .object "ByteShelf$Row") (C := RX2) (T := TX2) (N := 5) hx hb hts sf_inX2 tyX2 tyX2_ok nmX2 hown hK hP hD hS 0 rfl rfl 2 (by decide) (hts _ (sf_mem fl_X2_22 rfl)) (fun _ h9 => h9) rfl (by decide +kernel) rfl rfl (Nat.le_of_ble_eq_true rfl) dX2_init_27 (fun H locs hP hD hS => ?_)
  have hP : va_P (dC, dI) vwCl ([(a0, .inr (2, [.ref a1, .ref a3, .null, .int 0, .int 0])), (a1, .inr (0, [.ref a2, .int (nI 0), .int (nI 0), .null, .null])), (a2, .inl (cB, 400000, .inl (fun _ => 0))), (a3, .inl (cT, 20000, .inr (.inr (.inr (.inr (fun _ => none))))))]) H := hP
  have hD : va_D A ([(a0, .inr (2, [.ref a1, .ref a3, .null, .int 0, .int 0])), (a1, .inr (0, [.ref a2, .int (nI 0), .int (nI 0), .null, .null])), (a2, .inl (cB, 400000, .inl (fun _ => 0))), (a3, .inl (cT, 20000, .inr (.inr (.inr (.inr (fun _ => none))))))]) := hD
  refine lv_aload_n hx hb dX2_init_30 rfl (lv_at hl 0 rfl) ?_
  refine lv_iconst (v := nI 0) hx hb dX2_init_31 (by decide) ?_
  refine va_put (D := (dC, dI)) (ci := 2) (v := .int (nI 0)) (ty := .int) (C := RX2) (T := TX2) (N := 5) hx hb hts sf_inX2 tyX2 tyX2_ok nmX2 hown hK hP hD hS 0 rfl rfl 3 (by decide) (hts _ (sf_mem fl_X2_26 rfl)) (fun _ h9 => h9) rfl (by decide +kernel) rfl rfl (Nat.le_of_ble_eq_true rfl) dX2_init_32 (fun H locs hP hD hS => ?_)
  have hP : va_P (dC, dI) vwCl ([(a0, .inr (2, [.ref a1, .ref a3, .null, .int (nI 0), .int 0])), (a1, .inr (0, [.ref a2, .int (nI 0), .int (nI 0), .null, .null])), (a2, .inl (cB, 400000, .inl (fun _ => 0))), (a3, .inl (cT, 20000, .inr (.inr (.inr (.inr (fun _ => none))))))]) H := hP
  have hD : va_D A ([(a0, .inr (2, [.ref a1, .ref a3, .null, .int (nI 0), .int 0])), (a1, .inr (0, [.ref a2, .int (nI 0), .int (nI 0), .null, .null])), (a2, .inl (cB, 400000, .inl (fun _ => 0))), (a3, .inl (cT, 20000, .inr (.inr (.inr (.inr (fun _ => none))))))]) := hD
  refine lv_aload_n hx hb dX2_init_35 rfl (lv_at hl 0 rfl) ?_
  refine lv_iconst (v := nI 0) hx hb dX2_init_36 (by decide) ?_
  refine va_put (D := (dC, dI)) (ci := 2) (v := .int (nI 0)) (ty := .int) (C := RX2) (T := TX2) (N := 5) hx hb hts sf_inX2 tyX2 tyX2_ok nmX2 hown hK hP hD hS 0 rfl rfl 4 (by decide) (hts _ (sf_mem fl_X2_30 rfl)) (fun _ h9 => h9) rfl (by decide +kernel) rfl rfl (Nat.le_of_ble_eq_true rfl) dX2_init_37 (fun H locs hP hD hS => ?_)
  have hP : va_P (dC, dI) vwCl ([(a0, .inr (2, [.ref a1, .ref a3, .null, .int (nI 0), .int (nI 0)])), (a1, .inr (0, [.ref a2, .int (nI 0), .int (nI 0), .null, .null])), (a2, .inl (cB, 400000, .inl (fun _ => 0))), (a3, .inl (cT, 20000, .inr (.inr (.inr (.inr (fun _ => none))))))]) H := hP
  have hD : va_D A ([(a0, .inr (2, [.ref a1, .ref a3, .null, .int (nI 0), .int (nI 0)])), (a1, .inr (0, [.ref a2, .int (nI 0), .int (nI 0), .null, .null])), (a2, .inl (cB, 400000, .inl (fun _ => 0))), (a3, .inl (cT, 20000, .inr (.inr (.inr (.inr (fun _ => none))))))]) := hD
  exact W.vret hx hb hr (fun t ht hW => ⟨⟨(a1, a2, a3, cB, cT), rfl, trivial, by rw [ht]; exact hP, va_K.moved hW.alike hK, hD⟩, hS.F ht⟩) hS.2.2 dX2_init_40
