/-! the reference's constructor; rows for the law -/
set_option maxHeartbeats 4000000 in
set_option maxRecDepth 100000 in
/-- ByteShelfModel() -/
theorem m_init (l : Launch) (dC : Nat → ClassId) (dI : Nat → Nat → Nat) (b0 sz : Nat) : Met l yX3_init wsX3_init ({ frames := 1, cells := 4, slots := 460000, locals := 30 } : Room) (sf_Pre (dC, dI) vwCl [] [.ref b0] [(b0, .inr (3, [.null, .int (nI 0), .null, .null, .int (nI 0), .null, .int (nI 0), .int (nI 0)]))] sz) (va_Qv (fun _ : Nat × Nat × Nat × Nat × ClassId × ClassId × ClassId × ClassId => True) (fun u t => va_P (dC, dI) vwCl (mw_w b0 u.1 u.2.1 u.2.2.1 u.2.2.2.1 u.2.2.2.2.1 u.2.2.2.2.2.1 u.2.2.2.2.2.2.1 u.2.2.2.2.2.2.2 0 0 0 0 (fun _ => 0) (fun _ => 0) (fun _ => 0) (fun _ => 0)) t.heap ∧ va_K (dC, dI) vwCl [(u.2.2.2.2.1, .byte), (u.2.2.2.2.2.1, .int), (u.2.2.2.2.2.2.1, .int), (u.2.2.2.2.2.2.2, .int)] t ∧ va_D (va_A [(b0, .inr (3, [.null, .int (nI 0), .null, .null, .int (nI 0), .null, .int (nI 0), .int (nI 0)]))] sz) (mw_w b0 u.1 u.2.1 u.2.2.1 u.2.2.2.1 u.2.2.2.2.1 u.2.2.2.2.2.1 u.2.2.2.2.2.2.1 u.2.2.2.2.2.2.2 0 0 0 0 (fun _ => 0) (fun _ => 0) (fun _ => 0) (fun _ => 0))) (va_A [(b0, .inr (3, [.null, .int (nI 0), .null, .null, .int (nI 0), .null, .int (nI 0), .int (nI 0)]))] sz)) 4 460000 (va_A [(b0, .inr (3, [.null, .int (nI 0), .null, .null, .int (nI 0), .null, .int (nI 0), .int (nI 0)]))] sz) := by
  refine Met.ofW (cc := cX3_init) (maxL := 1) (ret := none) (by decide) rfl ?_
  intro p e s m args below meth c s₁ B hml hv
  obtain ⟨rfl, hsz, hP, hK, hD0, hN⟩ := hv
  have hx := B.exec
  have hb := B.bytes
  have hr := B.returns
  have hts := atoms_spec (ws := wsX3_init) B.pre
  have hown : s.vm.findClass RX3 = some m.cls := findClass_of_methodNamed B.named
  have hlocks := B.notSynchronized
  subst hsz
  have hD := hD0.self (sz := s.heap.size)
  generalize hAe : va_A ([(b0, .inr (3, [.null, .int (nI 0), .null, .null, .int (nI 0), .null, .int (nI 0), .int (nI 0)]))]) s.heap.size = A at hD ⊢
  have hA : ∀ q : Nat, s.heap.size ≤ q → A q := fun q h => by rw [← hAe]; exact Or.inr h
  have hS : va_S A s.heap s.heap [] := va_S.rf
  have hl := lv_entry ([.ref b0]) (n := 1) (Nat.le_of_ble_eq_true rfl)
  rw [lg_entry_eq]
  generalize (lg_sl ([.ref b0]) ++ List.replicate (1 - (lg_sl ([.ref b0])).length) Slot.unset).toArray = ls at hl ⊢
  have hl : lv_has ls 1 [(0, .ref b0)] := hl
  have hin : meth.name = "<init>" := (name_of_methodNamed B.named B.method).1
  refine lv_aload_n hx hb dX3_init_0 rfl (lv_at hl 0 rfl) ?_
  refine W.objInit hx hb hown (hts _ (sf_mem ml_X3_1 rfl)) (hts _ (sf_mem im_O_init rfl)) (hts _ (sf_mem co_O_init rfl)) rfl (by rw [hml]; exact hl.1) rfl dX3_init_1 (Nat.le_of_ble_eq_true rfl) (Nat.le_of_ble_eq_true rfl) ?_
  refine W.eq (g2 := F0 m 4 ls []) rfl ?_
  refine lv_aload_n hx hb dX3_init_4 rfl (lv_at hl 0 rfl) ?_
  refine lv_ldc (v := nI 400000) hx hb hown (hts _ (sf_mem cn_X3_7 rfl)) dX3_init_5 ?_
  refine va_newa (atype := .byte) (ty := .byte) (N' := 400000) (a0 := (400000, .inl (fun _ => 0))) hx hb (hts _ (sf_mem ac_byte rfl)) rfl hK hP hD hS hA (fun _ => rfl) (nI_pos (by decide)) (nI_clamp (by decide)) (by decide) (Nat.le_of_ble_eq_true rfl) (Nat.le_of_ble_eq_true rfl) dX3_init_7 (fun b1 cb1 H hK hP hD hS => ?_)
  have hP : va_P (dC, dI) vwCl ([(b0, .inr (3, [.null, .int (nI 0), .null, .null, .int (nI 0), .null, .int (nI 0), .int (nI 0)])), (b1, .inl (cb1, 400000, .inl (fun _ => 0)))]) H := hP
  have hD : va_D A ([(b0, .inr (3, [.null, .int (nI 0), .null, .null, .int (nI 0), .null, .int (nI 0), .int (nI 0)])), (b1, .inl (cb1, 400000, .inl (fun _ => 0)))]) := hD
  refine W.widen (k := 1) (n := 400000) (Nat.le_of_ble_eq_true rfl) (Nat.le_of_ble_eq_true rfl) ?_
  refine va_putF (D := (dC, dI)) (ci := 3) (v := .ref b1) (ty := .array .byte) (C := RX3) (T := TX3) (N := 8) hx hb hts sf_inX3 tyX3 tyX3_ok nmX3 hown hK hP hD hS 0 rfl rfl 0 (by decide) (hts _ (sf_mem fl_X3_8 rfl)) (fun _ h9 => h9) rfl hin rfl (by decide +kernel) rfl rfl (Nat.le_of_ble_eq_true rfl) dX3_init_9 (fun H locs hP hD hS => ?_)
  have hP : va_P (dC, dI) vwCl ([(b0, .inr (3, [.ref b1, .int (nI 0), .null, .null, .int (nI 0), .null, .int (nI 0), .int (nI 0)])), (b1, .inl (cb1, 400000, .inl (fun _ => 0)))]) H := hP
  have hD : va_D A ([(b0, .inr (3, [.ref b1, .int (nI 0), .null, .null, .int (nI 0), .null, .int (nI 0), .int (nI 0)])), (b1, .inl (cb1, 400000, .inl (fun _ => 0)))]) := hD
  refine lv_aload_n hx hb dX3_init_12 rfl (lv_at hl 0 rfl) ?_
  refine lv_sipush (v := nI 20000) hx hb dX3_init_13 (by decide) ?_
  refine va_newa (atype := .int) (ty := .int) (N' := 20000) (a0 := (20000, .inl (fun _ => 0))) hx hb (hts _ (sf_mem ac_int rfl)) rfl hK hP hD hS hA (fun _ => rfl) (nI_pos (by decide)) (nI_clamp (by decide)) (by decide) (Nat.le_of_ble_eq_true rfl) (Nat.le_of_ble_eq_true rfl) dX3_init_16 (fun b2 cb2 H hK hP hD hS => ?_)
  have hP : va_P (dC, dI) vwCl ([(b0, .inr (3, [.ref b1, .int (nI 0), .null, .null, .int (nI 0), .null, .int (nI 0), .int (nI 0)])), (b1, .inl (cb1, 400000, .inl (fun _ => 0))), (b2, .inl (cb2, 20000, .inl (fun _ => 0)))]) H := hP
  have hD : va_D A ([(b0, .inr (3, [.ref b1, .int (nI 0), .null, .null, .int (nI 0), .null, .int (nI 0), .int (nI 0)])), (b1, .inl (cb1, 400000, .inl (fun _ => 0))), (b2, .inl (cb2, 20000, .inl (fun _ => 0)))]) := hD
  refine W.widen (k := 2) (n := 420000) (Nat.le_of_ble_eq_true rfl) (Nat.le_of_ble_eq_true rfl) ?_
  refine va_putF (D := (dC, dI)) (ci := 3) (v := .ref b2) (ty := .array .int) (C := RX3) (T := TX3) (N := 8) hx hb hts sf_inX3 tyX3 tyX3_ok nmX3 hown hK hP hD hS 0 rfl rfl 2 (by decide) (hts _ (sf_mem fl_X3_14 rfl)) (fun _ h9 => h9) rfl hin rfl (by decide +kernel) rfl rfl (Nat.le_of_ble_eq_true rfl) dX3_init_18 (fun H locs hP hD hS => ?_)
  have hP : va_P (dC, dI) vwCl ([(b0, .inr (3, [.ref b1, .int (nI 0), .ref b2, .null, .int (nI 0), .null, .int (nI 0), .int (nI 0)])), (b1, .inl (cb1, 400000, .inl (fun _ => 0))), (b2, .inl (cb2, 20000, .inl (fun _ => 0)))]) H := hP
  have hD : va_D A ([(b0, .inr (3, [.ref b1, .int (nI 0), .ref b2, .null, .int (nI 0), .null, .int (nI 0), .int (nI 0)])), (b1, .inl (cb1, 400000, .inl (fun _ => 0))), (b2, .inl (cb2, 20000, .inl (fun _ => 0)))]) := hD
  refine lv_aload_n hx hb dX3_init_21 rfl (lv_at hl 0 rfl) ?_
  refine lv_sipush (v := nI 20000) hx hb dX3_init_22 (by decide) ?_
  refine va_newa (atype := .int) (ty := .int) (N' := 20000) (a0 := (20000, .inl (fun _ => 0))) hx hb (hts _ (sf_mem ac_int rfl)) rfl hK hP hD hS hA (fun _ => rfl) (nI_pos (by decide)) (nI_clamp (by decide)) (by decide) (Nat.le_of_ble_eq_true rfl) (Nat.le_of_ble_eq_true rfl) dX3_init_25 (fun b3 cb3 H hK hP hD hS => ?_)
  have hP : va_P (dC, dI) vwCl ([(b0, .inr (3, [.ref b1, .int (nI 0), .ref b2, .null, .int (nI 0), .null, .int (nI 0), .int (nI 0)])), (b1, .inl (cb1, 400000, .inl (fun _ => 0))), (b2, .inl (cb2, 20000, .inl (fun _ => 0))), (b3, .inl (cb3, 20000, .inl (fun _ => 0)))]) H := hP
  have hD : va_D A ([(b0, .inr (3, [.ref b1, .int (nI 0), .ref b2, .null, .int (nI 0), .null, .int (nI 0), .int (nI 0)])), (b1, .inl (cb1, 400000, .inl (fun _ => 0))), (b2, .inl (cb2, 20000, .inl (fun _ => 0))), (b3, .inl (cb3, 20000, .inl (fun _ => 0)))]) := hD
  refine W.widen (k := 3) (n := 440000) (Nat.le_of_ble_eq_true rfl) (Nat.le_of_ble_eq_true rfl) ?_
  refine va_putF (D := (dC, dI)) (ci := 3) (v := .ref b3) (ty := .array .int) (C := RX3) (T := TX3) (N := 8) hx hb hts sf_inX3 tyX3 tyX3_ok nmX3 hown hK hP hD hS 0 rfl rfl 3 (by decide) (hts _ (sf_mem fl_X3_18 rfl)) (fun _ h9 => h9) rfl hin rfl (by decide +kernel) rfl rfl (Nat.le_of_ble_eq_true rfl) dX3_init_27 (fun H locs hP hD hS => ?_)
  have hP : va_P (dC, dI) vwCl ([(b0, .inr (3, [.ref b1, .int (nI 0), .ref b2, .ref b3, .int (nI 0), .null, .int (nI 0), .int (nI 0)])), (b1, .inl (cb1, 400000, .inl (fun _ => 0))), (b2, .inl (cb2, 20000, .inl (fun _ => 0))), (b3, .inl (cb3, 20000, .inl (fun _ => 0)))]) H := hP
  have hD : va_D A ([(b0, .inr (3, [.ref b1, .int (nI 0), .ref b2, .ref b3, .int (nI 0), .null, .int (nI 0), .int (nI 0)])), (b1, .inl (cb1, 400000, .inl (fun _ => 0))), (b2, .inl (cb2, 20000, .inl (fun _ => 0))), (b3, .inl (cb3, 20000, .inl (fun _ => 0)))]) := hD
  refine lv_aload_n hx hb dX3_init_30 rfl (lv_at hl 0 rfl) ?_
  refine lv_sipush (v := nI 20000) hx hb dX3_init_31 (by decide) ?_
  refine va_newa (atype := .int) (ty := .int) (N' := 20000) (a0 := (20000, .inl (fun _ => 0))) hx hb (hts _ (sf_mem ac_int rfl)) rfl hK hP hD hS hA (fun _ => rfl) (nI_pos (by decide)) (nI_clamp (by decide)) (by decide) (Nat.le_of_ble_eq_true rfl) (Nat.le_of_ble_eq_true rfl) dX3_init_34 (fun b4 cb4 H hK hP hD hS => ?_)
  have hP : va_P (dC, dI) vwCl ([(b0, .inr (3, [.ref b1, .int (nI 0), .ref b2, .ref b3, .int (nI 0), .null, .int (nI 0), .int (nI 0)])), (b1, .inl (cb1, 400000, .inl (fun _ => 0))), (b2, .inl (cb2, 20000, .inl (fun _ => 0))), (b3, .inl (cb3, 20000, .inl (fun _ => 0))), (b4, .inl (cb4, 20000, .inl (fun _ => 0)))]) H := hP
  have hD : va_D A ([(b0, .inr (3, [.ref b1, .int (nI 0), .ref b2, .ref b3, .int (nI 0), .null, .int (nI 0), .int (nI 0)])), (b1, .inl (cb1, 400000, .inl (fun _ => 0))), (b2, .inl (cb2, 20000, .inl (fun _ => 0))), (b3, .inl (cb3, 20000, .inl (fun _ => 0))), (b4, .inl (cb4, 20000, .inl (fun _ => 0)))]) := hD
  refine W.widen (k := 4) (n := 460000) (Nat.le_of_ble_eq_true rfl) (Nat.le_of_ble_eq_true rfl) ?_
  refine va_putF (D := (dC, dI)) (ci := 3) (v := .ref b4) (ty := .array .int) (C := RX3) (T := TX3) (N := 8) hx hb hts sf_inX3 tyX3 tyX3_ok nmX3 hown hK hP hD hS 0 rfl rfl 5 (by decide) (hts _ (sf_mem fl_X3_21 rfl)) (fun _ h9 => h9) rfl hin rfl (by decide +kernel) rfl rfl (Nat.le_of_ble_eq_true rfl) dX3_init_36 (fun H locs hP hD hS => ?_)
  have hP : va_P (dC, dI) vwCl ([(b0, .inr (3, [.ref b1, .int (nI 0), .ref b2, .ref b3, .int (nI 0), .ref b4, .int (nI 0), .int (nI 0)])), (b1, .inl (cb1, 400000, .inl (fun _ => 0))), (b2, .inl (cb2, 20000, .inl (fun _ => 0))), (b3, .inl (cb3, 20000, .inl (fun _ => 0))), (b4, .inl (cb4, 20000, .inl (fun _ => 0)))]) H := hP
  have hD : va_D A ([(b0, .inr (3, [.ref b1, .int (nI 0), .ref b2, .ref b3, .int (nI 0), .ref b4, .int (nI 0), .int (nI 0)])), (b1, .inl (cb1, 400000, .inl (fun _ => 0))), (b2, .inl (cb2, 20000, .inl (fun _ => 0))), (b3, .inl (cb3, 20000, .inl (fun _ => 0))), (b4, .inl (cb4, 20000, .inl (fun _ => 0)))]) := hD
  exact W.vret hx hb hr (fun t ht hW => ⟨⟨(b1, b2, b3, b4, cb1, cb2, cb3, cb4), rfl, trivial, by rw [ht]; exact hP, va_K.moved hW.alike hK, hD⟩, hS.F ht⟩) hS.2.2 dX3_init_39
theorem sf_Pl {D : va_G} {cl : List vw_C} {a b : va_W} {H : Heap} (h : va_P D cl (a ++ b) H) : va_P D cl a H := fun k q hk => h k q (by rw [List.getElem?_append_left (List.getElem?_eq_some_iff.mp hk).1]; exact hk)
theorem sf_Pr {D : va_G} {cl : List vw_C} {a b : va_W} {H : Heap} (h : va_P D cl (a ++ b) H) : va_P D cl b H := fun k q hk => h (a.length + k) q (by rw [List.getElem?_append_right (by omega), Nat.add_sub_cancel_left]; exact hk)
theorem sf_Dl {A : Nat → Prop} {a b : va_W} (h : va_D A (a ++ b)) : va_D A a := by
  have e : ∀ (k : Nat) (q : Nat × va_E), a[k]? = some q → (a ++ b)[k]? = some q := fun k q hk => by rw [List.getElem?_append_left (List.getElem?_eq_some_iff.mp hk).1]; exact hk
  exact ⟨fun i j p q hi hj => h.1 i j p q (e i p hi) (e j q hj), fun k q hk => h.2 k q (e k q hk)⟩
theorem sf_Dr {A : Nat → Prop} {a b : va_W} (h : va_D A (a ++ b)) : va_D A b := by
  have e : ∀ (k : Nat) (q : Nat × va_E), b[k]? = some q → (a ++ b)[a.length + k]? = some q := fun k q hk => by rw [List.getElem?_append_right (by omega), Nat.add_sub_cancel_left]; exact hk
  exact ⟨fun i j p q hi hj hpq => by have := h.1 _ _ p q (e i p hi) (e j q hj) hpq; omega, fun k q hk => h.2 _ q (e k q hk)⟩
theorem sf_Ds {A : Nat → Prop} {a b : va_W} (h : va_D A (a ++ b)) : va_D A (b ++ a) := va_D.swap (a := []) h
/-- behind a call on the cells wc: the other cells wm stay -/
theorem sf_frame {A : Nat → Prop} {D : va_G} {cl : List vw_C} {wc wm w1 : va_W} {H H1 : Heap} (hPm : va_P D cl wm H) (hD : va_D A (wc ++ wm)) (hk : ∀ q : Nat, q < H.size → ¬ va_A wc H.size q → H1[q]? = H[q]?) (hF : ∀ q, va_A wc H.size q → A q) (hD1 : va_D (va_A wc H.size) w1) : va_P D cl wm H1 ∧ va_D A (w1 ++ wm) := by
  have apart : ∀ (k : Nat) (q : Nat × va_E), wm[k]? = some q → q.1 < H.size ∧ ¬ va_A wc H.size q.1 := by
    intro k q hq
    have hl := (hPm k q hq).lt
    refine ⟨hl, fun h => ?_⟩
    rcases h with ⟨k2, e, h⟩ | h
    · have hlt := (List.getElem?_eq_some_iff.mp h).1
      have e1 : (wc ++ wm)[k2]? = some (q.1, e) := by rw [List.getElem?_append_left hlt]; exact h
      have e2 : (wc ++ wm)[wc.length + k]? = some q := by rw [List.getElem?_append_right (by omega), Nat.add_sub_cancel_left]; exact hq
      have := hD.1 _ _ _ _ e1 e2 rfl
      omega
    · omega
  refine ⟨fun k q hq => (hPm k q hq).kept (hk q.1 (apart k q hq).1 (apart k q hq).2), va_D.app (hD1.weaken (fun k q _ h => hF q.1 h)) (sf_Dr hD) (fun i j x y hx hy hxy => (apart j y hy).2 (by rw [← hxy]; exact hD1.2 i x hx))⟩
section LWR
variable {p : Program} {l : Launch} {e : Env} {R : Room} {s : State} {m : MethodId} {args : Array Value} {below : List Frame} {meth : Method} {c : Code} {H : Heap} {locs : List Loc} {cells slots : Nat} {Q : State → Prop}
variable {cc : ByteArray} {pc : Nat} {ls : Array Slot} {rest st0 : List Value} {a : Array Value} {A : Nat → Prop} {H0 : Heap} {mc ms : Nat} {D : va_G} {cl : List vw_C} {wc wm : va_W}
theorem lw_ci {S : Type} {post : Int32 → S → Prop} {wsf : S → va_W} (hr : va_Run p l e R s m args below meth c H locs cells slots mc ms (F0 m pc ls st0) rest (va_Qi post (sf_E D cl (va_A wc H.size) wsf) (va_A wc H.size) a) (va_A wc H.size)) (hPm : va_P D cl wm H) (hD : va_D A (wc ++ wm)) (hS : va_S A H0 H locs) (hA : ∀ q, H0.size ≤ q → A q)
    (kk : ∀ (r : Int32) (u : S) (H1 : Heap) (locs1 : List Loc), post r u → va_P D cl (wsf u) H1 → va_P D cl wm H1 → va_D A (wsf u ++ wm) → va_S A H0 H1 locs1 → W p l e R s m args below meth c H1 locs1 (cells + mc) (slots + ms) Q (F0 m (pc + 3) ls (.int r :: rest))) : W p l e R s m args below meth c H locs cells slots Q (F0 m pc ls st0) := by
  have hF := sf_in (sf_Dl hD) hS hA
  refine va_calli hr hS (fun q _ h => hF q h) hF (fun r u t H1 locs1 ht hvm hw hB hz1 hk1 hS1 => ?_)
  obtain ⟨h1, h2⟩ := sf_frame hPm hD hk1 hF hB.2
  exact kk r u H1 locs1 hw (by rw [← ht]; exact hB.1) h1 h2 hS1
theorem lw_sld (hexec : p.tables.exec = Jvm.exec) (hb : c.code = cc) {b L : Nat} {xs : Nat → Int32} (hX : va_X b L xs s H0) (hbl : b < H0.size) (hbA : ¬ A b) (hS : va_S A H0 H locs) {i : Nat} (hi : i < L) (hL : L < 2 ^ 31) (hdg : decode cc pc = .ok (.iaload, 1))
    (kk : W p l e R s m args below meth c H locs cells slots Q (F0 m (pc + 1) ls (.int (xs i) :: rest))) : W p l e R s m args below meth c H locs cells slots Q (F0 m pc ls (.int (nI i) :: .ref b :: rest)) := by
  refine va_sld hexec hb hX hbl hbA hS (vp_in_nI hi hL) hdg ?_
  rw [nI_clamp (Nat.lt_trans hi hL)]
  exact kk
theorem lw_loop {σ : Type} (μ κ τ : σ → Nat) (I : σ → Heap → List Loc → Array Slot → Prop)
    (step : ∀ (u : σ) (H : Heap) (locs : List Loc) (ls : Array Slot), I u H locs ls → (∀ (u' : σ) (H' : Heap) (locs' : List Loc) (ls' : Array Slot), μ u' < μ u → I u' H' locs' ls' → W p l e R s m args below meth c H' locs' (κ u') (τ u') Q (F0 m pc ls' [])) → W p l e R s m args below meth c H locs (κ u) (τ u) Q (F0 m pc ls []))
    (u : σ) (H : Heap) (locs : List Loc) (ls : Array Slot) (h : I u H locs ls) : W p l e R s m args below meth c H locs (κ u) (τ u) Q (F0 m pc ls []) := by
  have key : ∀ (n : Nat) (u : σ) (H : Heap) (locs : List Loc) (ls : Array Slot), μ u < n → I u H locs ls → W p l e R s m args below meth c H locs (κ u) (τ u) Q (F0 m pc ls []) := by
    intro n
    induction n with
    | zero => intro u H locs ls h; exact absurd h (Nat.not_lt_zero _)
    | succ n ih =>
      intro u H locs ls hn h
      exact step u H locs ls h (fun u' H' locs' ls' hlt h' => ih u' H' locs' ls' (Nat.lt_of_lt_of_le hlt (Nat.le_of_lt_succ hn)) h')
  exact key (μ u + 1) u H locs ls (Nat.lt_succ_self _) h
end LWR
def zbal (z : sf_Z) : Prop := zMd z = zCt z + (zFr z).length
theorem zbal_take {z : sf_Z} (h : zbal z) (n : Int32) : zbal (zs_take z n).2 := by
  unfold zs_take
  split
  · exact h
  · split
    · exact h
    · split
      · rename_i a t e
        have h : zMd z = zCt z + (zFr z).length := h
        rw [e] at h
        show zMd z = zCt z + 1 + t.length
        simp only [List.length_cons] at h
        omega
      · rename_i e
        split
        · exact h
        · have h : zMd z = zCt z + (zFr z).length := h
          rw [e] at h
          show zMd z + 1 = zCt z + 1 + 0
          simp only [List.length_nil] at h
          omega
theorem zbal_give {z : sf_Z} (h : zbal z) (row : Int32) (hc : ∀ k, zrow z row = some k → 1 ≤ zCt z) : zbal (zs_give z row).2 := by
  unfold zs_give
  split
  · exact h
  · rename_i k e
    have h : zMd z = zCt z + (zFr z).length := h
    have := hc k e
    show zMd z = zCt z - 1 + (k :: zFr z).length
    simp only [List.length_cons]
    omega
theorem zbal_resize {z : sf_Z} (h : zbal z) (row n : Int32) : zbal (zs_resize z row n).2 := by
  unfold zs_resize
  split
  · exact h
  · split
    · exact h
    · split <;> exact h
theorem zbal_put {z : sf_Z} (h : zbal z) (row i b : Int32) : zbal (zs_put z row i b).2 := by
  unfold zs_put
  split
  · exact h
  · split <;> exact h
theorem zbal_fill {z : sf_Z} (h : zbal z) (row i n d : Int32) : zbal (zs_fill z row i n d).2 := by
  unfold zs_fill
  split
  · exact h
  · split
    · split <;> exact h
    · exact h
theorem zbal_copy {z : sf_Z} (h : zbal z) (row o : Int32) : zbal (zs_copy z row o).2 := by
  unfold zs_copy
  split
  · split <;> exact h
  · exact h
theorem sf_ct {LP : List Nat} {gb : Option Nat} {md ct : Nat} {tb : Nat → Option Nat} {nm tk : Nat → Nat} {oc en : Nat} {fs la : Option Nat} {g : Nat → Int32} {st ln : Nat → Nat} {bf af : Nat → Option Nat} {cs fr : List Nat} {z : sf_Z} (hI : sf_CI LP gb md ct tb nm tk oc en fs la g st ln bf af cs fr) (hR : sf_CR LP nm tk ln st g cs fr ct oc z) (row : Int32) : ∀ k, zrow z row = some k → 1 ≤ zCt z := by
  intro k hr
  obtain ⟨h1, h2, h3, h4, h5, h6, h7, h8, h9, h10, h11⟩ := hI
  obtain ⟨z1, z2, z3, z4, z5, z6⟩ := hR
  unfold zrow at hr
  split at hr
  · cases hr
  · rename_i j e
    split at hr
    · rename_i t
      cases hr
      have hk := (zi_inv (by omega) e).2
      rw [z1] at hk
      have hL : LP[k]? = some LP[k] := List.getElem?_eq_getElem hk
      rw [z3 k _ hL] at t
      have hc : LP[k] ∈ cs := by
        rcases h8 _ (List.mem_of_getElem? hL) with q | q
        · exact q
        · have := (h7 _ q).1
          omega
      rw [z5, h11]
      exact List.length_pos_of_mem hc
    · cases hr
theorem lw_16 {j : Nat} (h : j < 16) : j = 0 ∨ j = 1 ∨ j = 2 ∨ j = 3 ∨ j = 4 ∨ j = 5 ∨ j = 6 ∨ j = 7 ∨ j = 8 ∨ j = 9 ∨ j = 10 ∨ j = 11 ∨ j = 12 ∨ j = 13 ∨ j = 14 ∨ j = 15 := by omega
