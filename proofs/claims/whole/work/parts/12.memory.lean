/-! the memory: pushTogether, cut, lay, lift, move, setLength -/
theorem sf_pl_g {to n : Nat} {g2 : Nat → Int32} {s2 : Nat} (e : s2 = to) : ∀ j, g2 j = if to ≤ j ∧ j < to + n then g2 (s2 + (j - to)) else g2 j := by
  intro j
  split
  · exact congrArg g2 (by omega)
  · rfl
theorem sf_pl_s {to z : Nat} {st2 : Nat → Nat} (e : st2 z = to) : ∀ b, st2 b = if b = z then to else st2 b := by
  intro b
  by_cases q : b = z
  · rw [if_pos q, q]; exact e
  · rw [if_neg q]
set_option maxHeartbeats 4000000 in
set_option maxRecDepth 100000 in
/-- pushTogether(): the rows lie one behind the other from 0 on, their bytes as they were -/
theorem c_pushTogether (l : Launch) (dC : Nat → ClassId) (dI : Nat → Nat → Nat) (a0 a1 a2 a3 : Nat) (cB cT : ClassId) (LP : List Nat) (gb : Option Nat) (md ct : Nat) (tb : Nat → Option Nat) (nm tk : Nat → Nat) (oc en : Nat) (fs la : Option Nat) (g : Nat → Int32) (st ln : Nat → Nat) (bf af : Nat → Option Nat) (sz : Nat) (cs : List Nat) (hM : sf_MI LP cs oc en fs la g st ln bf af) : Met l yX0_pushTogether wsX0_pushTogether ({ frames := 1, cells := 0, slots := 0, locals := 30 } : Room) (sf_Pre (dC, dI) vwCl [(cB, .byte), (cT, .object "ByteShelf$Row")] [.ref a1] (sf_w a0 a1 a2 a3 cB cT LP gb md ct tb nm tk oc en fs la g st ln bf af) sz) (va_Qv (fun u : (Nat → Int32) × (Nat → Nat) => sf_lay u.2 ln 0 cs oc ∧ (∀ x, x ∈ cs → ∀ i, i < ln x → u.1 (u.2 x + i) = g (st x + i)) ∧ sb_Fit u.1) (sf_E (dC, dI) vwCl (va_A (sf_w a0 a1 a2 a3 cB cT LP gb md ct tb nm tk oc en fs la g st ln bf af) sz) (fun (u : (Nat → Int32) × (Nat → Nat)) => sf_w a0 a1 a2 a3 cB cT LP gb md ct tb nm tk oc oc fs la u.1 u.2 ln bf af)) (va_A (sf_w a0 a1 a2 a3 cB cT LP gb md ct tb nm tk oc en fs la g st ln bf af) sz)) 0 0 (va_A (sf_w a0 a1 a2 a3 cB cT LP gb md ct tb nm tk oc en fs la g st ln bf af) sz) := by
  refine Met.ofW (cc := cX0_pushTogether) (maxL := 3) (ret := none) (by decide) rfl ?_
  intro p e s m args below meth c s₁ B hml hv
  obtain ⟨rfl, hsz, hP, hK, hD0, hN⟩ := hv
  have hx := B.exec
  have hb := B.bytes
  have hr := B.returns
  have hts := atoms_spec (ws := wsX0_pushTogether) B.pre
  have hown : s.vm.findClass RX0 = some m.cls := findClass_of_methodNamed B.named
  have hlocks := B.notSynchronized
  subst hsz
  have hD := hD0.self (sz := s.heap.size)
  generalize hAe : va_A (sf_w a0 a1 a2 a3 cB cT LP gb md ct tb nm tk oc en fs la g st ln bf af) s.heap.size = A at hD ⊢
  have hA : ∀ q : Nat, s.heap.size ≤ q → A q := fun q h => by rw [← hAe]; exact Or.inr h
  have hS : va_S A s.heap s.heap [] := va_S.rf
  have hl := lv_entry ([.ref a1]) (n := 3) (Nat.le_of_ble_eq_true rfl)
  rw [lg_entry_eq]
  generalize (lg_sl ([.ref a1]) ++ List.replicate (3 - (lg_sl ([.ref a1])).length) Slot.unset).toArray = ls at hl ⊢
  have hl : lv_has ls 3 [(0, .ref a1)] := hl
  obtain ⟨h1, h2, h3, h4, h5, h6, h7, h8, h9, h10⟩ := hM
  refine lv_iconst (v := nI 0) hx hb dX0_pushTogether_0 (by decide) ?_
  refine lv_istore_n (lv' := [(1, .int (nI 0)), (0, .ref a1)]) hx hb dX0_pushTogether_1 rfl hl (by decide) rfl (fun ls hl => ?_)
  refine lv_aload_n hx hb dX0_pushTogether_2 rfl (lv_at hl 1 rfl) ?_
  refine va_get (D := (dC, dI)) (ci := 0) (v := va_rf fs) (C := RX0) (T := TX0) (N := 5) hx hb hts sf_inX0 hown hK hP 1 rfl rfl 3 (by decide) (hts _ (sf_mem fl_X0_23 rfl)) (fun _ h9 => h9) rfl dX0_pushTogether_3 ?_
  refine sf_astore_n (lv' := [(2, va_rf fs), (1, .int (nI 0)), (0, .ref a1)]) hx hb dX0_pushTogether_6 rfl hl (by decide) rfl (fun ls hl => ?_)
  refine sf_loop (σ := List Nat × List Nat × Nat × (Nat → Int32) × (Nat → Nat)) (fun u => u.2.1.length) (fun u H locs ls => cs = u.1 ++ u.2.1 ∧ sf_PL ln g st en u.1 u.2.1 u.2.2.1 u.2.2.2.1 u.2.2.2.2 ∧ sb_Fit u.2.2.2.1 ∧ va_P (dC, dI) vwCl (sf_w a0 a1 a2 a3 cB cT LP gb md ct tb nm tk oc en fs la u.2.2.2.1 u.2.2.2.2 ln bf af) H ∧ va_D A (sf_w a0 a1 a2 a3 cB cT LP gb md ct tb nm tk oc en fs la u.2.2.2.1 u.2.2.2.2 ln bf af) ∧ va_S A s.heap H locs ∧ lv_has ls 3 [(0, .ref a1), (1, .int (nI u.2.2.1)), (2, va_rf u.2.1.head?)]) ?_ ([], cs, 0, g, st) _ _ _ ?_
  · intro u H locs ls hI ih
    obtain ⟨l1, r1, to, g2, st2⟩ := u
    obtain ⟨k1, k2, k3, hP, hD, hS, hl⟩ := hI
    dsimp only at k1 k2 k3 hP hD hl ih
    rcases r1 with _ | ⟨z, t1⟩
    · have hl : lv_has ls 3 [(0, .ref a1), (1, .int (nI to)), (2, .null)] := hl
      have hto : to = oc := by rw [k2.1, h8, k1, List.append_nil]
      refine lv_aload_nN hx hb dX0_pushTogether_7 rfl (lv_at hl 2 rfl) ?_
      refine lv_ifnullN (tgt := 62) hx hb dX0_pushTogether_8 (by decide) ?_
      refine lv_aload_n hx hb dX0_pushTogether_62 rfl (lv_at hl 0 rfl) ?_
      refine lv_iload_n hx hb dX0_pushTogether_63 rfl (lv_at hl 1 rfl) ?_
      refine va_put (D := (dC, dI)) (ci := 0) (v := .int (nI to)) (ty := .int) (C := RX0) (T := TX0) (N := 5) hx hb hts sf_inX0 tyX0 tyX0_ok nmX0 hown hK hP hD hS 1 rfl rfl 2 (by decide) (hts _ (sf_mem fl_X0_20 rfl)) (fun _ h9 => h9) rfl (by decide +kernel) rfl rfl (Nat.le_of_ble_eq_true rfl) dX0_pushTogether_64 (fun H locs hP hD hS => ?_)
      have hP : va_P (dC, dI) vwCl (sf_w a0 a1 a2 a3 cB cT LP gb md ct tb nm tk oc to fs la g2 st2 ln bf af) H := hP
      have hD : va_D A (sf_w a0 a1 a2 a3 cB cT LP gb md ct tb nm tk oc to fs la g2 st2 ln bf af) := hD
      rw [hto] at hP hD
      exact W.vret hx hb hr (fun t ht hW => ⟨⟨(g2, st2), rfl, ⟨by rw [k1, List.append_nil, ← hto]; exact k2.2.1, fun x hx => k2.2.2.2.1 x (by rw [← k1]; exact hx), k3⟩, by rw [ht]; exact hP, hD⟩, hS.F ht⟩) hS.2.2 dX0_pushTogether_67
    · have hl : lv_has ls 3 [(0, .ref a1), (1, .int (nI to)), (2, .ref z)] := hl
      have hz : z ∈ cs := by rw [k1]; simp
      have hzL := h2 z hz
      have q1 : to ≤ st2 z := k2.2.2.1.1
      have q2 := sf_lay_le k2.2.2.1.2
      have q3 := h9 z hz
      have q4 := sf_P_ge (ln z)
      have haf : af z = t1.head? := (h5 l1 z t1 k1).2
      refine lv_aload_n hx hb dX0_pushTogether_7 rfl (lv_at hl 2 rfl) ?_
      refine lv_ifnull hx hb dX0_pushTogether_8 ?_
      refine lv_aload_n hx hb dX0_pushTogether_11 rfl (lv_at hl 2 rfl) ?_
      refine sf_rget (D := (dC, dI)) (ci := 1) (v := .int (nI (st2 z))) (C := RX1) (T := TX1) (N := 6) hx hb hts sf_inX1 hown hK hP hzL rfl rfl 2 (by decide) (hts _ (sf_mem fl_X0_37 rfl)) (fun _ h9 => h9) rfl dX0_pushTogether_12 ?_
      refine lv_iload_n hx hb dX0_pushTogether_15 rfl (lv_at hl 1 rfl) ?_
      refine sf_icmp_eq (tgt := 44) hx hb (by omega) (by omega) dX0_pushTogether_16 (by decide) (fun c_16 => ?_) (fun c_16 => ?_)
      · refine lv_iload_n hx hb dX0_pushTogether_44 rfl (lv_at hl 1 rfl) ?_
        refine lv_aload_n hx hb dX0_pushTogether_45 rfl (lv_at hl 2 rfl) ?_
        refine sf_rget (D := (dC, dI)) (ci := 1) (v := .int (nI (ln z))) (C := RX1) (T := TX1) (N := 6) hx hb hts sf_inX1 hown hK hP hzL rfl rfl 3 (by decide) (hts _ (sf_mem fl_X0_42 rfl)) (fun _ h9 => h9) rfl dX0_pushTogether_46 ?_
        refine vp_callSi (va_Run.run (sf_runP (As := [.int (nI (ln z))]) (rest := [.int (nI to)]) ⟨hx, hb, hml, hown, hts⟩ sf_has (c_placesFor l (ln z) (by omega)) hN co_X2_placesFor sm_X2_placesFor in_X2 k_X0_30 ⟨sf_blindT, sf_preT⟩ rfl hl.1 (Nat.le_of_ble_eq_true rfl) ⟨(Nat.le_of_ble_eq_true rfl), (Nat.le_of_ble_eq_true rfl)⟩ ⟨rfl, rfl⟩ ⟨Nat.zero_le _, Nat.zero_le _⟩ dX0_pushTogether_49)) (fun r_49 h_49 => ?_)
        subst h_49
        refine sf_iadd hx hb dX0_pushTogether_52 ?_
        refine lv_istore_n (lv' := [(1, .int (nI (to + (sf_P (ln z))))), (0, .ref a1), (2, .ref z)]) hx hb dX0_pushTogether_53 rfl hl (by decide) rfl (fun ls hl => ?_)
        refine lv_aload_n hx hb dX0_pushTogether_54 rfl (lv_at hl 2 rfl) ?_
        refine sf_rget (D := (dC, dI)) (ci := 1) (v := va_rf t1.head?) (C := RX1) (T := TX1) (N := 6) hx hb hts sf_inX1 hown hK hP hzL rfl rfl 5 (by decide) (hts _ (sf_mem fl_X0_75 rfl)) (fun _ h9 => h9) (congrArg (fun z => some (va_rf z)) haf) dX0_pushTogether_55 ?_
        refine sf_astore_n (lv' := [(2, va_rf t1.head?), (1, .int (nI (to + (sf_P (ln z))))), (0, .ref a1)]) hx hb dX0_pushTogether_58 rfl hl (by decide) rfl (fun ls hl => ?_)
        refine lv_goto (tgt := 7) hx hb dX0_pushTogether_59 (by decide) ?_
        exact ih (l1 ++ [z], t1, to + sf_P (ln z), g2, st2) _ _ _ (by simp) ⟨by rw [k1]; simp, sf_PL_step k2 (by rw [← k1]; exact h1) (sf_pl_g c_16) (sf_pl_s c_16), k3, hP, hD, hS, lv_sub hl [2, 1, 0] rfl⟩
      · refine lv_aload_n hx hb dX0_pushTogether_19 rfl (lv_at hl 0 rfl) ?_
        refine va_get (D := (dC, dI)) (ci := 0) (v := .ref a2) (C := RX0) (T := TX0) (N := 5) hx hb hts sf_inX0 hown hK hP 1 rfl rfl 0 (by decide) (hts _ (sf_mem fl_X0_10 rfl)) (fun _ h9 => h9) rfl dX0_pushTogether_20 ?_
        refine lv_aload_n hx hb dX0_pushTogether_23 rfl (lv_at hl 2 rfl) ?_
        refine sf_rget (D := (dC, dI)) (ci := 1) (v := .int (nI (st2 z))) (C := RX1) (T := TX1) (N := 6) hx hb hts sf_inX1 hown hK hP hzL rfl rfl 2 (by decide) (hts _ (sf_mem fl_X0_37 rfl)) (fun _ h9 => h9) rfl dX0_pushTogether_24 ?_
        refine lv_aload_n hx hb dX0_pushTogether_27 rfl (lv_at hl 0 rfl) ?_
        refine va_get (D := (dC, dI)) (ci := 0) (v := .ref a2) (C := RX0) (T := TX0) (N := 5) hx hb hts sf_inX0 hown hK hP 1 rfl rfl 0 (by decide) (hts _ (sf_mem fl_X0_10 rfl)) (fun _ h9 => h9) rfl dX0_pushTogether_28 ?_
        refine lv_iload_n hx hb dX0_pushTogether_31 rfl (lv_at hl 1 rfl) ?_
        refine lv_aload_n hx hb dX0_pushTogether_32 rfl (lv_at hl 2 rfl) ?_
        refine sf_rget (D := (dC, dI)) (ci := 1) (v := .int (nI (ln z))) (C := RX1) (T := TX1) (N := 6) hx hb hts sf_inX1 hown hK hP hzL rfl rfl 3 (by decide) (hts _ (sf_mem fl_X0_42 rfl)) (fun _ h9 => h9) rfl dX0_pushTogether_33 ?_
        refine sf_copy hx hb (hml.trans hl.1.symm) hown hts sf_has ml_X0_66 hK hP hD hS 2 0 rfl rfl (by decide) (by omega) (by omega) k3 (Nat.le_of_ble_eq_true rfl) (Nat.le_of_ble_eq_true rfl) dX0_pushTogether_36 (fun H locs hP hD hS => ?_)
        have hP : va_P (dC, dI) vwCl (sf_w a0 a1 a2 a3 cB cT LP gb md ct tb nm tk oc en fs la (va_cpy g2 g2 (st2 z) to (ln z)) st2 ln bf af) H := hP
        have hD : va_D A (sf_w a0 a1 a2 a3 cB cT LP gb md ct tb nm tk oc en fs la (va_cpy g2 g2 (st2 z) to (ln z)) st2 ln bf af) := hD
        refine lv_aload_n hx hb dX0_pushTogether_39 rfl (lv_at hl 2 rfl) ?_
        refine lv_iload_n hx hb dX0_pushTogether_40 rfl (lv_at hl 1 rfl) ?_
        refine sf_rput (D := (dC, dI)) (ci := 1) (v := .int (nI to)) (ty := .int) (C := RX1) (T := TX1) (N := 6) hx hb hts sf_inX1 tyX1 tyX1_ok nmX1 hown hK hP hD hS hzL rfl rfl 2 (by decide) (hts _ (sf_mem fl_X0_37 rfl)) (fun _ h9 => h9) rfl (by decide +kernel) rfl rfl (Nat.le_of_ble_eq_true rfl) (sf_rw_st to) dX0_pushTogether_41 (fun H locs hP hD hS => ?_)
        have hP : va_P (dC, dI) vwCl (sf_w a0 a1 a2 a3 cB cT LP gb md ct tb nm tk oc en fs la (va_cpy g2 g2 (st2 z) to (ln z)) (va_up st2 z to) ln bf af) H := hP
        have hD : va_D A (sf_w a0 a1 a2 a3 cB cT LP gb md ct tb nm tk oc en fs la (va_cpy g2 g2 (st2 z) to (ln z)) (va_up st2 z to) ln bf af) := hD
        refine lv_iload_n hx hb dX0_pushTogether_44 rfl (lv_at hl 1 rfl) ?_
        refine lv_aload_n hx hb dX0_pushTogether_45 rfl (lv_at hl 2 rfl) ?_
        refine sf_rget (D := (dC, dI)) (ci := 1) (v := .int (nI (ln z))) (C := RX1) (T := TX1) (N := 6) hx hb hts sf_inX1 hown hK hP hzL rfl rfl 3 (by decide) (hts _ (sf_mem fl_X0_42 rfl)) (fun _ h9 => h9) rfl dX0_pushTogether_46 ?_
        refine vp_callSi (va_Run.run (sf_runP (As := [.int (nI (ln z))]) (rest := [.int (nI to)]) ⟨hx, hb, hml, hown, hts⟩ sf_has (c_placesFor l (ln z) (by omega)) hN co_X2_placesFor sm_X2_placesFor in_X2 k_X0_30 ⟨sf_blindT, sf_preT⟩ rfl hl.1 (Nat.le_of_ble_eq_true rfl) ⟨(Nat.le_of_ble_eq_true rfl), (Nat.le_of_ble_eq_true rfl)⟩ ⟨rfl, rfl⟩ ⟨Nat.zero_le _, Nat.zero_le _⟩ dX0_pushTogether_49)) (fun r_49 h_49 => ?_)
        subst h_49
        refine sf_iadd hx hb dX0_pushTogether_52 ?_
        refine lv_istore_n (lv' := [(1, .int (nI (to + (sf_P (ln z))))), (0, .ref a1), (2, .ref z)]) hx hb dX0_pushTogether_53 rfl hl (by decide) rfl (fun ls hl => ?_)
        refine lv_aload_n hx hb dX0_pushTogether_54 rfl (lv_at hl 2 rfl) ?_
        refine sf_rget (D := (dC, dI)) (ci := 1) (v := va_rf t1.head?) (C := RX1) (T := TX1) (N := 6) hx hb hts sf_inX1 hown hK hP hzL rfl rfl 5 (by decide) (hts _ (sf_mem fl_X0_75 rfl)) (fun _ h9 => h9) (congrArg (fun z => some (va_rf z)) haf) dX0_pushTogether_55 ?_
        refine sf_astore_n (lv' := [(2, va_rf t1.head?), (1, .int (nI (to + (sf_P (ln z))))), (0, .ref a1)]) hx hb dX0_pushTogether_58 rfl hl (by decide) rfl (fun ls hl => ?_)
        refine lv_goto (tgt := 7) hx hb dX0_pushTogether_59 (by decide) ?_
        exact ih (l1 ++ [z], t1, to + sf_P (ln z), (va_cpy g2 g2 (st2 z) to (ln z)), (va_up st2 z to)) _ _ _ (by simp) ⟨by rw [k1]; simp, sf_PL_step k2 (by rw [← k1]; exact h1) (fun j => rfl) (fun b => rfl), (sb_fitC k3 k3), hP, hD, hS, lv_sub hl [2, 1, 0] rfl⟩
  · refine ⟨rfl, sf_PL_0 h6, h10, hP, hD, hS, ?_⟩
    have := lv_sub (l' := [(0, .ref a1), (1, .int (nI 0)), (2, va_rf fs)]) hl [2, 1, 0] rfl
    rw [h3] at this
    exact this
set_option maxHeartbeats 4000000 in
set_option maxRecDepth 100000 in
/-- cut(w): w places from the end -/
theorem c_cut (l : Launch) (dC : Nat → ClassId) (dI : Nat → Nat → Nat) (a0 a1 a2 a3 : Nat) (cB cT : ClassId) (LP : List Nat) (gb : Option Nat) (md ct : Nat) (tb : Nat → Option Nat) (nm tk : Nat → Nat) (oc en : Nat) (fs la : Option Nat) (g : Nat → Int32) (st ln : Nat → Nat) (bf af : Nat → Option Nat) (sz : Nat) (cs : List Nat) (hM : sf_MI LP cs oc en fs la g st ln bf af) (w : Nat) (hw : oc + w ≤ 400000) : Met l yX0_cut wsX0_cut ({ frames := 2, cells := 0, slots := 0, locals := 60 } : Room) (sf_Pre (dC, dI) vwCl [(cB, .byte), (cT, .object "ByteShelf$Row")] [.ref a1, .int (nI w)] (sf_w a0 a1 a2 a3 cB cT LP gb md ct tb nm tk oc en fs la g st ln bf af) sz) (va_Qi (fun (r : Int32) (u : Nat × (Nat → Int32) × (Nat → Nat)) => r = nI u.1 ∧ u.1 + w ≤ 400000 ∧ sf_lay u.2.2 ln 0 cs u.1 ∧ (∀ x, x ∈ cs → ∀ i, i < ln x → u.2.1 (u.2.2 x + i) = g (st x + i)) ∧ sb_Fit u.2.1) (sf_E (dC, dI) vwCl (va_A (sf_w a0 a1 a2 a3 cB cT LP gb md ct tb nm tk oc en fs la g st ln bf af) sz) (fun (u : Nat × (Nat → Int32) × (Nat → Nat)) => sf_w a0 a1 a2 a3 cB cT LP gb md ct tb nm tk oc (u.1 + w) fs la u.2.1 u.2.2 ln bf af)) (va_A (sf_w a0 a1 a2 a3 cB cT LP gb md ct tb nm tk oc en fs la g st ln bf af) sz)) 0 0 (va_A (sf_w a0 a1 a2 a3 cB cT LP gb md ct tb nm tk oc en fs la g st ln bf af) sz) := by
  refine Met.ofW (cc := cX0_cut) (maxL := 3) (ret := (some .int)) (by decide) rfl ?_
  intro p e s m args below meth c s₁ B hml hv
  obtain ⟨rfl, hsz, hP, hK, hD0, hN⟩ := hv
  have hx := B.exec
  have hb := B.bytes
  have hr := B.returns
  have hts := atoms_spec (ws := wsX0_cut) B.pre
  have hown : s.vm.findClass RX0 = some m.cls := findClass_of_methodNamed B.named
  have hlocks := B.notSynchronized
  subst hsz
  have hD := hD0.self (sz := s.heap.size)
  generalize hAe : va_A (sf_w a0 a1 a2 a3 cB cT LP gb md ct tb nm tk oc en fs la g st ln bf af) s.heap.size = A at hD ⊢
  have hA : ∀ q : Nat, s.heap.size ≤ q → A q := fun q h => by rw [← hAe]; exact Or.inr h
  have hS : va_S A s.heap s.heap [] := va_S.rf
  have hl := lv_entry ([.ref a1, .int (nI w)]) (n := 3) (Nat.le_of_ble_eq_true rfl)
  rw [lg_entry_eq]
  generalize (lg_sl ([.ref a1, .int (nI w)]) ++ List.replicate (3 - (lg_sl ([.ref a1, .int (nI w)])).length) Slot.unset).toArray = ls at hl ⊢
  have hl : lv_has ls 3 [(0, .ref a1), (1, .int (nI w))] := hl
  obtain ⟨hoc1, hen⟩ := sf_MI_oc hM
  refine lv_iload_n hx hb dX0_cut_0 rfl (lv_at hl 1 rfl) ?_
  refine lv_ldc (v := nI 400000) hx hb hown (hts _ (sf_mem cn_X0_9 rfl)) dX0_cut_1 ?_
  refine lv_aload_n hx hb dX0_cut_3 rfl (lv_at hl 0 rfl) ?_
  refine va_get (D := (dC, dI)) (ci := 0) (v := .int (nI en)) (C := RX0) (T := TX0) (N := 5) hx hb hts sf_inX0 hown hK hP 1 rfl rfl 2 (by decide) (hts _ (sf_mem fl_X0_20 rfl)) (fun _ h9 => h9) rfl dX0_cut_4 ?_
  refine sf_isub hx hb (by omega) dX0_cut_7 ?_
  refine sf_icmp_le (tgt := 15) hx hb (by omega) (by omega) dX0_cut_8 (by decide) (fun c_8 => ?_) (fun c_8 => ?_)
  · refine lv_aload_n hx hb dX0_cut_15 rfl (lv_at hl 0 rfl) ?_
    refine va_get (D := (dC, dI)) (ci := 0) (v := .int (nI en)) (C := RX0) (T := TX0) (N := 5) hx hb hts sf_inX0 hown hK hP 1 rfl rfl 2 (by decide) (hts _ (sf_mem fl_X0_20 rfl)) (fun _ h9 => h9) rfl dX0_cut_16 ?_
    refine lv_istore_n (lv' := [(2, .int (nI en)), (0, .ref a1), (1, .int (nI w))]) hx hb dX0_cut_19 rfl hl (by decide) rfl (fun ls hl => ?_)
    refine lv_aload_n hx hb dX0_cut_20 rfl (lv_at hl 1 rfl) ?_
    refine lv_dup hx hb dX0_cut_21 rfl ?_
    refine va_get (D := (dC, dI)) (ci := 0) (v := .int (nI en)) (C := RX0) (T := TX0) (N := 5) hx hb hts sf_inX0 hown hK hP 1 rfl rfl 2 (by decide) (hts _ (sf_mem fl_X0_20 rfl)) (fun _ h9 => h9) rfl dX0_cut_22 ?_
    refine lv_iload_n hx hb dX0_cut_25 rfl (lv_at hl 2 rfl) ?_
    refine sf_iadd hx hb dX0_cut_26 ?_
    refine va_put (D := (dC, dI)) (ci := 0) (v := .int (nI (en + w))) (ty := .int) (C := RX0) (T := TX0) (N := 5) hx hb hts sf_inX0 tyX0 tyX0_ok nmX0 hown hK hP hD hS 1 rfl rfl 2 (by decide) (hts _ (sf_mem fl_X0_20 rfl)) (fun _ h9 => h9) rfl (by decide +kernel) rfl rfl (Nat.le_of_ble_eq_true rfl) dX0_cut_27 (fun H locs hP hD hS => ?_)
    have hP : va_P (dC, dI) vwCl (sf_w a0 a1 a2 a3 cB cT LP gb md ct tb nm tk oc (en + w) fs la g st ln bf af) H := hP
    have hD : va_D A (sf_w a0 a1 a2 a3 cB cT LP gb md ct tb nm tk oc (en + w) fs la g st ln bf af) := hD
    refine lv_iload_n hx hb dX0_cut_30 rfl (lv_at hl 0 rfl) ?_
    exact W.iret (v := nI en) hx hb hr (fun t ht hW => ⟨⟨_, (en, g, st), rfl, ⟨rfl, by dsimp only; omega, hM.2.2.2.2.2.1, fun _ _ _ _ => rfl, hM.2.2.2.2.2.2.2.2.2⟩, by rw [ht]; exact hP, hD⟩, hS.F ht⟩) hS.2.2 dX0_cut_31
  · refine lv_aload_n hx hb dX0_cut_11 rfl (lv_at hl 0 rfl) ?_
    refine sf_cv (sf_runV (b := a1) (As := []) (rest := []) ⟨hx, hb, hml, hown, hts⟩ sf_has (c_pushTogether l dC dI a0 a1 a2 a3 cB cT LP gb md ct tb nm tk oc en fs la g st ln bf af _ cs hM) k_X0_72 ⟨sf_blind, va_recv hK hP (ci := 0) (q0 := 1) rfl rfl, sf_preU hP hK hD hN⟩ rfl hl.1 (Nat.le_of_ble_eq_true rfl) ⟨(Nat.le_of_ble_eq_true rfl), (Nat.le_of_ble_eq_true rfl)⟩ ⟨rfl, rfl⟩ ⟨Nat.zero_le _, Nat.zero_le _⟩ dX0_cut_12) hD hS hA (fun u_12 H locs h_12 hP hD hS => ?_)
    obtain ⟨g1, st1⟩ := u_12
    obtain ⟨p1, p2, p3⟩ := h_12
    dsimp only at p1 p2 p3
    have hP : va_P (dC, dI) vwCl (sf_w a0 a1 a2 a3 cB cT LP gb md ct tb nm tk oc oc fs la g1 st1 ln bf af) H := hP
    have hD : va_D A (sf_w a0 a1 a2 a3 cB cT LP gb md ct tb nm tk oc oc fs la g1 st1 ln bf af) := hD
    refine lv_aload_n hx hb dX0_cut_15 rfl (lv_at hl 0 rfl) ?_
    refine va_get (D := (dC, dI)) (ci := 0) (v := .int (nI oc)) (C := RX0) (T := TX0) (N := 5) hx hb hts sf_inX0 hown hK hP 1 rfl rfl 2 (by decide) (hts _ (sf_mem fl_X0_20 rfl)) (fun _ h9 => h9) rfl dX0_cut_16 ?_
    refine lv_istore_n (lv' := [(2, .int (nI oc)), (0, .ref a1), (1, .int (nI w))]) hx hb dX0_cut_19 rfl hl (by decide) rfl (fun ls hl => ?_)
    refine lv_aload_n hx hb dX0_cut_20 rfl (lv_at hl 1 rfl) ?_
    refine lv_dup hx hb dX0_cut_21 rfl ?_
    refine va_get (D := (dC, dI)) (ci := 0) (v := .int (nI oc)) (C := RX0) (T := TX0) (N := 5) hx hb hts sf_inX0 hown hK hP 1 rfl rfl 2 (by decide) (hts _ (sf_mem fl_X0_20 rfl)) (fun _ h9 => h9) rfl dX0_cut_22 ?_
    refine lv_iload_n hx hb dX0_cut_25 rfl (lv_at hl 2 rfl) ?_
    refine sf_iadd hx hb dX0_cut_26 ?_
    refine va_put (D := (dC, dI)) (ci := 0) (v := .int (nI (oc + w))) (ty := .int) (C := RX0) (T := TX0) (N := 5) hx hb hts sf_inX0 tyX0 tyX0_ok nmX0 hown hK hP hD hS 1 rfl rfl 2 (by decide) (hts _ (sf_mem fl_X0_20 rfl)) (fun _ h9 => h9) rfl (by decide +kernel) rfl rfl (Nat.le_of_ble_eq_true rfl) dX0_cut_27 (fun H locs hP hD hS => ?_)
    have hP : va_P (dC, dI) vwCl (sf_w a0 a1 a2 a3 cB cT LP gb md ct tb nm tk oc (oc + w) fs la g1 st1 ln bf af) H := hP
    have hD : va_D A (sf_w a0 a1 a2 a3 cB cT LP gb md ct tb nm tk oc (oc + w) fs la g1 st1 ln bf af) := hD
    refine lv_iload_n hx hb dX0_cut_30 rfl (lv_at hl 0 rfl) ?_
    exact W.iret (v := nI oc) hx hb hr (fun t ht hW => ⟨⟨_, (oc, g1, st1), rfl, ⟨rfl, by dsimp only; omega, p1, p2, p3⟩, by rw [ht]; exact hP, hD⟩, hS.F ht⟩) hS.2.2 dX0_cut_31
set_option maxHeartbeats 4000000 in
set_option maxRecDepth 100000 in
/-- lay(row, n): n bytes 0 at the end -/
theorem c_lay (l : Launch) (dC : Nat → ClassId) (dI : Nat → Nat → Nat) (a0 a1 a2 a3 : Nat) (cB cT : ClassId) (LP : List Nat) (gb : Option Nat) (md ct : Nat) (tb : Nat → Option Nat) (nm tk : Nat → Nat) (oc en : Nat) (fs la : Option Nat) (g : Nat → Int32) (st ln : Nat → Nat) (bf af : Nat → Option Nat) (sz : Nat) (cs : List Nat) (hM : sf_MI LP cs oc en fs la g st ln bf af) (a : Nat) (ha : a ∈ LP) (hac : a ∉ cs) (n : Nat) (hn : n ≤ 16384) (hw : oc + sf_P n ≤ 400000) : Met l yX0_lay wsX0_lay ({ frames := 3, cells := 0, slots := 0, locals := 90 } : Room) (sf_Pre (dC, dI) vwCl [(cB, .byte), (cT, .object "ByteShelf$Row")] [.ref a1, .ref a, .int (nI n)] (sf_w a0 a1 a2 a3 cB cT LP gb md ct tb nm tk oc en fs la g st ln bf af) sz) (va_Qv (fun (u : Nat × (Nat → Int32) × (Nat → Nat)) => sf_MI LP (cs ++ [a]) (oc + sf_P n) u.1 (sf_pk la (some a) fs) (some a) u.2.1 u.2.2 (va_up ln a n) (va_up bf a la) (sf_apA af la a) ∧ (∀ x, x ∈ cs → ∀ i, i < ln x → u.2.1 (u.2.2 x + i) = g (st x + i)) ∧ ∀ i, i < n → u.2.1 (u.2.2 a + i) = 0) (sf_E (dC, dI) vwCl (va_A (sf_w a0 a1 a2 a3 cB cT LP gb md ct tb nm tk oc en fs la g st ln bf af) sz) (fun (u : Nat × (Nat → Int32) × (Nat → Nat)) => sf_w a0 a1 a2 a3 cB cT LP gb md ct tb nm tk (oc + sf_P n) u.1 (sf_pk la (some a) fs) (some a) u.2.1 u.2.2 (va_up ln a n) (va_up bf a la) (sf_apA af la a))) (va_A (sf_w a0 a1 a2 a3 cB cT LP gb md ct tb nm tk oc en fs la g st ln bf af) sz)) 0 0 (va_A (sf_w a0 a1 a2 a3 cB cT LP gb md ct tb nm tk oc en fs la g st ln bf af) sz) := by
  refine Met.ofW (cc := cX0_lay) (maxL := 4) (ret := none) (by decide) rfl ?_
  intro p e s m args below meth c s₁ B hml hv
  obtain ⟨rfl, hsz, hP, hK, hD0, hN⟩ := hv
  have hx := B.exec
  have hb := B.bytes
  have hr := B.returns
  have hts := atoms_spec (ws := wsX0_lay) B.pre
  have hown : s.vm.findClass RX0 = some m.cls := findClass_of_methodNamed B.named
  have hlocks := B.notSynchronized
  subst hsz
  have hD := hD0.self (sz := s.heap.size)
  generalize hAe : va_A (sf_w a0 a1 a2 a3 cB cT LP gb md ct tb nm tk oc en fs la g st ln bf af) s.heap.size = A at hD ⊢
  have hA : ∀ q : Nat, s.heap.size ≤ q → A q := fun q h => by rw [← hAe]; exact Or.inr h
  have hS : va_S A s.heap s.heap [] := va_S.rf
  have hl := lv_entry ([.ref a1, .ref a, .int (nI n)]) (n := 4) (Nat.le_of_ble_eq_true rfl)
  rw [lg_entry_eq]
  generalize (lg_sl ([.ref a1, .ref a, .int (nI n)]) ++ List.replicate (4 - (lg_sl ([.ref a1, .ref a, .int (nI n)])).length) Slot.unset).toArray = ls at hl ⊢
  have hl : lv_has ls 4 [(0, .ref a1), (1, .ref a), (2, .int (nI n))] := hl
  have hPn2 := sf_P_ge n
  refine lv_iload_n hx hb dX0_lay_0 rfl (lv_at hl 2 rfl) ?_
  refine vp_callSi (va_Run.run (sf_runP (As := [.int (nI n)]) (rest := []) ⟨hx, hb, hml, hown, hts⟩ sf_has (c_placesFor l n (by omega)) hN co_X2_placesFor sm_X2_placesFor in_X2 k_X0_30 ⟨sf_blindT, sf_preT⟩ rfl hl.1 (Nat.le_of_ble_eq_true rfl) ⟨(Nat.le_of_ble_eq_true rfl), (Nat.le_of_ble_eq_true rfl)⟩ ⟨rfl, rfl⟩ ⟨Nat.zero_le _, Nat.zero_le _⟩ dX0_lay_1)) (fun r_1 h_1 => ?_)
  subst h_1
  refine lv_istore_n (lv' := [(3, .int (nI (sf_P n))), (0, .ref a1), (1, .ref a), (2, .int (nI n))]) hx hb dX0_lay_4 rfl hl (by decide) rfl (fun ls hl => ?_)
  refine lv_aload_n hx hb dX0_lay_5 rfl (lv_at hl 2 rfl) ?_
  refine lv_aload_n hx hb dX0_lay_6 rfl (lv_at hl 1 rfl) ?_
  refine lv_iload_n hx hb dX0_lay_7 rfl (lv_at hl 0 rfl) ?_
  refine sf_ci (sf_runV (b := a1) (As := [.int (nI (sf_P n))]) (rest := [.ref a]) ⟨hx, hb, hml, hown, hts⟩ sf_has (c_cut l dC dI a0 a1 a2 a3 cB cT LP gb md ct tb nm tk oc en fs la g st ln bf af _ cs hM (sf_P n) hw) k_X0_34 ⟨sf_blind, va_recv hK hP (ci := 0) (q0 := 1) rfl rfl, sf_preU hP hK hD hN⟩ rfl hl.1 (Nat.le_of_ble_eq_true rfl) ⟨(Nat.le_of_ble_eq_true rfl), (Nat.le_of_ble_eq_true rfl)⟩ ⟨rfl, rfl⟩ ⟨Nat.zero_le _, Nat.zero_le _⟩ dX0_lay_8) hD hS hA (fun r_8 u_8 H locs h_8 hP hD hS => ?_)
  obtain ⟨b, g1, st1⟩ := u_8
  obtain ⟨e_8, p2, p3, p4, p5⟩ := h_8
  dsimp only at e_8 p2 p3 p4 p5
  subst e_8
  have hP : va_P (dC, dI) vwCl (sf_w a0 a1 a2 a3 cB cT LP gb md ct tb nm tk oc (b + (sf_P n)) fs la g1 st1 ln bf af) H := hP
  have hD : va_D A (sf_w a0 a1 a2 a3 cB cT LP gb md ct tb nm tk oc (b + (sf_P n)) fs la g1 st1 ln bf af) := hD
  refine sf_rput (D := (dC, dI)) (ci := 1) (v := .int (nI b)) (ty := .int) (C := RX1) (T := TX1) (N := 6) hx hb hts sf_inX1 tyX1 tyX1_ok nmX1 hown hK hP hD hS ha rfl rfl 2 (by decide) (hts _ (sf_mem fl_X0_37 rfl)) (fun _ h9 => h9) rfl (by decide +kernel) rfl rfl (Nat.le_of_ble_eq_true rfl) (sf_rw_st b) dX0_lay_11 (fun H locs hP hD hS => ?_)
  have hP : va_P (dC, dI) vwCl (sf_w a0 a1 a2 a3 cB cT LP gb md ct tb nm tk oc (b + (sf_P n)) fs la g1 (va_up st1 a b) ln bf af) H := hP
  have hD : va_D A (sf_w a0 a1 a2 a3 cB cT LP gb md ct tb nm tk oc (b + (sf_P n)) fs la g1 (va_up st1 a b) ln bf af) := hD
  refine lv_aload_n hx hb dX0_lay_14 rfl (lv_at hl 2 rfl) ?_
  refine lv_iload_n hx hb dX0_lay_15 rfl (lv_at hl 3 rfl) ?_
  refine sf_rput (D := (dC, dI)) (ci := 1) (v := .int (nI n)) (ty := .int) (C := RX1) (T := TX1) (N := 6) hx hb hts sf_inX1 tyX1 tyX1_ok nmX1 hown hK hP hD hS ha rfl rfl 3 (by decide) (hts _ (sf_mem fl_X0_42 rfl)) (fun _ h9 => h9) rfl (by decide +kernel) rfl rfl (Nat.le_of_ble_eq_true rfl) (sf_rw_ln n) dX0_lay_16 (fun H locs hP hD hS => ?_)
  have hP : va_P (dC, dI) vwCl (sf_w a0 a1 a2 a3 cB cT LP gb md ct tb nm tk oc (b + (sf_P n)) fs la g1 (va_up st1 a b) (va_up ln a n) bf af) H := hP
  have hD : va_D A (sf_w a0 a1 a2 a3 cB cT LP gb md ct tb nm tk oc (b + (sf_P n)) fs la g1 (va_up st1 a b) (va_up ln a n) bf af) := hD
  refine lv_aload_n hx hb dX0_lay_19 rfl (lv_at hl 1 rfl) ?_
  refine lv_dup hx hb dX0_lay_20 rfl ?_
  refine va_get (D := (dC, dI)) (ci := 0) (v := .int (nI oc)) (C := RX0) (T := TX0) (N := 5) hx hb hts sf_inX0 hown hK hP 1 rfl rfl 1 (by decide) (hts _ (sf_mem fl_X0_16 rfl)) (fun _ h9 => h9) rfl dX0_lay_21 ?_
  refine lv_iload_n hx hb dX0_lay_24 rfl (lv_at hl 0 rfl) ?_
  refine sf_iadd hx hb dX0_lay_25 ?_
  refine va_put (D := (dC, dI)) (ci := 0) (v := .int (nI (oc + (sf_P n)))) (ty := .int) (C := RX0) (T := TX0) (N := 5) hx hb hts sf_inX0 tyX0 tyX0_ok nmX0 hown hK hP hD hS 1 rfl rfl 1 (by decide) (hts _ (sf_mem fl_X0_16 rfl)) (fun _ h9 => h9) rfl (by decide +kernel) rfl rfl (Nat.le_of_ble_eq_true rfl) dX0_lay_26 (fun H locs hP hD hS => ?_)
  have hP : va_P (dC, dI) vwCl (sf_w a0 a1 a2 a3 cB cT LP gb md ct tb nm tk (oc + (sf_P n)) (b + (sf_P n)) fs la g1 (va_up st1 a b) (va_up ln a n) bf af) H := hP
  have hD : va_D A (sf_w a0 a1 a2 a3 cB cT LP gb md ct tb nm tk (oc + (sf_P n)) (b + (sf_P n)) fs la g1 (va_up st1 a b) (va_up ln a n) bf af) := hD
  refine lv_aload_n hx hb dX0_lay_29 rfl (lv_at hl 1 rfl) ?_
  refine va_get (D := (dC, dI)) (ci := 0) (v := .ref a2) (C := RX0) (T := TX0) (N := 5) hx hb hts sf_inX0 hown hK hP 1 rfl rfl 0 (by decide) (hts _ (sf_mem fl_X0_10 rfl)) (fun _ h9 => h9) rfl dX0_lay_30 ?_
  refine lv_aload_n hx hb dX0_lay_33 rfl (lv_at hl 2 rfl) ?_
  refine sf_rget (D := (dC, dI)) (ci := 1) (v := .int (nI ((va_up st1 a b) a))) (C := RX1) (T := TX1) (N := 6) hx hb hts sf_inX1 hown hK hP ha rfl rfl 2 (by decide) (hts _ (sf_mem fl_X0_37 rfl)) (fun _ h9 => h9) rfl dX0_lay_34 ?_
  rw [va_up_self]
  refine lv_aload_n hx hb dX0_lay_37 rfl (lv_at hl 2 rfl) ?_
  refine sf_rget (D := (dC, dI)) (ci := 1) (v := .int (nI ((va_up st1 a b) a))) (C := RX1) (T := TX1) (N := 6) hx hb hts sf_inX1 hown hK hP ha rfl rfl 2 (by decide) (hts _ (sf_mem fl_X0_37 rfl)) (fun _ h9 => h9) rfl dX0_lay_38 ?_
  rw [va_up_self]
  refine lv_iload_n hx hb dX0_lay_41 rfl (lv_at hl 3 rfl) ?_
  refine sf_iadd hx hb dX0_lay_42 ?_
  refine lv_iconst (v := nI 0) hx hb dX0_lay_43 (by decide) ?_
  refine sf_cv (sf_runS (As := [.ref a2, .int (nI b), .int (nI (b + n)), .int (nI 0)]) (rest := []) ⟨hx, hb, hml, hown, hts⟩ sf_has (c_fill0 l dC dI [(cB, .byte), (cT, .object "ByteShelf$Row")] (sf_w a0 a1 a2 a3 cB cT LP gb md ct tb nm tk (oc + (sf_P n)) (b + (sf_P n)) fs la g1 (va_up st1 a b) (va_up ln a n) bf af) _ a2 cB 400000 g1 2 0 b (b + n) rfl rfl (by omega) (by omega) (by decide)) k_X0_45 ⟨sf_blind, sf_preU hP hK hD hN⟩ rfl hl.1 (Nat.le_of_ble_eq_true rfl) ⟨(Nat.le_of_ble_eq_true rfl), (Nat.le_of_ble_eq_true rfl)⟩ ⟨rfl, rfl⟩ ⟨Nat.zero_le _, Nat.zero_le _⟩ dX0_lay_44) hD hS hA (fun u_44 H locs h_44 hP hD hS => ?_)
  have hP : va_P (dC, dI) vwCl (sf_w a0 a1 a2 a3 cB cT LP gb md ct tb nm tk (oc + (sf_P n)) (b + (sf_P n)) fs la u_44 (va_up st1 a b) (va_up ln a n) bf af) H := hP
  have hD : va_D A (sf_w a0 a1 a2 a3 cB cT LP gb md ct tb nm tk (oc + (sf_P n)) (b + (sf_P n)) fs la u_44 (va_up st1 a b) (va_up ln a n) bf af) := hD
  refine lv_aload_n hx hb dX0_lay_47 rfl (lv_at hl 1 rfl) ?_
  refine lv_aload_n hx hb dX0_lay_48 rfl (lv_at hl 2 rfl) ?_
  refine sf_cv (sf_runV (b := a1) (As := [.ref a]) (rest := []) ⟨hx, hb, hml, hown, hts⟩ sf_has (c_append l dC dI a0 a1 a2 a3 cB cT LP gb md ct tb nm tk (oc + (sf_P n)) (b + (sf_P n)) fs la u_44 (va_up st1 a b) (va_up ln a n) bf af _ a ha (sf_MI_la hM)) k_X0_51 ⟨sf_blind, va_recv hK hP (ci := 0) (q0 := 1) rfl rfl, sf_preU hP hK hD hN⟩ rfl hl.1 (Nat.le_of_ble_eq_true rfl) ⟨(Nat.le_of_ble_eq_true rfl), (Nat.le_of_ble_eq_true rfl)⟩ ⟨rfl, rfl⟩ ⟨Nat.zero_le _, Nat.zero_le _⟩ dX0_lay_49) hD hS hA (fun u_49 H locs h_49 hP hD hS => ?_)
  have hP : va_P (dC, dI) vwCl (sf_w a0 a1 a2 a3 cB cT LP gb md ct tb nm tk (oc + (sf_P n)) (b + (sf_P n)) (sf_pk la (some a) fs) (some a) u_44 (va_up st1 a b) (va_up ln a n) (va_up bf a la) (sf_apA af la a)) H := hP
  have hD : va_D A (sf_w a0 a1 a2 a3 cB cT LP gb md ct tb nm tk (oc + (sf_P n)) (b + (sf_P n)) (sf_pk la (some a) fs) (some a) u_44 (va_up st1 a b) (va_up ln a n) (va_up bf a la) (sf_apA af la a)) := hD
  exact W.vret hx hb hr (fun t ht hW => ⟨⟨(b + sf_P n, u_44, va_up st1 a b), rfl, sf_lay_post hM hac ha hn p2 p3 p4 p5 h_44, by rw [ht]; exact hP, hD⟩, hS.F ht⟩) hS.2.2 dX0_lay_52
set_option maxHeartbeats 4000000 in
set_option maxRecDepth 100000 in
/-- lift(row): out of the chain, its places free -/
theorem c_lift (l : Launch) (dC : Nat → ClassId) (dI : Nat → Nat → Nat) (a0 a1 a2 a3 : Nat) (cB cT : ClassId) (LP : List Nat) (gb : Option Nat) (md ct : Nat) (tb : Nat → Option Nat) (nm tk : Nat → Nat) (oc en : Nat) (fs la : Option Nat) (g : Nat → Int32) (st ln : Nat → Nat) (bf af : Nat → Option Nat) (sz : Nat) (l1 r1 : List Nat) (a : Nat) (hM : sf_MI LP (l1 ++ a :: r1) oc en fs la g st ln bf af) : Met l yX0_lift wsX0_lift ({ frames := 1, cells := 0, slots := 0, locals := 30 } : Room) (sf_Pre (dC, dI) vwCl [(cB, .byte), (cT, .object "ByteShelf$Row")] [.ref a1, .ref a] (sf_w a0 a1 a2 a3 cB cT LP gb md ct tb nm tk oc en fs la g st ln bf af) sz) (va_Qv (fun _ => True) (sf_E (dC, dI) vwCl (va_A (sf_w a0 a1 a2 a3 cB cT LP gb md ct tb nm tk oc en fs la g st ln bf af) sz) (fun (u : Unit) => sf_w a0 a1 a2 a3 cB cT LP gb md ct tb nm tk (oc - sf_P (ln a)) en (sf_pk (bf a) (af a) fs) (sf_pk (af a) (bf a) la) g st ln (sf_unA bf (af a) (bf a)) (sf_unA af (bf a) (af a)))) (va_A (sf_w a0 a1 a2 a3 cB cT LP gb md ct tb nm tk oc en fs la g st ln bf af) sz)) 0 0 (va_A (sf_w a0 a1 a2 a3 cB cT LP gb md ct tb nm tk oc en fs la g st ln bf af) sz) := by
  refine Met.ofW (cc := cX0_lift) (maxL := 2) (ret := none) (by decide) rfl ?_
  intro p e s m args below meth c s₁ B hml hv
  obtain ⟨rfl, hsz, hP, hK, hD0, hN⟩ := hv
  have hx := B.exec
  have hb := B.bytes
  have hr := B.returns
  have hts := atoms_spec (ws := wsX0_lift) B.pre
  have hown : s.vm.findClass RX0 = some m.cls := findClass_of_methodNamed B.named
  have hlocks := B.notSynchronized
  subst hsz
  have hD := hD0.self (sz := s.heap.size)
  generalize hAe : va_A (sf_w a0 a1 a2 a3 cB cT LP gb md ct tb nm tk oc en fs la g st ln bf af) s.heap.size = A at hD ⊢
  have hA : ∀ q : Nat, s.heap.size ≤ q → A q := fun q h => by rw [← hAe]; exact Or.inr h
  have hS : va_S A s.heap s.heap [] := va_S.rf
  have hl := lv_entry ([.ref a1, .ref a]) (n := 2) (Nat.le_of_ble_eq_true rfl)
  rw [lg_entry_eq]
  generalize (lg_sl ([.ref a1, .ref a]) ++ List.replicate (2 - (lg_sl ([.ref a1, .ref a])).length) Slot.unset).toArray = ls at hl ⊢
  have hl : lv_has ls 2 [(0, .ref a1), (1, .ref a)] := hl
  obtain ⟨ha, hs1, hs2, hs3, hs4⟩ := sf_MI_st hM (a := a) (by simp)
  obtain ⟨hoc1, hen⟩ := sf_MI_oc hM
  refine lv_aload_n hx hb dX0_lift_0 rfl (lv_at hl 0 rfl) ?_
  refine lv_aload_n hx hb dX0_lift_1 rfl (lv_at hl 1 rfl) ?_
  refine sf_cv (sf_runV (b := a1) (As := [.ref a]) (rest := []) ⟨hx, hb, hml, hown, hts⟩ sf_has (c_unlink l dC dI a0 a1 a2 a3 cB cT LP gb md ct tb nm tk oc en fs la g st ln bf af _ a ha (bf a) (af a) rfl rfl (sf_MI_nb hM).1 (sf_MI_nb hM).2) k_X0_55 ⟨sf_blind, va_recv hK hP (ci := 0) (q0 := 1) rfl rfl, sf_preU hP hK hD hN⟩ rfl hl.1 (Nat.le_of_ble_eq_true rfl) ⟨(Nat.le_of_ble_eq_true rfl), (Nat.le_of_ble_eq_true rfl)⟩ ⟨rfl, rfl⟩ ⟨Nat.zero_le _, Nat.zero_le _⟩ dX0_lift_2) hD hS hA (fun u_2 H locs h_2 hP hD hS => ?_)
  have hP : va_P (dC, dI) vwCl (sf_w a0 a1 a2 a3 cB cT LP gb md ct tb nm tk oc en (sf_pk (bf a) (af a) fs) (sf_pk (af a) (bf a) la) g st ln (sf_unA bf (af a) (bf a)) (sf_unA af (bf a) (af a))) H := hP
  have hD : va_D A (sf_w a0 a1 a2 a3 cB cT LP gb md ct tb nm tk oc en (sf_pk (bf a) (af a) fs) (sf_pk (af a) (bf a) la) g st ln (sf_unA bf (af a) (bf a)) (sf_unA af (bf a) (af a))) := hD
  refine lv_aload_n hx hb dX0_lift_5 rfl (lv_at hl 0 rfl) ?_
  refine lv_dup hx hb dX0_lift_6 rfl ?_
  refine va_get (D := (dC, dI)) (ci := 0) (v := .int (nI oc)) (C := RX0) (T := TX0) (N := 5) hx hb hts sf_inX0 hown hK hP 1 rfl rfl 1 (by decide) (hts _ (sf_mem fl_X0_16 rfl)) (fun _ h9 => h9) rfl dX0_lift_7 ?_
  refine lv_aload_n hx hb dX0_lift_10 rfl (lv_at hl 1 rfl) ?_
  refine sf_rget (D := (dC, dI)) (ci := 1) (v := .int (nI (ln a))) (C := RX1) (T := TX1) (N := 6) hx hb hts sf_inX1 hown hK hP ha rfl rfl 3 (by decide) (hts _ (sf_mem fl_X0_42 rfl)) (fun _ h9 => h9) rfl dX0_lift_11 ?_
  refine vp_callSi (va_Run.run (sf_runP (As := [.int (nI (ln a))]) (rest := [.int (nI oc), .ref a1]) ⟨hx, hb, hml, hown, hts⟩ sf_has (c_placesFor l (ln a) (by omega)) hN co_X2_placesFor sm_X2_placesFor in_X2 k_X0_30 ⟨sf_blindT, sf_preT⟩ rfl hl.1 (Nat.le_of_ble_eq_true rfl) ⟨(Nat.le_of_ble_eq_true rfl), (Nat.le_of_ble_eq_true rfl)⟩ ⟨rfl, rfl⟩ ⟨Nat.zero_le _, Nat.zero_le _⟩ dX0_lift_14)) (fun r_14 h_14 => ?_)
  subst h_14
  refine sf_isub hx hb (by omega) dX0_lift_17 ?_
  refine va_put (D := (dC, dI)) (ci := 0) (v := .int (nI (oc - (sf_P (ln a))))) (ty := .int) (C := RX0) (T := TX0) (N := 5) hx hb hts sf_inX0 tyX0 tyX0_ok nmX0 hown hK hP hD hS 1 rfl rfl 1 (by decide) (hts _ (sf_mem fl_X0_16 rfl)) (fun _ h9 => h9) rfl (by decide +kernel) rfl rfl (Nat.le_of_ble_eq_true rfl) dX0_lift_18 (fun H locs hP hD hS => ?_)
  have hP : va_P (dC, dI) vwCl (sf_w a0 a1 a2 a3 cB cT LP gb md ct tb nm tk (oc - (sf_P (ln a))) en (sf_pk (bf a) (af a) fs) (sf_pk (af a) (bf a) la) g st ln (sf_unA bf (af a) (bf a)) (sf_unA af (bf a) (af a))) H := hP
  have hD : va_D A (sf_w a0 a1 a2 a3 cB cT LP gb md ct tb nm tk (oc - (sf_P (ln a))) en (sf_pk (bf a) (af a) fs) (sf_pk (af a) (bf a) la) g st ln (sf_unA bf (af a) (bf a)) (sf_unA af (bf a) (af a))) := hD
  exact W.vret hx hb hr (fun t ht hW => ⟨⟨(), rfl, trivial, by rw [ht]; exact hP, hD⟩, hS.F ht⟩) hS.2.2 dX0_lift_21
theorem sf_move_post {LP l1 r1 : List Nat} {oc en b w a : Nat} {fs la : Option Nat} {g g1 : Nat → Int32} {st st1 ln : Nat → Nat} {bf af : Nat → Option Nat} (hM : sf_MI LP (l1 ++ a :: r1) oc en fs la g st ln bf af) (p2 : b + w ≤ 400000) (p3 : sf_lay st1 ln 0 (l1 ++ a :: r1) b) (p4 : ∀ x, x ∈ l1 ++ a :: r1 → ∀ i, i < ln x → g1 (st1 x + i) = g (st x + i)) (p5 : sb_Fit g1) (hlw : ln a ≤ w) :
    b + w ≤ 400000 ∧ va_up st1 a b a = b ∧ sf_lay (va_up st1 a b) ln 0 (l1 ++ r1) b ∧ (∀ x, x ∈ l1 ++ a :: r1 → ∀ i, i < ln x → va_cpy g1 g1 (st1 a) b (ln a) (va_up st1 a b x + i) = g (st x + i)) ∧ sb_Fit (va_cpy g1 g1 (st1 a) b (ln a)) := by
  obtain ⟨n1, n2, n3, n4⟩ := sf_nd_mid hM.1
  refine ⟨p2, va_up_self _ _ _, sf_lay_congr (sf_lay_un p3) (fun x hx => ⟨va_up_ne _ _ (fun q => (List.mem_append.mp hx).elim (fun h => n1 (q ▸ h)) (fun h => n2 (q ▸ h))), Nat.le_refl _⟩), ?_, sb_fitC p5 p5⟩
  intro x hx i hi
  by_cases q : x = a
  · subst q
    rw [va_up_self, pk_cpy_in (by omega) (by omega), Nat.add_sub_cancel_left]
    exact p4 x hx i hi
  · have q1 := (sf_lay_in p3 hx).2
    have q2 := sf_P_ge (ln x)
    rw [va_up_ne _ _ q, pk_cpy_out (by omega)]
    exact p4 x hx i hi
set_option maxHeartbeats 4000000 in
set_option maxRecDepth 100000 in
/-- move(row, w): to new places at the end -/
theorem c_move (l : Launch) (dC : Nat → ClassId) (dI : Nat → Nat → Nat) (a0 a1 a2 a3 : Nat) (cB cT : ClassId) (LP : List Nat) (gb : Option Nat) (md ct : Nat) (tb : Nat → Option Nat) (nm tk : Nat → Nat) (oc en : Nat) (fs la : Option Nat) (g : Nat → Int32) (st ln : Nat → Nat) (bf af : Nat → Option Nat) (sz : Nat) (l1 r1 : List Nat) (a : Nat) (hM : sf_MI LP (l1 ++ a :: r1) oc en fs la g st ln bf af) (w : Nat) (hw : oc + w ≤ 400000) (hlw : ln a ≤ w) : Met l yX0_move wsX0_move ({ frames := 3, cells := 0, slots := 0, locals := 90 } : Room) (sf_Pre (dC, dI) vwCl [(cB, .byte), (cT, .object "ByteShelf$Row")] [.ref a1, .ref a, .int (nI w)] (sf_w a0 a1 a2 a3 cB cT LP gb md ct tb nm tk oc en fs la g st ln bf af) sz) (va_Qv (fun (u : Nat × (Nat → Int32) × (Nat → Nat)) => u.1 + w ≤ 400000 ∧ u.2.2 a = u.1 ∧ sf_lay u.2.2 ln 0 (l1 ++ r1) u.1 ∧ (∀ x, x ∈ l1 ++ a :: r1 → ∀ i, i < ln x → u.2.1 (u.2.2 x + i) = g (st x + i)) ∧ sb_Fit u.2.1) (sf_E (dC, dI) vwCl (va_A (sf_w a0 a1 a2 a3 cB cT LP gb md ct tb nm tk oc en fs la g st ln bf af) sz) (fun (u : Nat × (Nat → Int32) × (Nat → Nat)) => sf_w a0 a1 a2 a3 cB cT LP gb md ct tb nm tk oc (u.1 + w) (sf_pk (sf_pk (af a) (bf a) la) (some a) (sf_pk (bf a) (af a) fs)) (some a) u.2.1 u.2.2 ln (va_up (sf_unA bf (af a) (bf a)) a (sf_pk (af a) (bf a) la)) (sf_apA (sf_unA af (bf a) (af a)) (sf_pk (af a) (bf a) la) a))) (va_A (sf_w a0 a1 a2 a3 cB cT LP gb md ct tb nm tk oc en fs la g st ln bf af) sz)) 0 0 (va_A (sf_w a0 a1 a2 a3 cB cT LP gb md ct tb nm tk oc en fs la g st ln bf af) sz) := by
  refine Met.ofW (cc := cX0_move) (maxL := 4) (ret := none) (by decide) rfl ?_
  intro p e s m args below meth c s₁ B hml hv
  obtain ⟨rfl, hsz, hP, hK, hD0, hN⟩ := hv
  have hx := B.exec
  have hb := B.bytes
  have hr := B.returns
  have hts := atoms_spec (ws := wsX0_move) B.pre
  have hown : s.vm.findClass RX0 = some m.cls := findClass_of_methodNamed B.named
  have hlocks := B.notSynchronized
  subst hsz
  have hD := hD0.self (sz := s.heap.size)
  generalize hAe : va_A (sf_w a0 a1 a2 a3 cB cT LP gb md ct tb nm tk oc en fs la g st ln bf af) s.heap.size = A at hD ⊢
  have hA : ∀ q : Nat, s.heap.size ≤ q → A q := fun q h => by rw [← hAe]; exact Or.inr h
  have hS : va_S A s.heap s.heap [] := va_S.rf
  have hl := lv_entry ([.ref a1, .ref a, .int (nI w)]) (n := 4) (Nat.le_of_ble_eq_true rfl)
  rw [lg_entry_eq]
  generalize (lg_sl ([.ref a1, .ref a, .int (nI w)]) ++ List.replicate (4 - (lg_sl ([.ref a1, .ref a, .int (nI w)])).length) Slot.unset).toArray = ls at hl ⊢
  have hl : lv_has ls 4 [(0, .ref a1), (1, .ref a), (2, .int (nI w))] := hl
  obtain ⟨ha, hs1, hs2, hs3, hs4⟩ := sf_MI_st hM (a := a) (by simp)
  obtain ⟨hoc1, hen⟩ := sf_MI_oc hM
  refine lv_aload_n hx hb dX0_move_0 rfl (lv_at hl 0 rfl) ?_
  refine lv_iload_n hx hb dX0_move_1 rfl (lv_at hl 2 rfl) ?_
  refine sf_ci (sf_runV (b := a1) (As := [.int (nI w)]) (rest := []) ⟨hx, hb, hml, hown, hts⟩ sf_has (c_cut l dC dI a0 a1 a2 a3 cB cT LP gb md ct tb nm tk oc en fs la g st ln bf af _ (l1 ++ a :: r1) hM w hw) k_X0_34 ⟨sf_blind, va_recv hK hP (ci := 0) (q0 := 1) rfl rfl, sf_preU hP hK hD hN⟩ rfl hl.1 (Nat.le_of_ble_eq_true rfl) ⟨(Nat.le_of_ble_eq_true rfl), (Nat.le_of_ble_eq_true rfl)⟩ ⟨rfl, rfl⟩ ⟨Nat.zero_le _, Nat.zero_le _⟩ dX0_move_2) hD hS hA (fun r_2 u_2 H locs h_2 hP hD hS => ?_)
  obtain ⟨b, g1, st1⟩ := u_2
  obtain ⟨e_2, p2, p3, p4, p5⟩ := h_2
  dsimp only at e_2 p2 p3 p4 p5
  subst e_2
  have hP : va_P (dC, dI) vwCl (sf_w a0 a1 a2 a3 cB cT LP gb md ct tb nm tk oc (b + w) fs la g1 st1 ln bf af) H := hP
  have hD : va_D A (sf_w a0 a1 a2 a3 cB cT LP gb md ct tb nm tk oc (b + w) fs la g1 st1 ln bf af) := hD
  have q1 := (sf_lay_in p3 (a := a) (by simp)).2
  have q2 := sf_P_ge (ln a)
  refine lv_istore_n (lv' := [(3, .int (nI b)), (0, .ref a1), (1, .ref a), (2, .int (nI w))]) hx hb dX0_move_5 rfl hl (by decide) rfl (fun ls hl => ?_)
  refine lv_aload_n hx hb dX0_move_6 rfl (lv_at hl 1 rfl) ?_
  refine va_get (D := (dC, dI)) (ci := 0) (v := .ref a2) (C := RX0) (T := TX0) (N := 5) hx hb hts sf_inX0 hown hK hP 1 rfl rfl 0 (by decide) (hts _ (sf_mem fl_X0_10 rfl)) (fun _ h9 => h9) rfl dX0_move_7 ?_
  refine lv_aload_n hx hb dX0_move_10 rfl (lv_at hl 2 rfl) ?_
  refine sf_rget (D := (dC, dI)) (ci := 1) (v := .int (nI (st1 a))) (C := RX1) (T := TX1) (N := 6) hx hb hts sf_inX1 hown hK hP ha rfl rfl 2 (by decide) (hts _ (sf_mem fl_X0_37 rfl)) (fun _ h9 => h9) rfl dX0_move_11 ?_
  refine lv_aload_n hx hb dX0_move_14 rfl (lv_at hl 1 rfl) ?_
  refine va_get (D := (dC, dI)) (ci := 0) (v := .ref a2) (C := RX0) (T := TX0) (N := 5) hx hb hts sf_inX0 hown hK hP 1 rfl rfl 0 (by decide) (hts _ (sf_mem fl_X0_10 rfl)) (fun _ h9 => h9) rfl dX0_move_15 ?_
  refine lv_iload_n hx hb dX0_move_18 rfl (lv_at hl 0 rfl) ?_
  refine lv_aload_n hx hb dX0_move_19 rfl (lv_at hl 2 rfl) ?_
  refine sf_rget (D := (dC, dI)) (ci := 1) (v := .int (nI (ln a))) (C := RX1) (T := TX1) (N := 6) hx hb hts sf_inX1 hown hK hP ha rfl rfl 3 (by decide) (hts _ (sf_mem fl_X0_42 rfl)) (fun _ h9 => h9) rfl dX0_move_20 ?_
  refine sf_copy hx hb (hml.trans hl.1.symm) hown hts sf_has ml_X0_66 hK hP hD hS 2 0 rfl rfl (by decide) (by omega) (by omega) p5 (Nat.le_of_ble_eq_true rfl) (Nat.le_of_ble_eq_true rfl) dX0_move_23 (fun H locs hP hD hS => ?_)
  have hP : va_P (dC, dI) vwCl (sf_w a0 a1 a2 a3 cB cT LP gb md ct tb nm tk oc (b + w) fs la (va_cpy g1 g1 (st1 a) b (ln a)) st1 ln bf af) H := hP
  have hD : va_D A (sf_w a0 a1 a2 a3 cB cT LP gb md ct tb nm tk oc (b + w) fs la (va_cpy g1 g1 (st1 a) b (ln a)) st1 ln bf af) := hD
  refine lv_aload_n hx hb dX0_move_26 rfl (lv_at hl 2 rfl) ?_
  refine lv_iload_n hx hb dX0_move_27 rfl (lv_at hl 0 rfl) ?_
  refine sf_rput (D := (dC, dI)) (ci := 1) (v := .int (nI b)) (ty := .int) (C := RX1) (T := TX1) (N := 6) hx hb hts sf_inX1 tyX1 tyX1_ok nmX1 hown hK hP hD hS ha rfl rfl 2 (by decide) (hts _ (sf_mem fl_X0_37 rfl)) (fun _ h9 => h9) rfl (by decide +kernel) rfl rfl (Nat.le_of_ble_eq_true rfl) (sf_rw_st b) dX0_move_28 (fun H locs hP hD hS => ?_)
  have hP : va_P (dC, dI) vwCl (sf_w a0 a1 a2 a3 cB cT LP gb md ct tb nm tk oc (b + w) fs la (va_cpy g1 g1 (st1 a) b (ln a)) (va_up st1 a b) ln bf af) H := hP
  have hD : va_D A (sf_w a0 a1 a2 a3 cB cT LP gb md ct tb nm tk oc (b + w) fs la (va_cpy g1 g1 (st1 a) b (ln a)) (va_up st1 a b) ln bf af) := hD
  refine lv_aload_n hx hb dX0_move_31 rfl (lv_at hl 1 rfl) ?_
  refine lv_aload_n hx hb dX0_move_32 rfl (lv_at hl 2 rfl) ?_
  refine sf_cv (sf_runV (b := a1) (As := [.ref a]) (rest := []) ⟨hx, hb, hml, hown, hts⟩ sf_has (c_unlink l dC dI a0 a1 a2 a3 cB cT LP gb md ct tb nm tk oc (b + w) fs la (va_cpy g1 g1 (st1 a) b (ln a)) (va_up st1 a b) ln bf af _ a ha (bf a) (af a) rfl rfl (sf_MI_nb hM).1 (sf_MI_nb hM).2) k_X0_55 ⟨sf_blind, va_recv hK hP (ci := 0) (q0 := 1) rfl rfl, sf_preU hP hK hD hN⟩ rfl hl.1 (Nat.le_of_ble_eq_true rfl) ⟨(Nat.le_of_ble_eq_true rfl), (Nat.le_of_ble_eq_true rfl)⟩ ⟨rfl, rfl⟩ ⟨Nat.zero_le _, Nat.zero_le _⟩ dX0_move_33) hD hS hA (fun u_33 H locs h_33 hP hD hS => ?_)
  have hP : va_P (dC, dI) vwCl (sf_w a0 a1 a2 a3 cB cT LP gb md ct tb nm tk oc (b + w) (sf_pk (bf a) (af a) fs) (sf_pk (af a) (bf a) la) (va_cpy g1 g1 (st1 a) b (ln a)) (va_up st1 a b) ln (sf_unA bf (af a) (bf a)) (sf_unA af (bf a) (af a))) H := hP
  have hD : va_D A (sf_w a0 a1 a2 a3 cB cT LP gb md ct tb nm tk oc (b + w) (sf_pk (bf a) (af a) fs) (sf_pk (af a) (bf a) la) (va_cpy g1 g1 (st1 a) b (ln a)) (va_up st1 a b) ln (sf_unA bf (af a) (bf a)) (sf_unA af (bf a) (af a))) := hD
  refine lv_aload_n hx hb dX0_move_36 rfl (lv_at hl 1 rfl) ?_
  refine lv_aload_n hx hb dX0_move_37 rfl (lv_at hl 2 rfl) ?_
  refine sf_cv (sf_runV (b := a1) (As := [.ref a]) (rest := []) ⟨hx, hb, hml, hown, hts⟩ sf_has (c_append l dC dI a0 a1 a2 a3 cB cT LP gb md ct tb nm tk oc (b + w) (sf_pk (bf a) (af a) fs) (sf_pk (af a) (bf a) la) (va_cpy g1 g1 (st1 a) b (ln a)) (va_up st1 a b) ln (sf_unA bf (af a) (bf a)) (sf_unA af (bf a) (af a)) _ a ha (sf_MI_la (sf_MI_un hM).2.2)) k_X0_51 ⟨sf_blind, va_recv hK hP (ci := 0) (q0 := 1) rfl rfl, sf_preU hP hK hD hN⟩ rfl hl.1 (Nat.le_of_ble_eq_true rfl) ⟨(Nat.le_of_ble_eq_true rfl), (Nat.le_of_ble_eq_true rfl)⟩ ⟨rfl, rfl⟩ ⟨Nat.zero_le _, Nat.zero_le _⟩ dX0_move_38) hD hS hA (fun u_38 H locs h_38 hP hD hS => ?_)
  have hP : va_P (dC, dI) vwCl (sf_w a0 a1 a2 a3 cB cT LP gb md ct tb nm tk oc (b + w) (sf_pk (sf_pk (af a) (bf a) la) (some a) (sf_pk (bf a) (af a) fs)) (some a) (va_cpy g1 g1 (st1 a) b (ln a)) (va_up st1 a b) ln (va_up (sf_unA bf (af a) (bf a)) a (sf_pk (af a) (bf a) la)) (sf_apA (sf_unA af (bf a) (af a)) (sf_pk (af a) (bf a) la) a)) H := hP
  have hD : va_D A (sf_w a0 a1 a2 a3 cB cT LP gb md ct tb nm tk oc (b + w) (sf_pk (sf_pk (af a) (bf a) la) (some a) (sf_pk (bf a) (af a) fs)) (some a) (va_cpy g1 g1 (st1 a) b (ln a)) (va_up st1 a b) ln (va_up (sf_unA bf (af a) (bf a)) a (sf_pk (af a) (bf a) la)) (sf_apA (sf_unA af (bf a) (af a)) (sf_pk (af a) (bf a) la) a)) := hD
  exact W.vret hx hb hr (fun t ht hW => ⟨⟨(b, va_cpy g1 g1 (st1 a) b (ln a), va_up st1 a b), rfl, sf_move_post hM p2 p3 p4 p5 hlw, by rw [ht]; exact hP, hD⟩, hS.F ht⟩) hS.2.2 dX0_move_41
set_option maxHeartbeats 4000000 in
set_option maxRecDepth 100000 in
/-- setLength(row, n) -/
theorem c_setLength (l : Launch) (dC : Nat → ClassId) (dI : Nat → Nat → Nat) (a0 a1 a2 a3 : Nat) (cB cT : ClassId) (LP : List Nat) (gb : Option Nat) (md ct : Nat) (tb : Nat → Option Nat) (nm tk : Nat → Nat) (oc en : Nat) (fs la : Option Nat) (g : Nat → Int32) (st ln : Nat → Nat) (bf af : Nat → Option Nat) (sz : Nat) (cs : List Nat) (hM : sf_MI LP cs oc en fs la g st ln bf af) (a : Nat) (hac : a ∈ cs) (n : Nat) (hn : n ≤ 16384) : Met l yX0_setLength wsX0_setLength ({ frames := 4, cells := 0, slots := 0, locals := 120 } : Room) (sf_Pre (dC, dI) vwCl [(cB, .byte), (cT, .object "ByteShelf$Row")] [.ref a1, .ref a, .int (nI n)] (sf_w a0 a1 a2 a3 cB cT LP gb md ct tb nm tk oc en fs la g st ln bf af) sz) (va_Qi (fun (r : Int32) (u : List Nat × sf_M) => (r = nI 0 ∧ sf_P (ln a) < sf_P n ∧ 400000 < oc + sf_P n ∧ u = (cs, oc, en, fs, la, g, st, ln, bf, af)) ∨ (r = nI 1 ∧ (sf_P n ≤ sf_P (ln a) ∨ oc + sf_P n ≤ 400000) ∧ sf_SL LP cs a n oc g st ln af u)) (sf_E (dC, dI) vwCl (va_A (sf_w a0 a1 a2 a3 cB cT LP gb md ct tb nm tk oc en fs la g st ln bf af) sz) (fun (u : List Nat × sf_M) => sf_w a0 a1 a2 a3 cB cT LP gb md ct tb nm tk u.2.1 u.2.2.1 u.2.2.2.1 u.2.2.2.2.1 u.2.2.2.2.2.1 u.2.2.2.2.2.2.1 u.2.2.2.2.2.2.2.1 u.2.2.2.2.2.2.2.2.1 u.2.2.2.2.2.2.2.2.2)) (va_A (sf_w a0 a1 a2 a3 cB cT LP gb md ct tb nm tk oc en fs la g st ln bf af) sz)) 0 0 (va_A (sf_w a0 a1 a2 a3 cB cT LP gb md ct tb nm tk oc en fs la g st ln bf af) sz) := by
  refine Met.ofW (cc := cX0_setLength) (maxL := 5) (ret := (some .boolean)) (by decide) rfl ?_
  intro p e s m args below meth c s₁ B hml hv
  obtain ⟨rfl, hsz, hP, hK, hD0, hN⟩ := hv
  have hx := B.exec
  have hb := B.bytes
  have hr := B.returns
  have hts := atoms_spec (ws := wsX0_setLength) B.pre
  have hown : s.vm.findClass RX0 = some m.cls := findClass_of_methodNamed B.named
  have hlocks := B.notSynchronized
  subst hsz
  have hD := hD0.self (sz := s.heap.size)
  generalize hAe : va_A (sf_w a0 a1 a2 a3 cB cT LP gb md ct tb nm tk oc en fs la g st ln bf af) s.heap.size = A at hD ⊢
  have hA : ∀ q : Nat, s.heap.size ≤ q → A q := fun q h => by rw [← hAe]; exact Or.inr h
  have hS : va_S A s.heap s.heap [] := va_S.rf
  have hl := lv_entry ([.ref a1, .ref a, .int (nI n)]) (n := 5) (Nat.le_of_ble_eq_true rfl)
  rw [lg_entry_eq]
  generalize (lg_sl ([.ref a1, .ref a, .int (nI n)]) ++ List.replicate (5 - (lg_sl ([.ref a1, .ref a, .int (nI n)])).length) Slot.unset).toArray = ls at hl ⊢
  have hl : lv_has ls 5 [(0, .ref a1), (1, .ref a), (2, .int (nI n))] := hl
  obtain ⟨ha, hs1, hs2, hs3, hs4⟩ := sf_MI_st hM hac
  obtain ⟨hoc1, hen⟩ := sf_MI_oc hM
  have hPn := sf_P_le hn
  have hPn2 := sf_P_ge n
  have hPa := sf_P_le hs3
  have hPa2 := sf_P_ge (ln a)
  refine lv_aload_n hx hb dX0_setLength_0 rfl (lv_at hl 1 rfl) ?_
  refine sf_rget (D := (dC, dI)) (ci := 1) (v := .int (nI (ln a))) (C := RX1) (T := TX1) (N := 6) hx hb hts sf_inX1 hown hK hP ha rfl rfl 3 (by decide) (hts _ (sf_mem fl_X0_42 rfl)) (fun _ h9 => h9) rfl dX0_setLength_1 ?_
  refine vp_callSi (va_Run.run (sf_runP (As := [.int (nI (ln a))]) (rest := []) ⟨hx, hb, hml, hown, hts⟩ sf_has (c_placesFor l (ln a) (by omega)) hN co_X2_placesFor sm_X2_placesFor in_X2 k_X0_30 ⟨sf_blindT, sf_preT⟩ rfl hl.1 (Nat.le_of_ble_eq_true rfl) ⟨(Nat.le_of_ble_eq_true rfl), (Nat.le_of_ble_eq_true rfl)⟩ ⟨rfl, rfl⟩ ⟨Nat.zero_le _, Nat.zero_le _⟩ dX0_setLength_4)) (fun r_4 h_4 => ?_)
  subst h_4
  refine lv_istore_n (lv' := [(3, .int (nI (sf_P (ln a)))), (0, .ref a1), (1, .ref a), (2, .int (nI n))]) hx hb dX0_setLength_7 rfl hl (by decide) rfl (fun ls hl => ?_)
  refine lv_iload_n hx hb dX0_setLength_8 rfl (lv_at hl 3 rfl) ?_
  refine vp_callSi (va_Run.run (sf_runP (As := [.int (nI n)]) (rest := []) ⟨hx, hb, hml, hown, hts⟩ sf_has (c_placesFor l n (by omega)) hN co_X2_placesFor sm_X2_placesFor in_X2 k_X0_30 ⟨sf_blindT, sf_preT⟩ rfl hl.1 (Nat.le_of_ble_eq_true rfl) ⟨(Nat.le_of_ble_eq_true rfl), (Nat.le_of_ble_eq_true rfl)⟩ ⟨rfl, rfl⟩ ⟨Nat.zero_le _, Nat.zero_le _⟩ dX0_setLength_9)) (fun r_9 h_9 => ?_)
  subst h_9
  refine lv_istore (lv' := [(4, .int (nI (sf_P n))), (3, .int (nI (sf_P (ln a)))), (0, .ref a1), (1, .ref a), (2, .int (nI n))]) hx hb dX0_setLength_12 hl (by decide) rfl (fun ls hl => ?_)
  refine lv_iload hx hb dX0_setLength_14 (lv_at hl 0 rfl) ?_
  refine lv_iload_n hx hb dX0_setLength_16 rfl (lv_at hl 1 rfl) ?_
  refine sf_icmp_le (tgt := 38) hx hb (by omega) (by omega) dX0_setLength_17 (by decide) (fun c_17 => ?_) (fun c_17 => ?_)
  · refine lv_iload_n hx hb dX0_setLength_38 rfl (lv_at hl 4 rfl) ?_
    refine lv_aload_n hx hb dX0_setLength_39 rfl (lv_at hl 3 rfl) ?_
    refine sf_rget (D := (dC, dI)) (ci := 1) (v := .int (nI (ln a))) (C := RX1) (T := TX1) (N := 6) hx hb hts sf_inX1 hown hK hP ha rfl rfl 3 (by decide) (hts _ (sf_mem fl_X0_42 rfl)) (fun _ h9 => h9) rfl dX0_setLength_40 ?_
    refine sf_icmp_le (tgt := 69) hx hb (by omega) (by omega) dX0_setLength_43 (by decide) (fun c_43 => ?_) (fun c_43 => ?_)
    · have hg2 : ∀ j, g j = if st a + ln a ≤ j ∧ j < st a + n then nI 0 else g j := fun j => by rw [if_neg (by omega)]
      refine lv_aload_n hx hb dX0_setLength_69 rfl (lv_at hl 3 rfl) ?_
      refine lv_iload_n hx hb dX0_setLength_70 rfl (lv_at hl 4 rfl) ?_
      refine sf_rput (D := (dC, dI)) (ci := 1) (v := .int (nI n)) (ty := .int) (C := RX1) (T := TX1) (N := 6) hx hb hts sf_inX1 tyX1 tyX1_ok nmX1 hown hK hP hD hS ha rfl rfl 3 (by decide) (hts _ (sf_mem fl_X0_42 rfl)) (fun _ h9 => h9) rfl (by decide +kernel) rfl rfl (Nat.le_of_ble_eq_true rfl) (sf_rw_ln n) dX0_setLength_71 (fun H locs hP hD hS => ?_)
      have hP : va_P (dC, dI) vwCl (sf_w a0 a1 a2 a3 cB cT LP gb md ct tb nm tk oc en fs la g st (va_up ln a n) bf af) H := hP
      have hD : va_D A (sf_w a0 a1 a2 a3 cB cT LP gb md ct tb nm tk oc en fs la g st (va_up ln a n) bf af) := hD
      refine lv_aload_n hx hb dX0_setLength_74 rfl (lv_at hl 2 rfl) ?_
      refine lv_dup hx hb dX0_setLength_75 rfl ?_
      refine va_get (D := (dC, dI)) (ci := 0) (v := .int (nI oc)) (C := RX0) (T := TX0) (N := 5) hx hb hts sf_inX0 hown hK hP 1 rfl rfl 1 (by decide) (hts _ (sf_mem fl_X0_16 rfl)) (fun _ h9 => h9) rfl dX0_setLength_76 ?_
      refine lv_iload hx hb dX0_setLength_79 (lv_at hl 0 rfl) ?_
      refine lv_iload_n hx hb dX0_setLength_81 rfl (lv_at hl 1 rfl) ?_
      refine lv_isub hx hb dX0_setLength_82 ?_
      refine lv_iadd hx hb dX0_setLength_83 ?_
      rw [sf_occ (by omega)]
      refine va_put (D := (dC, dI)) (ci := 0) (v := .int (nI (oc + sf_P n - sf_P (ln a)))) (ty := .int) (C := RX0) (T := TX0) (N := 5) hx hb hts sf_inX0 tyX0 tyX0_ok nmX0 hown hK hP hD hS 1 rfl rfl 1 (by decide) (hts _ (sf_mem fl_X0_16 rfl)) (fun _ h9 => h9) rfl (by decide +kernel) rfl rfl (Nat.le_of_ble_eq_true rfl) dX0_setLength_84 (fun H locs hP hD hS => ?_)
      have hP : va_P (dC, dI) vwCl (sf_w a0 a1 a2 a3 cB cT LP gb md ct tb nm tk (oc + sf_P n - sf_P (ln a)) en fs la g st (va_up ln a n) bf af) H := hP
      have hD : va_D A (sf_w a0 a1 a2 a3 cB cT LP gb md ct tb nm tk (oc + sf_P n - sf_P (ln a)) en fs la g st (va_up ln a n) bf af) := hD
      refine lv_iconst (v := nI 1) hx hb dX0_setLength_87 (by decide) ?_
      exact W.zret (v := nI 1) hx hb hr (by decide) (fun t ht hW => ⟨⟨_, (cs, oc + sf_P n - sf_P (ln a), en, fs, la, g, st, va_up ln a n, bf, af), rfl, Or.inr ⟨rfl, Or.inl c_17, sf_SL_stay hM hac c_17 hn hg2⟩, by rw [ht]; exact hP, hD⟩, hS.F ht⟩) hS.2.2 dX0_setLength_88
    · refine lv_aload_n hx hb dX0_setLength_46 rfl (lv_at hl 2 rfl) ?_
      refine va_get (D := (dC, dI)) (ci := 0) (v := .ref a2) (C := RX0) (T := TX0) (N := 5) hx hb hts sf_inX0 hown hK hP 1 rfl rfl 0 (by decide) (hts _ (sf_mem fl_X0_10 rfl)) (fun _ h9 => h9) rfl dX0_setLength_47 ?_
      refine lv_aload_n hx hb dX0_setLength_50 rfl (lv_at hl 3 rfl) ?_
      refine sf_rget (D := (dC, dI)) (ci := 1) (v := .int (nI (st a))) (C := RX1) (T := TX1) (N := 6) hx hb hts sf_inX1 hown hK hP ha rfl rfl 2 (by decide) (hts _ (sf_mem fl_X0_37 rfl)) (fun _ h9 => h9) rfl dX0_setLength_51 ?_
      refine lv_aload_n hx hb dX0_setLength_54 rfl (lv_at hl 3 rfl) ?_
      refine sf_rget (D := (dC, dI)) (ci := 1) (v := .int (nI (ln a))) (C := RX1) (T := TX1) (N := 6) hx hb hts sf_inX1 hown hK hP ha rfl rfl 3 (by decide) (hts _ (sf_mem fl_X0_42 rfl)) (fun _ h9 => h9) rfl dX0_setLength_55 ?_
      refine sf_iadd hx hb dX0_setLength_58 ?_
      refine lv_aload_n hx hb dX0_setLength_59 rfl (lv_at hl 3 rfl) ?_
      refine sf_rget (D := (dC, dI)) (ci := 1) (v := .int (nI (st a))) (C := RX1) (T := TX1) (N := 6) hx hb hts sf_inX1 hown hK hP ha rfl rfl 2 (by decide) (hts _ (sf_mem fl_X0_37 rfl)) (fun _ h9 => h9) rfl dX0_setLength_60 ?_
      refine lv_iload_n hx hb dX0_setLength_63 rfl (lv_at hl 4 rfl) ?_
      refine sf_iadd hx hb dX0_setLength_64 ?_
      refine lv_iconst (v := nI 0) hx hb dX0_setLength_65 (by decide) ?_
      refine sf_cv (sf_runS (As := [.ref a2, .int (nI ((st a) + (ln a))), .int (nI ((st a) + n)), .int (nI 0)]) (rest := []) ⟨hx, hb, hml, hown, hts⟩ sf_has (c_fill0 l dC dI [(cB, .byte), (cT, .object "ByteShelf$Row")] (sf_w a0 a1 a2 a3 cB cT LP gb md ct tb nm tk oc en fs la g st ln bf af) _ a2 cB 400000 g 2 0 ((st a) + (ln a)) ((st a) + n) rfl rfl (by omega) (by omega) (by decide)) k_X0_45 ⟨sf_blind, sf_preU hP hK hD hN⟩ rfl hl.1 (Nat.le_of_ble_eq_true rfl) ⟨(Nat.le_of_ble_eq_true rfl), (Nat.le_of_ble_eq_true rfl)⟩ ⟨rfl, rfl⟩ ⟨Nat.zero_le _, Nat.zero_le _⟩ dX0_setLength_66) hD hS hA (fun u_66 H locs h_66 hP hD hS => ?_)
      have hP : va_P (dC, dI) vwCl (sf_w a0 a1 a2 a3 cB cT LP gb md ct tb nm tk oc en fs la u_66 st ln bf af) H := hP
      have hD : va_D A (sf_w a0 a1 a2 a3 cB cT LP gb md ct tb nm tk oc en fs la u_66 st ln bf af) := hD
      refine lv_aload_n hx hb dX0_setLength_69 rfl (lv_at hl 3 rfl) ?_
      refine lv_iload_n hx hb dX0_setLength_70 rfl (lv_at hl 4 rfl) ?_
      refine sf_rput (D := (dC, dI)) (ci := 1) (v := .int (nI n)) (ty := .int) (C := RX1) (T := TX1) (N := 6) hx hb hts sf_inX1 tyX1 tyX1_ok nmX1 hown hK hP hD hS ha rfl rfl 3 (by decide) (hts _ (sf_mem fl_X0_42 rfl)) (fun _ h9 => h9) rfl (by decide +kernel) rfl rfl (Nat.le_of_ble_eq_true rfl) (sf_rw_ln n) dX0_setLength_71 (fun H locs hP hD hS => ?_)
      have hP : va_P (dC, dI) vwCl (sf_w a0 a1 a2 a3 cB cT LP gb md ct tb nm tk oc en fs la u_66 st (va_up ln a n) bf af) H := hP
      have hD : va_D A (sf_w a0 a1 a2 a3 cB cT LP gb md ct tb nm tk oc en fs la u_66 st (va_up ln a n) bf af) := hD
      refine lv_aload_n hx hb dX0_setLength_74 rfl (lv_at hl 2 rfl) ?_
      refine lv_dup hx hb dX0_setLength_75 rfl ?_
      refine va_get (D := (dC, dI)) (ci := 0) (v := .int (nI oc)) (C := RX0) (T := TX0) (N := 5) hx hb hts sf_inX0 hown hK hP 1 rfl rfl 1 (by decide) (hts _ (sf_mem fl_X0_16 rfl)) (fun _ h9 => h9) rfl dX0_setLength_76 ?_
      refine lv_iload hx hb dX0_setLength_79 (lv_at hl 0 rfl) ?_
      refine lv_iload_n hx hb dX0_setLength_81 rfl (lv_at hl 1 rfl) ?_
      refine lv_isub hx hb dX0_setLength_82 ?_
      refine lv_iadd hx hb dX0_setLength_83 ?_
      rw [sf_occ (by omega)]
      refine va_put (D := (dC, dI)) (ci := 0) (v := .int (nI (oc + sf_P n - sf_P (ln a)))) (ty := .int) (C := RX0) (T := TX0) (N := 5) hx hb hts sf_inX0 tyX0 tyX0_ok nmX0 hown hK hP hD hS 1 rfl rfl 1 (by decide) (hts _ (sf_mem fl_X0_16 rfl)) (fun _ h9 => h9) rfl (by decide +kernel) rfl rfl (Nat.le_of_ble_eq_true rfl) dX0_setLength_84 (fun H locs hP hD hS => ?_)
      have hP : va_P (dC, dI) vwCl (sf_w a0 a1 a2 a3 cB cT LP gb md ct tb nm tk (oc + sf_P n - sf_P (ln a)) en fs la u_66 st (va_up ln a n) bf af) H := hP
      have hD : va_D A (sf_w a0 a1 a2 a3 cB cT LP gb md ct tb nm tk (oc + sf_P n - sf_P (ln a)) en fs la u_66 st (va_up ln a n) bf af) := hD
      refine lv_iconst (v := nI 1) hx hb dX0_setLength_87 (by decide) ?_
      exact W.zret (v := nI 1) hx hb hr (by decide) (fun t ht hW => ⟨⟨_, (cs, oc + sf_P n - sf_P (ln a), en, fs, la, u_66, st, va_up ln a n, bf, af), rfl, Or.inr ⟨rfl, Or.inl c_17, sf_SL_stay hM hac c_17 hn h_66⟩, by rw [ht]; exact hP, hD⟩, hS.F ht⟩) hS.2.2 dX0_setLength_88
  · refine lv_aload_n hx hb dX0_setLength_20 rfl (lv_at hl 2 rfl) ?_
    refine lv_iload hx hb dX0_setLength_21 (lv_at hl 0 rfl) ?_
    refine vp_callSi (va_Run.run (sf_runV (b := a1) (As := [.int (nI (sf_P n))]) (rest := []) ⟨hx, hb, hml, hown, hts⟩ sf_has (c_hasRoomFor l dC dI a0 a1 a2 a3 cB cT LP gb md ct tb nm tk oc en fs la g st ln bf af _ (sf_P n) (by omega) (by omega)) k_X0_58 ⟨sf_blind, va_recv hK hP (ci := 0) (q0 := 1) rfl rfl, sf_preU hP hK hD hN⟩ rfl hl.1 (Nat.le_of_ble_eq_true rfl) ⟨(Nat.le_of_ble_eq_true rfl), (Nat.le_of_ble_eq_true rfl)⟩ ⟨rfl, rfl⟩ ⟨Nat.zero_le _, Nat.zero_le _⟩ dX0_setLength_23)) (fun r_23 h_23 => ?_)
    rcases h_23 with ⟨rfl, h_23⟩ | ⟨rfl, h_23⟩
    · refine sf_if_ne (tgt := 31) hx hb (by decide) dX0_setLength_26 (by decide) (fun _ => ?_) (fun c_26 => absurd c_26 (by decide))
      refine lv_aload_n hx hb dX0_setLength_31 rfl (lv_at hl 2 rfl) ?_
      refine lv_aload_n hx hb dX0_setLength_32 rfl (lv_at hl 3 rfl) ?_
      refine lv_iload hx hb dX0_setLength_33 (lv_at hl 0 rfl) ?_
      obtain ⟨l1, r1, rfl⟩ := List.append_of_mem hac
      refine sf_cv (sf_runV (b := a1) (As := [.ref a, .int (nI (sf_P n))]) (rest := []) ⟨hx, hb, hml, hown, hts⟩ sf_has (c_move l dC dI a0 a1 a2 a3 cB cT LP gb md ct tb nm tk oc en fs la g st ln bf af _ l1 r1 a hM (sf_P n) h_23 (by omega)) k_X0_62 ⟨sf_blind, va_recv hK hP (ci := 0) (q0 := 1) rfl rfl, sf_preU hP hK hD hN⟩ rfl hl.1 (Nat.le_of_ble_eq_true rfl) ⟨(Nat.le_of_ble_eq_true rfl), (Nat.le_of_ble_eq_true rfl)⟩ ⟨rfl, rfl⟩ ⟨Nat.zero_le _, Nat.zero_le _⟩ dX0_setLength_35) hD hS hA (fun u_35 H locs h_35 hP hD hS => ?_)
      obtain ⟨b, g1, st1⟩ := u_35
      obtain ⟨p1, p2, p3, p4, p5⟩ := h_35
      dsimp only at p1 p2 p3 p4 p5
      have hP : va_P (dC, dI) vwCl (sf_w a0 a1 a2 a3 cB cT LP gb md ct tb nm tk oc (b + sf_P n) (sf_pk (sf_pk (af a) (bf a) la) (some a) (sf_pk (bf a) (af a) fs)) (some a) g1 st1 ln (va_up (sf_unA bf (af a) (bf a)) a (sf_pk (af a) (bf a) la)) (sf_apA (sf_unA af (bf a) (af a)) (sf_pk (af a) (bf a) la) a)) H := hP
      have hD : va_D A (sf_w a0 a1 a2 a3 cB cT LP gb md ct tb nm tk oc (b + sf_P n) (sf_pk (sf_pk (af a) (bf a) la) (some a) (sf_pk (bf a) (af a) fs)) (some a) g1 st1 ln (va_up (sf_unA bf (af a) (bf a)) a (sf_pk (af a) (bf a) la)) (sf_apA (sf_unA af (bf a) (af a)) (sf_pk (af a) (bf a) la) a)) := hD
      refine lv_iload_n hx hb dX0_setLength_38 rfl (lv_at hl 4 rfl) ?_
      refine lv_aload_n hx hb dX0_setLength_39 rfl (lv_at hl 3 rfl) ?_
      refine sf_rget (D := (dC, dI)) (ci := 1) (v := .int (nI (ln a))) (C := RX1) (T := TX1) (N := 6) hx hb hts sf_inX1 hown hK hP ha rfl rfl 3 (by decide) (hts _ (sf_mem fl_X0_42 rfl)) (fun _ h9 => h9) rfl dX0_setLength_40 ?_
      refine sf_icmp_le (tgt := 69) hx hb (by omega) (by omega) dX0_setLength_43 (by decide) (fun c_43 => ?_) (fun c_43 => ?_)
      · have hg2 : ∀ j, g1 j = if b + ln a ≤ j ∧ j < b + n then nI 0 else g1 j := fun j => by rw [if_neg (by omega)]
        refine lv_aload_n hx hb dX0_setLength_69 rfl (lv_at hl 3 rfl) ?_
        refine lv_iload_n hx hb dX0_setLength_70 rfl (lv_at hl 4 rfl) ?_
        refine sf_rput (D := (dC, dI)) (ci := 1) (v := .int (nI n)) (ty := .int) (C := RX1) (T := TX1) (N := 6) hx hb hts sf_inX1 tyX1 tyX1_ok nmX1 hown hK hP hD hS ha rfl rfl 3 (by decide) (hts _ (sf_mem fl_X0_42 rfl)) (fun _ h9 => h9) rfl (by decide +kernel) rfl rfl (Nat.le_of_ble_eq_true rfl) (sf_rw_ln n) dX0_setLength_71 (fun H locs hP hD hS => ?_)
        have hP : va_P (dC, dI) vwCl (sf_w a0 a1 a2 a3 cB cT LP gb md ct tb nm tk oc (b + sf_P n) (sf_pk (sf_pk (af a) (bf a) la) (some a) (sf_pk (bf a) (af a) fs)) (some a) g1 st1 (va_up ln a n) (va_up (sf_unA bf (af a) (bf a)) a (sf_pk (af a) (bf a) la)) (sf_apA (sf_unA af (bf a) (af a)) (sf_pk (af a) (bf a) la) a)) H := hP
        have hD : va_D A (sf_w a0 a1 a2 a3 cB cT LP gb md ct tb nm tk oc (b + sf_P n) (sf_pk (sf_pk (af a) (bf a) la) (some a) (sf_pk (bf a) (af a) fs)) (some a) g1 st1 (va_up ln a n) (va_up (sf_unA bf (af a) (bf a)) a (sf_pk (af a) (bf a) la)) (sf_apA (sf_unA af (bf a) (af a)) (sf_pk (af a) (bf a) la) a)) := hD
        refine lv_aload_n hx hb dX0_setLength_74 rfl (lv_at hl 2 rfl) ?_
        refine lv_dup hx hb dX0_setLength_75 rfl ?_
        refine va_get (D := (dC, dI)) (ci := 0) (v := .int (nI oc)) (C := RX0) (T := TX0) (N := 5) hx hb hts sf_inX0 hown hK hP 1 rfl rfl 1 (by decide) (hts _ (sf_mem fl_X0_16 rfl)) (fun _ h9 => h9) rfl dX0_setLength_76 ?_
        refine lv_iload hx hb dX0_setLength_79 (lv_at hl 0 rfl) ?_
        refine lv_iload_n hx hb dX0_setLength_81 rfl (lv_at hl 1 rfl) ?_
        refine lv_isub hx hb dX0_setLength_82 ?_
        refine lv_iadd hx hb dX0_setLength_83 ?_
        rw [sf_occ (by omega)]
        refine va_put (D := (dC, dI)) (ci := 0) (v := .int (nI (oc + sf_P n - sf_P (ln a)))) (ty := .int) (C := RX0) (T := TX0) (N := 5) hx hb hts sf_inX0 tyX0 tyX0_ok nmX0 hown hK hP hD hS 1 rfl rfl 1 (by decide) (hts _ (sf_mem fl_X0_16 rfl)) (fun _ h9 => h9) rfl (by decide +kernel) rfl rfl (Nat.le_of_ble_eq_true rfl) dX0_setLength_84 (fun H locs hP hD hS => ?_)
        have hP : va_P (dC, dI) vwCl (sf_w a0 a1 a2 a3 cB cT LP gb md ct tb nm tk (oc + sf_P n - sf_P (ln a)) (b + sf_P n) (sf_pk (sf_pk (af a) (bf a) la) (some a) (sf_pk (bf a) (af a) fs)) (some a) g1 st1 (va_up ln a n) (va_up (sf_unA bf (af a) (bf a)) a (sf_pk (af a) (bf a) la)) (sf_apA (sf_unA af (bf a) (af a)) (sf_pk (af a) (bf a) la) a)) H := hP
        have hD : va_D A (sf_w a0 a1 a2 a3 cB cT LP gb md ct tb nm tk (oc + sf_P n - sf_P (ln a)) (b + sf_P n) (sf_pk (sf_pk (af a) (bf a) la) (some a) (sf_pk (bf a) (af a) fs)) (some a) g1 st1 (va_up ln a n) (va_up (sf_unA bf (af a) (bf a)) a (sf_pk (af a) (bf a) la)) (sf_apA (sf_unA af (bf a) (af a)) (sf_pk (af a) (bf a) la) a)) := hD
        refine lv_iconst (v := nI 1) hx hb dX0_setLength_87 (by decide) ?_
        exact W.zret (v := nI 1) hx hb hr (by decide) (fun t ht hW => ⟨⟨_, (l1 ++ r1 ++ [a], oc + sf_P n - sf_P (ln a), (b + sf_P n), (sf_pk (sf_pk (af a) (bf a) la) (some a) (sf_pk (bf a) (af a) fs)), (some a), g1, st1, va_up ln a n, (va_up (sf_unA bf (af a) (bf a)) a (sf_pk (af a) (bf a) la)), (sf_apA (sf_unA af (bf a) (af a)) (sf_pk (af a) (bf a) la) a)), rfl, Or.inr ⟨rfl, Or.inr h_23, sf_SL_move hM hn p1 c_17 p2 p3 p4 p5 hg2⟩, by rw [ht]; exact hP, hD⟩, hS.F ht⟩) hS.2.2 dX0_setLength_88
      · refine lv_aload_n hx hb dX0_setLength_46 rfl (lv_at hl 2 rfl) ?_
        refine va_get (D := (dC, dI)) (ci := 0) (v := .ref a2) (C := RX0) (T := TX0) (N := 5) hx hb hts sf_inX0 hown hK hP 1 rfl rfl 0 (by decide) (hts _ (sf_mem fl_X0_10 rfl)) (fun _ h9 => h9) rfl dX0_setLength_47 ?_
        refine lv_aload_n hx hb dX0_setLength_50 rfl (lv_at hl 3 rfl) ?_
        refine sf_rget (D := (dC, dI)) (ci := 1) (v := .int (nI (st1 a))) (C := RX1) (T := TX1) (N := 6) hx hb hts sf_inX1 hown hK hP ha rfl rfl 2 (by decide) (hts _ (sf_mem fl_X0_37 rfl)) (fun _ h9 => h9) rfl dX0_setLength_51 ?_
        refine lv_aload_n hx hb dX0_setLength_54 rfl (lv_at hl 3 rfl) ?_
        refine sf_rget (D := (dC, dI)) (ci := 1) (v := .int (nI (ln a))) (C := RX1) (T := TX1) (N := 6) hx hb hts sf_inX1 hown hK hP ha rfl rfl 3 (by decide) (hts _ (sf_mem fl_X0_42 rfl)) (fun _ h9 => h9) rfl dX0_setLength_55 ?_
        refine sf_iadd hx hb dX0_setLength_58 ?_
        refine lv_aload_n hx hb dX0_setLength_59 rfl (lv_at hl 3 rfl) ?_
        refine sf_rget (D := (dC, dI)) (ci := 1) (v := .int (nI (st1 a))) (C := RX1) (T := TX1) (N := 6) hx hb hts sf_inX1 hown hK hP ha rfl rfl 2 (by decide) (hts _ (sf_mem fl_X0_37 rfl)) (fun _ h9 => h9) rfl dX0_setLength_60 ?_
        refine lv_iload_n hx hb dX0_setLength_63 rfl (lv_at hl 4 rfl) ?_
        refine sf_iadd hx hb dX0_setLength_64 ?_
        refine lv_iconst (v := nI 0) hx hb dX0_setLength_65 (by decide) ?_
        refine sf_cv (sf_runS (As := [.ref a2, .int (nI ((st1 a) + (ln a))), .int (nI ((st1 a) + n)), .int (nI 0)]) (rest := []) ⟨hx, hb, hml, hown, hts⟩ sf_has (c_fill0 l dC dI [(cB, .byte), (cT, .object "ByteShelf$Row")] (sf_w a0 a1 a2 a3 cB cT LP gb md ct tb nm tk oc (b + sf_P n) (sf_pk (sf_pk (af a) (bf a) la) (some a) (sf_pk (bf a) (af a) fs)) (some a) g1 st1 ln (va_up (sf_unA bf (af a) (bf a)) a (sf_pk (af a) (bf a) la)) (sf_apA (sf_unA af (bf a) (af a)) (sf_pk (af a) (bf a) la) a)) _ a2 cB 400000 g1 2 0 ((st1 a) + (ln a)) ((st1 a) + n) rfl rfl (by omega) (by omega) (by decide)) k_X0_45 ⟨sf_blind, sf_preU hP hK hD hN⟩ rfl hl.1 (Nat.le_of_ble_eq_true rfl) ⟨(Nat.le_of_ble_eq_true rfl), (Nat.le_of_ble_eq_true rfl)⟩ ⟨rfl, rfl⟩ ⟨Nat.zero_le _, Nat.zero_le _⟩ dX0_setLength_66) hD hS hA (fun u_66 H locs h_66 hP hD hS => ?_)
        have hP : va_P (dC, dI) vwCl (sf_w a0 a1 a2 a3 cB cT LP gb md ct tb nm tk oc (b + sf_P n) (sf_pk (sf_pk (af a) (bf a) la) (some a) (sf_pk (bf a) (af a) fs)) (some a) u_66 st1 ln (va_up (sf_unA bf (af a) (bf a)) a (sf_pk (af a) (bf a) la)) (sf_apA (sf_unA af (bf a) (af a)) (sf_pk (af a) (bf a) la) a)) H := hP
        have hD : va_D A (sf_w a0 a1 a2 a3 cB cT LP gb md ct tb nm tk oc (b + sf_P n) (sf_pk (sf_pk (af a) (bf a) la) (some a) (sf_pk (bf a) (af a) fs)) (some a) u_66 st1 ln (va_up (sf_unA bf (af a) (bf a)) a (sf_pk (af a) (bf a) la)) (sf_apA (sf_unA af (bf a) (af a)) (sf_pk (af a) (bf a) la) a)) := hD
        rw [p2] at h_66
        refine lv_aload_n hx hb dX0_setLength_69 rfl (lv_at hl 3 rfl) ?_
        refine lv_iload_n hx hb dX0_setLength_70 rfl (lv_at hl 4 rfl) ?_
        refine sf_rput (D := (dC, dI)) (ci := 1) (v := .int (nI n)) (ty := .int) (C := RX1) (T := TX1) (N := 6) hx hb hts sf_inX1 tyX1 tyX1_ok nmX1 hown hK hP hD hS ha rfl rfl 3 (by decide) (hts _ (sf_mem fl_X0_42 rfl)) (fun _ h9 => h9) rfl (by decide +kernel) rfl rfl (Nat.le_of_ble_eq_true rfl) (sf_rw_ln n) dX0_setLength_71 (fun H locs hP hD hS => ?_)
        have hP : va_P (dC, dI) vwCl (sf_w a0 a1 a2 a3 cB cT LP gb md ct tb nm tk oc (b + sf_P n) (sf_pk (sf_pk (af a) (bf a) la) (some a) (sf_pk (bf a) (af a) fs)) (some a) u_66 st1 (va_up ln a n) (va_up (sf_unA bf (af a) (bf a)) a (sf_pk (af a) (bf a) la)) (sf_apA (sf_unA af (bf a) (af a)) (sf_pk (af a) (bf a) la) a)) H := hP
        have hD : va_D A (sf_w a0 a1 a2 a3 cB cT LP gb md ct tb nm tk oc (b + sf_P n) (sf_pk (sf_pk (af a) (bf a) la) (some a) (sf_pk (bf a) (af a) fs)) (some a) u_66 st1 (va_up ln a n) (va_up (sf_unA bf (af a) (bf a)) a (sf_pk (af a) (bf a) la)) (sf_apA (sf_unA af (bf a) (af a)) (sf_pk (af a) (bf a) la) a)) := hD
        refine lv_aload_n hx hb dX0_setLength_74 rfl (lv_at hl 2 rfl) ?_
        refine lv_dup hx hb dX0_setLength_75 rfl ?_
        refine va_get (D := (dC, dI)) (ci := 0) (v := .int (nI oc)) (C := RX0) (T := TX0) (N := 5) hx hb hts sf_inX0 hown hK hP 1 rfl rfl 1 (by decide) (hts _ (sf_mem fl_X0_16 rfl)) (fun _ h9 => h9) rfl dX0_setLength_76 ?_
        refine lv_iload hx hb dX0_setLength_79 (lv_at hl 0 rfl) ?_
        refine lv_iload_n hx hb dX0_setLength_81 rfl (lv_at hl 1 rfl) ?_
        refine lv_isub hx hb dX0_setLength_82 ?_
        refine lv_iadd hx hb dX0_setLength_83 ?_
        rw [sf_occ (by omega)]
        refine va_put (D := (dC, dI)) (ci := 0) (v := .int (nI (oc + sf_P n - sf_P (ln a)))) (ty := .int) (C := RX0) (T := TX0) (N := 5) hx hb hts sf_inX0 tyX0 tyX0_ok nmX0 hown hK hP hD hS 1 rfl rfl 1 (by decide) (hts _ (sf_mem fl_X0_16 rfl)) (fun _ h9 => h9) rfl (by decide +kernel) rfl rfl (Nat.le_of_ble_eq_true rfl) dX0_setLength_84 (fun H locs hP hD hS => ?_)
        have hP : va_P (dC, dI) vwCl (sf_w a0 a1 a2 a3 cB cT LP gb md ct tb nm tk (oc + sf_P n - sf_P (ln a)) (b + sf_P n) (sf_pk (sf_pk (af a) (bf a) la) (some a) (sf_pk (bf a) (af a) fs)) (some a) u_66 st1 (va_up ln a n) (va_up (sf_unA bf (af a) (bf a)) a (sf_pk (af a) (bf a) la)) (sf_apA (sf_unA af (bf a) (af a)) (sf_pk (af a) (bf a) la) a)) H := hP
        have hD : va_D A (sf_w a0 a1 a2 a3 cB cT LP gb md ct tb nm tk (oc + sf_P n - sf_P (ln a)) (b + sf_P n) (sf_pk (sf_pk (af a) (bf a) la) (some a) (sf_pk (bf a) (af a) fs)) (some a) u_66 st1 (va_up ln a n) (va_up (sf_unA bf (af a) (bf a)) a (sf_pk (af a) (bf a) la)) (sf_apA (sf_unA af (bf a) (af a)) (sf_pk (af a) (bf a) la) a)) := hD
        refine lv_iconst (v := nI 1) hx hb dX0_setLength_87 (by decide) ?_
        exact W.zret (v := nI 1) hx hb hr (by decide) (fun t ht hW => ⟨⟨_, (l1 ++ r1 ++ [a], oc + sf_P n - sf_P (ln a), (b + sf_P n), (sf_pk (sf_pk (af a) (bf a) la) (some a) (sf_pk (bf a) (af a) fs)), (some a), u_66, st1, va_up ln a n, (va_up (sf_unA bf (af a) (bf a)) a (sf_pk (af a) (bf a) la)), (sf_apA (sf_unA af (bf a) (af a)) (sf_pk (af a) (bf a) la) a)), rfl, Or.inr ⟨rfl, Or.inr h_23, sf_SL_move hM hn p1 c_17 p2 p3 p4 p5 h_66⟩, by rw [ht]; exact hP, hD⟩, hS.F ht⟩) hS.2.2 dX0_setLength_88
    · refine sf_if_ne (tgt := 31) hx hb (by decide) dX0_setLength_26 (by decide) (fun c_26 => absurd c_26 (by decide)) (fun _ => ?_)
      refine lv_iconst (v := nI 0) hx hb dX0_setLength_29 (by decide) ?_
      exact W.zret (v := nI 0) hx hb hr (by decide) (fun t ht hW => ⟨⟨_, (cs, oc, en, fs, la, g, st, ln, bf, af), rfl, Or.inl ⟨rfl, c_17, h_23, rfl⟩, by rw [ht]; exact hP, hD⟩, hS.F ht⟩) hS.2.2 dX0_setLength_30
