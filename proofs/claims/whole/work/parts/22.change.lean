/-! the reference: change -/
theorem mw_nar {x : Int32} (h : fits .byte (.int x) = true) : vp_nar .byte x = x := by
  rw [vp_nar_byte]
  exact sf_fit_b h
theorem mw_dec (x : Int32) : x + Int32.ofInt (-1) = x - nI 1 := by
  rw [Int32.sub_eq_add_neg]
  rfl
theorem mw_dn {p e : Nat} (h1 : e ≤ p) (h2 : p ≤ 400000) : nI p - nI 1 < nI e ↔ p = e := by
  by_cases q : p = 0
  · subst q
    have : e = 0 := by omega
    subst this
    exact ⟨fun _ => rfl, fun _ => by decide⟩
  · rw [pk_sub (by omega), nI_ltI (by omega) (by omega)]
    omega
theorem mw_neg {n old : Nat} (h : n < old) (ho : old ≤ 16384) : nI n - nI old < 0 := pk_sneg (by omega) h
theorem mw_b1 {g g1 : Nat → Int32} {e old n p : Nat} (h : n < old) (he : old ≤ e) (hp : e ≤ p) (q : ∀ x, g1 x = if e + n - old ≤ x ∧ x < p + n - old then g (x + (old - n)) else g x) : ∀ x, upd g1 (p + n - old) (g1 p) x = if e + n - old ≤ x ∧ x < p + 1 + n - old then g (x + (old - n)) else g x := by
  intro x
  by_cases ex : x = p + n - old
  · subst ex
    rw [pk_us, if_pos (by omega), q p, if_neg (by omega)]
    congr 1
    omega
  · rw [pk_un ex, q x]
    by_cases e1 : e + n - old ≤ x ∧ x < p + n - old
    · rw [if_pos e1, if_pos (by omega)]
    · rw [if_neg e1, if_neg (by omega)]
theorem mw_b2 {g g1 : Nat → Int32} {d us p : Nat} (h : 0 < d) (hp : 0 < p) (hpu : p ≤ us) (q : ∀ x, g1 x = if p + d ≤ x ∧ x < us + d then g (x - d) else g x) : ∀ x, upd g1 (p - 1 + d) (g1 (p - 1)) x = if p - 1 + d ≤ x ∧ x < us + d then g (x - d) else g x := by
  intro x
  by_cases ex : x = p - 1 + d
  · subst ex
    rw [pk_us, if_pos (by omega), q (p - 1), if_neg (by omega)]
    congr 1
    omega
  · rw [pk_un ex, q x]
    by_cases e1 : p + d ≤ x ∧ x < us + d
    · rw [if_pos e1, if_pos (by omega)]
    · rw [if_neg e1, if_neg (by omega)]
theorem mw_b3 {g1 g3 : Nat → Int32} {e q : Nat} (he : e ≤ q) (h : ∀ x, g3 x = if e ≤ x ∧ x < q then 0 else g1 x) : ∀ x, upd g3 q (nI 0) x = if e ≤ x ∧ x < q + 1 then 0 else g1 x := by
  intro x
  by_cases ex : x = q
  · subst ex
    rw [pk_us, if_pos (by omega)]
    rfl
  · rw [pk_un ex, h x]
    by_cases e1 : e ≤ x ∧ x < q
    · rw [if_pos e1, if_pos (by omega)]
    · rw [if_neg e1, if_neg (by omega)]
/-- the two rising loops together -/
theorem mw_b4 {g g1 g3 : Nat → Int32} {e d us n old : Nat} (hd : n - old = d) (hn : old ≤ n) (h1 : ∀ x, (x < e → g1 x = g x) ∧ (e + d ≤ x → g1 x = if x < us + d then g (x - d) else g x)) (h3 : ∀ x, g3 x = if e ≤ x ∧ x < e + d then 0 else g1 x) : mw_B g g3 e us n old := by
  refine Or.inr ⟨hn, fun x => ?_⟩
  rw [hd, h3]
  by_cases q : e ≤ x ∧ x < e + d
  · rw [if_pos q, if_neg (by omega), if_pos q]
  · rw [if_neg q]
    by_cases q2 : x < e
    · rw [(h1 x).1 q2, if_neg (by omega), if_neg q]
    · rw [(h1 x).2 (by omega)]
      by_cases q3 : x < us + d
      · rw [if_pos q3, if_pos (by omega)]
      · rw [if_neg q3, if_neg (by omega), if_neg q]
theorem mw_b5 {g g1 : Nat → Int32} {e d us p : Nat} (hp : p = e ∨ d = 0) (hep : e ≤ p) (heu : e ≤ us) (q : ∀ x, g1 x = if p + d ≤ x ∧ x < us + d then g (x - d) else g x) : ∀ x, (x < e → g1 x = g x) ∧ (e + d ≤ x → g1 x = if x < us + d then g (x - d) else g x) := by
  intro x
  rw [q x]
  constructor
  · intro hx
    rw [if_neg (by omega)]
  · intro hx
    rcases hp with e1 | e1
    · subst e1
      by_cases q3 : x < us + d
      · rw [if_pos ⟨hx, q3⟩, if_pos q3]
      · rw [if_neg (by omega), if_neg q3]
    · subst e1
      simp
theorem mw_ss {us nu k b : Nat} {ln ss : Nat → Nat} (hL : mw_L us nu ln ss) (hk : k < nu) (hb : b = if ln k = 0 then us else ss k) (hus : us ≤ 400000) : ∀ x, x < nu → 0 < ln x → va_up ss k b x ≤ 400000 := by
  intro x hx h
  by_cases q : x = k
  · subst q
    rw [va_up_self, hb, if_neg (by omega)]
    have := hL.2.1 x hx h
    omega
  · rw [va_up_ne _ _ q]
    have := hL.2.1 x hx h
    omega
set_option maxHeartbeats 4000000 in
set_option maxRecDepth 100000 in
/-- change(row, n) -/
theorem m_change (l : Launch) (dC : Nat → ClassId) (dI : Nat → Nat → Nat) (b0 b1 b2 b3 b4 : Nat) (d1 d2 d3 d4 : ClassId) (us nu bm tn : Nat) (g za : Nat → Int32) (ss bk : Nat → Nat) (sz : Nat) (k n : Nat) (ln : Nat → Nat) (hL : mw_L us nu ln ss) (hk : k < nu) (hnu : nu ≤ 20000) (hz : ∀ r, r < nu → (za r ≤ 0 ↔ ln r = 0)) (hza : za k = nI (ln k)) (hln : ln k ≤ 16384) (hn : n ≤ 16384) (hF : sb_Fit g) (hus : us ≤ 400000) (hus2 : us + n ≤ 400000 + ln k) (htn : tn ≤ 400000) (htn2 : sf_P (ln k) ≤ tn + sf_P n) : Met l yX3_change wsX3_change ({ frames := 1, cells := 0, slots := 0, locals := 30 } : Room) (sf_Pre (dC, dI) vwCl [(d1, .byte), (d2, .int), (d3, .int), (d4, .int)] [.ref b0, .int (nI k), .int (nI n)] (mw_w b0 b1 b2 b3 b4 d1 d2 d3 d4 us nu bm tn g za ss bk) sz) (va_Qv (fun (u : (Nat → Int32) × (Nat → Nat)) => mw_L (us + n - ln k) nu (va_up ln k n) u.2 ∧ (∀ j, j < nu → j ≠ k → ∀ i, i < ln j → u.1 (u.2 j + i) = g (ss j + i)) ∧ (∀ i, i < n → u.1 (u.2 k + i) = if i < ln k then g (ss k + i) else 0) ∧ sb_Fit u.1) (sf_E (dC, dI) vwCl (va_A (mw_w b0 b1 b2 b3 b4 d1 d2 d3 d4 us nu bm tn g za ss bk) sz) (fun (u : (Nat → Int32) × (Nat → Nat)) => mw_w b0 b1 b2 b3 b4 d1 d2 d3 d4 (us + n - ln k) nu bm (tn + sf_P n - sf_P (ln k)) u.1 (upd za k (nI n)) u.2 bk)) (va_A (mw_w b0 b1 b2 b3 b4 d1 d2 d3 d4 us nu bm tn g za ss bk) sz)) 0 0 (va_A (mw_w b0 b1 b2 b3 b4 d1 d2 d3 d4 us nu bm tn g za ss bk) sz) := by
  refine Met.ofW (cc := cX3_change) (maxL := 7) (ret := none) (by decide) rfl ?_
  intro p e s m args below meth c s₁ B hml hv
  obtain ⟨rfl, hsz, hP, hK, hD0, hN⟩ := hv
  have hx := B.exec
  have hb := B.bytes
  have hr := B.returns
  have hts := atoms_spec (ws := wsX3_change) B.pre
  have hown : s.vm.findClass RX3 = some m.cls := findClass_of_methodNamed B.named
  have hlocks := B.notSynchronized
  subst hsz
  have hD := hD0.self (sz := s.heap.size)
  generalize hAe : va_A (mw_w b0 b1 b2 b3 b4 d1 d2 d3 d4 us nu bm tn g za ss bk) s.heap.size = A at hD ⊢
  have hA : ∀ q : Nat, s.heap.size ≤ q → A q := fun q h => by rw [← hAe]; exact Or.inr h
  have hS : va_S A s.heap s.heap [] := va_S.rf
  have hl := lv_entry ([.ref b0, .int (nI k), .int (nI n)]) (n := 7) (Nat.le_of_ble_eq_true rfl)
  rw [lg_entry_eq]
  generalize (lg_sl ([.ref b0, .int (nI k), .int (nI n)]) ++ List.replicate (7 - (lg_sl ([.ref b0, .int (nI k), .int (nI n)])).length) Slot.unset).toArray = ls at hl ⊢
  have hl : lv_has ls 7 [(0, .ref b0), (1, .int (nI k)), (2, .int (nI n))] := hl
  obtain ⟨b, hbb⟩ : ∃ b : Nat, b = if ln k = 0 then us else ss k := ⟨_, rfl⟩
  have hbk : b + ln k ≤ us := by
    rw [hbb]
    split
    · omega
    · exact hL.2.1 k hk (by omega)
  have hP1 := sf_P_le hn
  have hP2 := sf_P_le hln
  refine lv_aload_n hx hb dX3_change_0 rfl (lv_at hl 0 rfl) ?_
  refine va_get (D := (dC, dI)) (ci := 3) (v := .ref b3) (C := RX3) (T := TX3) (N := 8) hx hb hts sf_inX3 hown hK hP 0 rfl rfl 3 (by decide) (hts _ (sf_mem fl_X3_18 rfl)) (fun _ h9 => h9) rfl dX3_change_1 ?_
  refine lv_iload_n hx hb dX3_change_4 rfl (lv_at hl 1 rfl) ?_
  refine sf_iald hx hb hK hP 3 2 rfl rfl (by omega) (by decide) dX3_change_5 ?_
  rw [hza]
  refine lv_istore_n (lv' := [(3, .int (nI (ln k))), (0, .ref b0), (1, .int (nI k)), (2, .int (nI n))]) hx hb dX3_change_6 rfl hl (by decide) rfl (fun ls hl => ?_)
  refine lv_aload_n hx hb dX3_change_7 rfl (lv_at hl 1 rfl) ?_
  refine va_get (D := (dC, dI)) (ci := 3) (v := .ref b2) (C := RX3) (T := TX3) (N := 8) hx hb hts sf_inX3 hown hK hP 0 rfl rfl 2 (by decide) (hts _ (sf_mem fl_X3_14 rfl)) (fun _ h9 => h9) rfl dX3_change_8 ?_
  refine lv_iload_n hx hb dX3_change_11 rfl (lv_at hl 2 rfl) ?_
  refine lv_iload_n hx hb dX3_change_12 rfl (lv_at hl 0 rfl) ?_
  refine sf_meet 30 (fun H locs ls => va_P (dC, dI) vwCl (mw_w b0 b1 b2 b3 b4 d1 d2 d3 d4 us nu bm tn g za (va_up ss k b) bk) H ∧ va_D A (mw_w b0 b1 b2 b3 b4 d1 d2 d3 d4 us nu bm tn g za (va_up ss k b) bk) ∧ va_S A s.heap H locs ∧ lv_has ls 7 [(0, .ref b0), (1, .int (nI k)), (2, .int (nI n)), (3, .int (nI (ln k)))]) ?_ ?_
  · intro H locs ls hJ
    obtain ⟨hP, hD, hS, hl⟩ := hJ
    refine lv_aload_n hx hb dX3_change_30 rfl (lv_at hl 0 rfl) ?_
    refine va_get (D := (dC, dI)) (ci := 3) (v := .ref b2) (C := RX3) (T := TX3) (N := 8) hx hb hts sf_inX3 hown hK hP 0 rfl rfl 2 (by decide) (hts _ (sf_mem fl_X3_14 rfl)) (fun _ h9 => h9) rfl dX3_change_31 ?_
    refine lv_iload_n hx hb dX3_change_34 rfl (lv_at hl 1 rfl) ?_
    refine sf_iald hx hb hK hP 2 1 rfl rfl (by omega) (by decide) dX3_change_35 ?_
    try dsimp only
    rw [va_up_self]
    refine lv_iload_n hx hb dX3_change_36 rfl (lv_at hl 3 rfl) ?_
    refine sf_iadd hx hb dX3_change_37 ?_
    refine lv_istore (lv' := [(4, .int (nI (b + (ln k)))), (0, .ref b0), (1, .int (nI k)), (2, .int (nI n)), (3, .int (nI (ln k)))]) hx hb dX3_change_38 hl (by decide) rfl (fun ls hl => ?_)
    refine lv_iload_n hx hb dX3_change_40 rfl (lv_at hl 3 rfl) ?_
    refine lv_iload_n hx hb dX3_change_41 rfl (lv_at hl 4 rfl) ?_
    refine lv_isub hx hb dX3_change_42 ?_
    refine lv_istore (lv' := [(5, .int ((nI n) - (nI (ln k)))), (4, .int (nI (b + (ln k)))), (0, .ref b0), (1, .int (nI k)), (2, .int (nI n)), (3, .int (nI (ln k)))]) hx hb dX3_change_43 hl (by decide) rfl (fun ls hl => ?_)
    refine lv_iload hx hb dX3_change_45 (lv_at hl 1 rfl) ?_
    refine lv_istore (lv' := [(6, .int (nI (b + (ln k)))), (5, .int ((nI n) - (nI (ln k)))), (4, .int (nI (b + (ln k)))), (0, .ref b0), (1, .int (nI k)), (2, .int (nI n)), (3, .int (nI (ln k)))]) hx hb dX3_change_47 hl (by decide) rfl (fun ls hl => ?_)
    refine sf_meet 157 (fun H locs ls => ∃ g2 : Nat → Int32, mw_B g g2 (b + ln k) us n (ln k) ∧ va_P (dC, dI) vwCl (mw_w b0 b1 b2 b3 b4 d1 d2 d3 d4 us nu bm tn g2 za (va_up ss k b) bk) H ∧ va_D A (mw_w b0 b1 b2 b3 b4 d1 d2 d3 d4 us nu bm tn g2 za (va_up ss k b) bk) ∧ va_S A s.heap H locs ∧ lv_has ls 7 [(0, .ref b0), (1, .int (nI k)), (2, .int (nI n)), (3, .int (nI (ln k))), (4, .int (nI (b + ln k))), (5, .int (nI n - nI (ln k)))]) ?_ ?_
    · intro H locs ls hJ
      obtain ⟨g2, hB, hP, hD, hS, hl⟩ := hJ
      refine lv_aload_n hx hb dX3_change_157 rfl (lv_at hl 0 rfl) ?_
      refine lv_aload_n hx hb dX3_change_158 rfl (lv_at hl 0 rfl) ?_
      refine va_get (D := (dC, dI)) (ci := 3) (v := .ref b2) (C := RX3) (T := TX3) (N := 8) hx hb hts sf_inX3 hown hK hP 0 rfl rfl 2 (by decide) (hts _ (sf_mem fl_X3_14 rfl)) (fun _ h9 => h9) rfl dX3_change_159 ?_
      refine lv_iload_n hx hb dX3_change_162 rfl (lv_at hl 1 rfl) ?_
      refine sf_iald hx hb hK hP 2 1 rfl rfl (by omega) (by decide) dX3_change_163 ?_
      try dsimp only
      rw [va_up_self]
      refine lv_iload hx hb dX3_change_164 (lv_at hl 5 rfl) ?_
      obtain ⟨c1, c2, c3, c4, c5, c6⟩ := mw_change hL hk b hbb hB hF hus
      refine sf_cv (sf_runV (b := b0) (As := [.int (nI b), .int (nI n - nI (ln k))]) (rest := []) ⟨hx, hb, hml, hown, hts⟩ sf_has (m_shift l dC dI b0 b1 b2 b3 b4 d1 d2 d3 d4 us nu bm tn g2 za (va_up ss k b) bk _ b n (ln k) ln hnu (by omega) hz (fun x hx h1 h2 => by rw [va_up_ne _ _ (c1 x hx h1 h2).1]; have := (c1 x hx h1 h2).2; omega) (mw_ss hL hk hbb hus)) k_X3_49 ⟨sf_blind, va_recv hK hP (ci := 3) (q0 := 0) rfl rfl, sf_preU hP hK hD hN⟩ rfl hl.1 (Nat.le_of_ble_eq_true rfl) ⟨(Nat.le_of_ble_eq_true rfl), (Nat.le_of_ble_eq_true rfl)⟩ ⟨rfl, rfl⟩ ⟨Nat.zero_le _, Nat.zero_le _⟩ dX3_change_166) hD hS hA (fun u_166 H locs h_166 hP hD hS => ?_)
      have hP : va_P (dC, dI) vwCl (mw_w b0 b1 b2 b3 b4 d1 d2 d3 d4 us nu bm tn g2 za (mw_sh nu n (ln k) b ln (va_up ss k b)) bk) H := hP
      have hD : va_D A (mw_w b0 b1 b2 b3 b4 d1 d2 d3 d4 us nu bm tn g2 za (mw_sh nu n (ln k) b ln (va_up ss k b)) bk) := hD
      refine lv_aload_n hx hb dX3_change_169 rfl (lv_at hl 0 rfl) ?_
      refine lv_dup hx hb dX3_change_170 rfl ?_
      refine va_get (D := (dC, dI)) (ci := 3) (v := .int (nI us)) (C := RX3) (T := TX3) (N := 8) hx hb hts sf_inX3 hown hK hP 0 rfl rfl 1 (by decide) (hts _ (sf_mem fl_X3_46 rfl)) (fun _ h9 => h9) rfl dX3_change_171 ?_
      refine lv_iload hx hb dX3_change_174 (lv_at hl 5 rfl) ?_
      refine lv_iadd hx hb dX3_change_176 ?_
      rw [sf_occ (by omega)]
      refine va_put (D := (dC, dI)) (ci := 3) (v := .int (nI (us + n - ln k))) (ty := .int) (C := RX3) (T := TX3) (N := 8) hx hb hts sf_inX3 tyX3 tyX3_ok nmX3 hown hK hP hD hS 0 rfl rfl 1 (by decide) (hts _ (sf_mem fl_X3_46 rfl)) (fun _ h9 => h9) rfl (by decide +kernel) rfl rfl (Nat.le_of_ble_eq_true rfl) dX3_change_177 (fun H locs hP hD hS => ?_)
      have hP : va_P (dC, dI) vwCl (mw_w b0 b1 b2 b3 b4 d1 d2 d3 d4 (us + n - ln k) nu bm tn g2 za (mw_sh nu n (ln k) b ln (va_up ss k b)) bk) H := hP
      have hD : va_D A (mw_w b0 b1 b2 b3 b4 d1 d2 d3 d4 (us + n - ln k) nu bm tn g2 za (mw_sh nu n (ln k) b ln (va_up ss k b)) bk) := hD
      refine lv_aload_n hx hb dX3_change_180 rfl (lv_at hl 0 rfl) ?_
      refine lv_dup hx hb dX3_change_181 rfl ?_
      refine va_get (D := (dC, dI)) (ci := 3) (v := .int (nI tn)) (C := RX3) (T := TX3) (N := 8) hx hb hts sf_inX3 hown hK hP 0 rfl rfl 7 (by decide) (hts _ (sf_mem fl_X3_35 rfl)) (fun _ h9 => h9) rfl dX3_change_182 ?_
      refine lv_iload_n hx hb dX3_change_185 rfl (lv_at hl 2 rfl) ?_
      refine vp_callSi (va_Run.run (sf_runS (As := [.int (nI n)]) (rest := [.int (nI tn), .ref b0]) ⟨hx, hb, hml, hown, hts⟩ sf_has (m_placesOf l n (by omega)) k_X3_38 ⟨sf_blindT, sf_preT⟩ rfl hl.1 (Nat.le_of_ble_eq_true rfl) ⟨(Nat.le_of_ble_eq_true rfl), (Nat.le_of_ble_eq_true rfl)⟩ ⟨rfl, rfl⟩ ⟨Nat.zero_le _, Nat.zero_le _⟩ dX3_change_186)) (fun r_186 h_186 => ?_)
      subst h_186
      refine lv_iload_n hx hb dX3_change_189 rfl (lv_at hl 3 rfl) ?_
      refine vp_callSi (va_Run.run (sf_runS (As := [.int (nI (ln k))]) (rest := [.int (nI (sf_P n)), .int (nI tn), .ref b0]) ⟨hx, hb, hml, hown, hts⟩ sf_has (m_placesOf l (ln k) (by omega)) k_X3_38 ⟨sf_blindT, sf_preT⟩ rfl hl.1 (Nat.le_of_ble_eq_true rfl) ⟨(Nat.le_of_ble_eq_true rfl), (Nat.le_of_ble_eq_true rfl)⟩ ⟨rfl, rfl⟩ ⟨Nat.zero_le _, Nat.zero_le _⟩ dX3_change_190)) (fun r_190 h_190 => ?_)
      subst h_190
      refine lv_isub hx hb dX3_change_193 ?_
      refine lv_iadd hx hb dX3_change_194 ?_
      rw [sf_occ (by omega)]
      refine va_put (D := (dC, dI)) (ci := 3) (v := .int (nI (tn + sf_P n - sf_P (ln k)))) (ty := .int) (C := RX3) (T := TX3) (N := 8) hx hb hts sf_inX3 tyX3 tyX3_ok nmX3 hown hK hP hD hS 0 rfl rfl 7 (by decide) (hts _ (sf_mem fl_X3_35 rfl)) (fun _ h9 => h9) rfl (by decide +kernel) rfl rfl (Nat.le_of_ble_eq_true rfl) dX3_change_195 (fun H locs hP hD hS => ?_)
      have hP : va_P (dC, dI) vwCl (mw_w b0 b1 b2 b3 b4 d1 d2 d3 d4 (us + n - ln k) nu bm (tn + sf_P n - sf_P (ln k)) g2 za (mw_sh nu n (ln k) b ln (va_up ss k b)) bk) H := hP
      have hD : va_D A (mw_w b0 b1 b2 b3 b4 d1 d2 d3 d4 (us + n - ln k) nu bm (tn + sf_P n - sf_P (ln k)) g2 za (mw_sh nu n (ln k) b ln (va_up ss k b)) bk) := hD
      refine lv_aload_n hx hb dX3_change_198 rfl (lv_at hl 0 rfl) ?_
      refine va_get (D := (dC, dI)) (ci := 3) (v := .ref b3) (C := RX3) (T := TX3) (N := 8) hx hb hts sf_inX3 hown hK hP 0 rfl rfl 3 (by decide) (hts _ (sf_mem fl_X3_18 rfl)) (fun _ h9 => h9) rfl dX3_change_199 ?_
      refine lv_iload_n hx hb dX3_change_202 rfl (lv_at hl 1 rfl) ?_
      refine lv_iload_n hx hb dX3_change_203 rfl (lv_at hl 2 rfl) ?_
      refine sf_iast hx hb hK hP hD hS 3 2 rfl rfl (by omega) (by decide) dX3_change_204 (fun H locs hP hD hS => ?_)
      have hP : va_P (dC, dI) vwCl (mw_w b0 b1 b2 b3 b4 d1 d2 d3 d4 (us + n - ln k) nu bm (tn + sf_P n - sf_P (ln k)) g2 (upd za k (nI n)) (mw_sh nu n (ln k) b ln (va_up ss k b)) bk) H := hP
      have hD : va_D A (mw_w b0 b1 b2 b3 b4 d1 d2 d3 d4 (us + n - ln k) nu bm (tn + sf_P n - sf_P (ln k)) g2 (upd za k (nI n)) (mw_sh nu n (ln k) b ln (va_up ss k b)) bk) := hD
      exact W.vret hx hb hr (fun t ht hW => ⟨⟨(g2, mw_sh nu n (ln k) b ln (va_up ss k b)), rfl, ⟨c2, c4, fun i hi => by dsimp only; rw [c3]; exact c5 i hi, c6⟩, by rw [ht]; exact hP, hD⟩, hS.F ht⟩) hS.2.2 dX3_change_205
    · intro jn
      rcases Nat.lt_or_ge n (ln k) with hlt | hge
      · have hneg := mw_neg hlt hln
        refine sf_loop (σ := Nat × (Nat → Int32)) (fun u => us - u.1) (fun u H locs ls => b + ln k ≤ u.1 ∧ u.1 ≤ us ∧ (∀ x, u.2 x = if b + ln k + n - ln k ≤ x ∧ x < u.1 + n - ln k then g (x + (ln k - n)) else g x) ∧ sb_Fit u.2 ∧ va_P (dC, dI) vwCl (mw_w b0 b1 b2 b3 b4 d1 d2 d3 d4 us nu bm tn u.2 za (va_up ss k b) bk) H ∧ va_D A (mw_w b0 b1 b2 b3 b4 d1 d2 d3 d4 us nu bm tn u.2 za (va_up ss k b) bk) ∧ va_S A s.heap H locs ∧ lv_has ls 7 [(0, .ref b0), (1, .int (nI k)), (2, .int (nI n)), (3, .int (nI (ln k))), (4, .int (nI (b + ln k))), (5, .int (nI n - nI (ln k))), (6, .int (nI u.1))]) ?_ (b + ln k, g) _ _ _ ?_
        · intro u H locs ls hI2 ih
          obtain ⟨p0, g1⟩ := u
          obtain ⟨k1, k2, k3, k4, hP, hD, hS, hl⟩ := hI2
          dsimp only at k1 k2 k3 k4 hP hD hl ih
          have hfp := k4 p0
          refine lv_iload hx hb dX3_change_49 (lv_at hl 6 rfl) ?_
          refine lv_aload_n hx hb dX3_change_51 rfl (lv_at hl 0 rfl) ?_
          refine va_get (D := (dC, dI)) (ci := 3) (v := .int (nI us)) (C := RX3) (T := TX3) (N := 8) hx hb hts sf_inX3 hown hK hP 0 rfl rfl 1 (by decide) (hts _ (sf_mem fl_X3_46 rfl)) (fun _ h9 => h9) rfl dX3_change_52 ?_
          refine sf_icmp_ge (tgt := 86) hx hb (by omega) (by omega) dX3_change_55 (by decide) (fun c_55 => ?_) (fun c_55 => ?_)
          · refine lv_aload_n hx hb dX3_change_86 rfl (lv_at hl 0 rfl) ?_
            refine va_get (D := (dC, dI)) (ci := 3) (v := .int (nI us)) (C := RX3) (T := TX3) (N := 8) hx hb hts sf_inX3 hown hK hP 0 rfl rfl 1 (by decide) (hts _ (sf_mem fl_X3_46 rfl)) (fun _ h9 => h9) rfl dX3_change_87 ?_
            refine lv_iconst (v := nI 1) hx hb dX3_change_90 (by decide) ?_
            refine lv_isub hx hb dX3_change_91 ?_
            refine lv_istore (lv' := [(6, .int ((nI us) - (nI 1))), (0, .ref b0), (1, .int (nI k)), (2, .int (nI n)), (3, .int (nI (ln k))), (4, .int (nI (b + ln k))), (5, .int (nI n - nI (ln k)))]) hx hb dX3_change_92 hl (by decide) rfl (fun ls hl => ?_)
            refine lv_iload hx hb dX3_change_94 (lv_at hl 0 rfl) ?_
            refine lv_iload hx hb dX3_change_96 (lv_at hl 5 rfl) ?_
            refine lv_icmp_lt (tgt := 129) hx hb dX3_change_98 (by decide) (fun c_98 => ?_) (fun c_98 => ?_)
            · refine lv_iload hx hb dX3_change_129 (lv_at hl 5 rfl) ?_
              refine lv_istore (lv' := [(6, .int (nI (b + ln k))), (0, .ref b0), (1, .int (nI k)), (2, .int (nI n)), (3, .int (nI (ln k))), (4, .int (nI (b + ln k))), (5, .int (nI n - nI (ln k)))]) hx hb dX3_change_131 hl (by decide) rfl (fun ls hl => ?_)
              refine lv_iload hx hb dX3_change_133 (lv_at hl 0 rfl) ?_
              refine lv_iload hx hb dX3_change_135 (lv_at hl 5 rfl) ?_
              refine lv_iload hx hb dX3_change_137 (lv_at hl 6 rfl) ?_
              refine lv_iadd hx hb dX3_change_139 ?_
              rw [sf_occ (by omega)]
              refine sf_icmp_ge (tgt := 157) hx hb (by omega) (by omega) dX3_change_140 (by decide) (fun c_140 => ?_) (fun c_140 => ?_)
              · exact jn _ _ _ ⟨g1, Or.inl ⟨by omega, by rw [show p0 = us by omega] at k3; exact k3⟩, hP, hD, hS, lv_sub hl [1, 2, 3, 4, 5, 6] rfl⟩
              · exact absurd c_140 (by omega)
            · refine lv_iload hx hb dX3_change_101 (lv_at hl 6 rfl) ?_
              refine lv_if_le (tgt := 129) hx hb dX3_change_103 (by decide) (fun c_103 => ?_) (fun c_103 => ?_)
              · refine lv_iload hx hb dX3_change_129 (lv_at hl 5 rfl) ?_
                refine lv_istore (lv' := [(6, .int (nI (b + ln k))), (0, .ref b0), (1, .int (nI k)), (2, .int (nI n)), (3, .int (nI (ln k))), (4, .int (nI (b + ln k))), (5, .int (nI n - nI (ln k)))]) hx hb dX3_change_131 hl (by decide) rfl (fun ls hl => ?_)
                refine lv_iload hx hb dX3_change_133 (lv_at hl 0 rfl) ?_
                refine lv_iload hx hb dX3_change_135 (lv_at hl 5 rfl) ?_
                refine lv_iload hx hb dX3_change_137 (lv_at hl 6 rfl) ?_
                refine lv_iadd hx hb dX3_change_139 ?_
                rw [sf_occ (by omega)]
                refine sf_icmp_ge (tgt := 157) hx hb (by omega) (by omega) dX3_change_140 (by decide) (fun c_140 => ?_) (fun c_140 => ?_)
                · exact jn _ _ _ ⟨g1, Or.inl ⟨by omega, by rw [show p0 = us by omega] at k3; exact k3⟩, hP, hD, hS, lv_sub hl [1, 2, 3, 4, 5, 6] rfl⟩
                · exact absurd c_140 (by omega)
              · exact absurd (Int32.le_of_lt hneg) c_103
          · refine lv_iload hx hb dX3_change_58 (lv_at hl 5 rfl) ?_
            refine lv_if_ge (tgt := 86) hx hb dX3_change_60 (by decide) (fun c_60 => ?_) (fun c_60 => ?_)
            · exact absurd hneg (Int32.not_lt.mpr c_60)
            · refine lv_aload_n hx hb dX3_change_63 rfl (lv_at hl 0 rfl) ?_
              refine va_get (D := (dC, dI)) (ci := 3) (v := .ref b1) (C := RX3) (T := TX3) (N := 8) hx hb hts sf_inX3 hown hK hP 0 rfl rfl 0 (by decide) (hts _ (sf_mem fl_X3_8 rfl)) (fun _ h9 => h9) rfl dX3_change_64 ?_
              refine lv_iload hx hb dX3_change_67 (lv_at hl 6 rfl) ?_
              refine lv_iload hx hb dX3_change_69 (lv_at hl 5 rfl) ?_
              refine lv_iadd hx hb dX3_change_71 ?_
              rw [sf_occ (by omega)]
              refine lv_aload_n hx hb dX3_change_72 rfl (lv_at hl 0 rfl) ?_
              refine va_get (D := (dC, dI)) (ci := 3) (v := .ref b1) (C := RX3) (T := TX3) (N := 8) hx hb hts sf_inX3 hown hK hP 0 rfl rfl 0 (by decide) (hts _ (sf_mem fl_X3_8 rfl)) (fun _ h9 => h9) rfl dX3_change_73 ?_
              refine lv_iload hx hb dX3_change_76 (lv_at hl 6 rfl) ?_
              refine sf_bald hx hb hK hP 1 0 rfl rfl (by omega) (by decide) dX3_change_78 ?_
              refine sf_bast hx hb hK hP hD hS 1 0 rfl rfl (mw_nar hfp) (by omega) (by decide) dX3_change_79 (fun H locs hP hD hS => ?_)
              have hP : va_P (dC, dI) vwCl (mw_w b0 b1 b2 b3 b4 d1 d2 d3 d4 us nu bm tn (upd g1 (p0 + n - ln k) (g1 p0)) za (va_up ss k b) bk) H := hP
              have hD : va_D A (mw_w b0 b1 b2 b3 b4 d1 d2 d3 d4 us nu bm tn (upd g1 (p0 + n - ln k) (g1 p0)) za (va_up ss k b) bk) := hD
              refine lv_iinc (v := nI (p0 + 1)) (lv' := [(6, .int (nI (p0 + 1))), (0, .ref b0), (1, .int (nI k)), (2, .int (nI n)), (3, .int (nI (ln k))), (4, .int (nI (b + ln k))), (5, .int (nI n - nI (ln k)))]) hx hb dX3_change_80 hl (k := 6) rfl (nI_1 p0) (by decide) rfl (fun ls hl => ?_)
              refine lv_goto (tgt := 49) hx hb dX3_change_83 (by decide) ?_
              exact ih (p0 + 1, upd g1 (p0 + n - ln k) (g1 p0)) _ _ _ (by dsimp only; omega) ⟨by dsimp only; omega, by dsimp only; omega, mw_b1 hlt (by omega) k1 k3, sb_fitU k4 (k4 p0), hP, hD, hS, lv_sub hl [1, 2, 3, 4, 5, 6, 0] rfl⟩
        · exact ⟨Nat.le_refl _, hbk, fun x => by rw [if_neg (by omega)], hF, hP, hD, hS, lv_sub hl [3, 4, 5, 6, 2, 1, 0] rfl⟩
      · obtain ⟨d, hd⟩ : ∃ d, n - ln k = d := ⟨_, rfl⟩
        rw [pk_sub hge, hd] at hl
        refine lv_iload hx hb dX3_change_49 (lv_at hl 0 rfl) ?_
        refine lv_aload_n hx hb dX3_change_51 rfl (lv_at hl 3 rfl) ?_
        refine va_get (D := (dC, dI)) (ci := 3) (v := .int (nI us)) (C := RX3) (T := TX3) (N := 8) hx hb hts sf_inX3 hown hK hP 0 rfl rfl 1 (by decide) (hts _ (sf_mem fl_X3_46 rfl)) (fun _ h9 => h9) rfl dX3_change_52 ?_
        refine sf_icmp_ge (tgt := 86) hx hb (by omega) (by omega) dX3_change_55 (by decide) (fun c_55 => ?_) (fun c_55 => ?_)
        · refine lv_aload_n hx hb dX3_change_86 rfl (lv_at hl 3 rfl) ?_
          refine va_get (D := (dC, dI)) (ci := 3) (v := .int (nI us)) (C := RX3) (T := TX3) (N := 8) hx hb hts sf_inX3 hown hK hP 0 rfl rfl 1 (by decide) (hts _ (sf_mem fl_X3_46 rfl)) (fun _ h9 => h9) rfl dX3_change_87 ?_
          refine lv_iconst (v := nI 1) hx hb dX3_change_90 (by decide) ?_
          refine lv_isub hx hb dX3_change_91 ?_
          refine lv_istore (lv' := [(6, .int ((nI us) - (nI 1))), (5, .int (nI d)), (4, .int (nI (b + (ln k)))), (0, .ref b0), (1, .int (nI k)), (2, .int (nI n)), (3, .int (nI (ln k)))]) hx hb dX3_change_92 hl (by decide) rfl (fun ls hl => ?_)
          refine sf_loop (σ := Nat × (Nat → Int32)) (fun u => u.1) (fun u H locs ls => b + ln k ≤ u.1 ∧ u.1 ≤ us ∧ (∀ x, u.2 x = if u.1 + d ≤ x ∧ x < us + d then g (x - d) else g x) ∧ sb_Fit u.2 ∧ va_P (dC, dI) vwCl (mw_w b0 b1 b2 b3 b4 d1 d2 d3 d4 us nu bm tn u.2 za (va_up ss k b) bk) H ∧ va_D A (mw_w b0 b1 b2 b3 b4 d1 d2 d3 d4 us nu bm tn u.2 za (va_up ss k b) bk) ∧ va_S A s.heap H locs ∧ lv_has ls 7 [(0, .ref b0), (1, .int (nI k)), (2, .int (nI n)), (3, .int (nI (ln k))), (4, .int (nI (b + ln k))), (5, .int (nI d)), (6, .int (nI u.1 - nI 1))]) ?_ (us, g) _ _ _ ?_
          · intro u H locs ls hI2 ih
            obtain ⟨p0, g1⟩ := u
            obtain ⟨k1, k2, k3, k4, hP, hD, hS, hl⟩ := hI2
            dsimp only at k1 k2 k3 k4 hP hD hl ih
            have hfp := k4 (p0 - 1)
            refine lv_iload hx hb dX3_change_94 (lv_at hl 6 rfl) ?_
            refine lv_iload hx hb dX3_change_96 (lv_at hl 4 rfl) ?_
            refine lv_icmp_lt (tgt := 129) hx hb dX3_change_98 (by decide) (fun c_98 => ?_) (fun c_98 => ?_)
            · have hpe := (mw_dn k1 (by omega)).mp c_98
              have hg5 := mw_b5 (e := b + ln k) (by omega) k1 hbk k3
              refine lv_iload hx hb dX3_change_129 (lv_at hl 4 rfl) ?_
              refine lv_istore (lv' := [(6, .int (nI (b + ln k))), (0, .ref b0), (1, .int (nI k)), (2, .int (nI n)), (3, .int (nI (ln k))), (4, .int (nI (b + ln k))), (5, .int (nI d))]) hx hb dX3_change_131 hl (by decide) rfl (fun ls hl => ?_)
              refine sf_loop (σ := Nat × (Nat → Int32)) (fun u => b + ln k + d - u.1) (fun u H locs ls => b + ln k ≤ u.1 ∧ u.1 ≤ b + ln k + d ∧ (∀ x, u.2 x = if b + ln k ≤ x ∧ x < u.1 then 0 else g1 x) ∧ va_P (dC, dI) vwCl (mw_w b0 b1 b2 b3 b4 d1 d2 d3 d4 us nu bm tn u.2 za (va_up ss k b) bk) H ∧ va_D A (mw_w b0 b1 b2 b3 b4 d1 d2 d3 d4 us nu bm tn u.2 za (va_up ss k b) bk) ∧ va_S A s.heap H locs ∧ lv_has ls 7 [(0, .ref b0), (1, .int (nI k)), (2, .int (nI n)), (3, .int (nI (ln k))), (4, .int (nI (b + ln k))), (5, .int (nI d)), (6, .int (nI u.1))]) ?_ (b + ln k, g1) _ _ _ ?_
              · intro u H locs ls hI3 ih3
                obtain ⟨q0, g3⟩ := u
                obtain ⟨j1, j2, j3, hP, hD, hS, hl⟩ := hI3
                dsimp only at j1 j2 j3 hP hD hl ih3
                refine lv_iload hx hb dX3_change_133 (lv_at hl 6 rfl) ?_
                refine lv_iload hx hb dX3_change_135 (lv_at hl 4 rfl) ?_
                refine lv_iload hx hb dX3_change_137 (lv_at hl 5 rfl) ?_
                refine sf_iadd hx hb dX3_change_139 ?_
                refine sf_icmp_ge (tgt := 157) hx hb (by omega) (by omega) dX3_change_140 (by decide) (fun c_140 => ?_) (fun c_140 => ?_)
                · refine jn _ _ _ ⟨g3, mw_b4 hd hge hg5 (by rw [show q0 = b + ln k + d by omega] at j3; exact j3), hP, hD, hS, ?_⟩
                  rw [pk_sub hge, hd]
                  exact lv_sub hl [0, 1, 2, 3, 4, 5] rfl
                · refine lv_aload_n hx hb dX3_change_143 rfl (lv_at hl 0 rfl) ?_
                  refine va_get (D := (dC, dI)) (ci := 3) (v := .ref b1) (C := RX3) (T := TX3) (N := 8) hx hb hts sf_inX3 hown hK hP 0 rfl rfl 0 (by decide) (hts _ (sf_mem fl_X3_8 rfl)) (fun _ h9 => h9) rfl dX3_change_144 ?_
                  refine lv_iload hx hb dX3_change_147 (lv_at hl 6 rfl) ?_
                  refine lv_iconst (v := nI 0) hx hb dX3_change_149 (by decide) ?_
                  refine sf_bast hx hb hK hP hD hS 1 0 rfl rfl (by decide) (by omega) (by decide) dX3_change_150 (fun H locs hP hD hS => ?_)
                  have hP : va_P (dC, dI) vwCl (mw_w b0 b1 b2 b3 b4 d1 d2 d3 d4 us nu bm tn (upd g3 q0 (nI 0)) za (va_up ss k b) bk) H := hP
                  have hD : va_D A (mw_w b0 b1 b2 b3 b4 d1 d2 d3 d4 us nu bm tn (upd g3 q0 (nI 0)) za (va_up ss k b) bk) := hD
                  refine lv_iinc (v := nI (q0 + 1)) (lv' := [(6, .int (nI (q0 + 1))), (0, .ref b0), (1, .int (nI k)), (2, .int (nI n)), (3, .int (nI (ln k))), (4, .int (nI (b + ln k))), (5, .int (nI d))]) hx hb dX3_change_151 hl (k := 6) rfl (nI_1 q0) (by decide) rfl (fun ls hl => ?_)
                  refine lv_goto (tgt := 133) hx hb dX3_change_154 (by decide) ?_
                  exact ih3 (q0 + 1, upd g3 q0 (nI 0)) _ _ _ (by dsimp only; omega) ⟨by dsimp only; omega, by dsimp only; omega, mw_b3 j1 j3, hP, hD, hS, lv_sub hl [1, 2, 3, 4, 5, 6, 0] rfl⟩
              · exact ⟨Nat.le_refl _, Nat.le_add_right _ _, fun x => by rw [if_neg (by omega)], hP, hD, hS, lv_sub hl [1, 2, 3, 4, 5, 6, 0] rfl⟩
            · have hpe : b + ln k < p0 := Nat.lt_of_le_of_ne k1 (fun q => c_98 ((mw_dn k1 (by omega)).mpr q.symm))
              rw [pk_sub (by omega)] at hl
              refine lv_iload hx hb dX3_change_101 (lv_at hl 5 rfl) ?_
              refine sf_if_le (tgt := 129) hx hb (by omega) dX3_change_103 (by decide) (fun c_103 => ?_) (fun c_103 => ?_)
              · have hg5 := mw_b5 (e := b + ln k) (by omega) k1 hbk k3
                refine lv_iload hx hb dX3_change_129 (lv_at hl 4 rfl) ?_
                refine lv_istore (lv' := [(6, .int (nI (b + ln k))), (0, .ref b0), (1, .int (nI k)), (2, .int (nI n)), (3, .int (nI (ln k))), (4, .int (nI (b + ln k))), (5, .int (nI d))]) hx hb dX3_change_131 hl (by decide) rfl (fun ls hl => ?_)
                refine sf_loop (σ := Nat × (Nat → Int32)) (fun u => b + ln k + d - u.1) (fun u H locs ls => b + ln k ≤ u.1 ∧ u.1 ≤ b + ln k + d ∧ (∀ x, u.2 x = if b + ln k ≤ x ∧ x < u.1 then 0 else g1 x) ∧ va_P (dC, dI) vwCl (mw_w b0 b1 b2 b3 b4 d1 d2 d3 d4 us nu bm tn u.2 za (va_up ss k b) bk) H ∧ va_D A (mw_w b0 b1 b2 b3 b4 d1 d2 d3 d4 us nu bm tn u.2 za (va_up ss k b) bk) ∧ va_S A s.heap H locs ∧ lv_has ls 7 [(0, .ref b0), (1, .int (nI k)), (2, .int (nI n)), (3, .int (nI (ln k))), (4, .int (nI (b + ln k))), (5, .int (nI d)), (6, .int (nI u.1))]) ?_ (b + ln k, g1) _ _ _ ?_
                · intro u H locs ls hI3 ih3
                  obtain ⟨q0, g3⟩ := u
                  obtain ⟨j1, j2, j3, hP, hD, hS, hl⟩ := hI3
                  dsimp only at j1 j2 j3 hP hD hl ih3
                  refine lv_iload hx hb dX3_change_133 (lv_at hl 6 rfl) ?_
                  refine lv_iload hx hb dX3_change_135 (lv_at hl 4 rfl) ?_
                  refine lv_iload hx hb dX3_change_137 (lv_at hl 5 rfl) ?_
                  refine sf_iadd hx hb dX3_change_139 ?_
                  refine sf_icmp_ge (tgt := 157) hx hb (by omega) (by omega) dX3_change_140 (by decide) (fun c_140 => ?_) (fun c_140 => ?_)
                  · refine jn _ _ _ ⟨g3, mw_b4 hd hge hg5 (by rw [show q0 = b + ln k + d by omega] at j3; exact j3), hP, hD, hS, ?_⟩
                    rw [pk_sub hge, hd]
                    exact lv_sub hl [0, 1, 2, 3, 4, 5] rfl
                  · refine lv_aload_n hx hb dX3_change_143 rfl (lv_at hl 0 rfl) ?_
                    refine va_get (D := (dC, dI)) (ci := 3) (v := .ref b1) (C := RX3) (T := TX3) (N := 8) hx hb hts sf_inX3 hown hK hP 0 rfl rfl 0 (by decide) (hts _ (sf_mem fl_X3_8 rfl)) (fun _ h9 => h9) rfl dX3_change_144 ?_
                    refine lv_iload hx hb dX3_change_147 (lv_at hl 6 rfl) ?_
                    refine lv_iconst (v := nI 0) hx hb dX3_change_149 (by decide) ?_
                    refine sf_bast hx hb hK hP hD hS 1 0 rfl rfl (by decide) (by omega) (by decide) dX3_change_150 (fun H locs hP hD hS => ?_)
                    have hP : va_P (dC, dI) vwCl (mw_w b0 b1 b2 b3 b4 d1 d2 d3 d4 us nu bm tn (upd g3 q0 (nI 0)) za (va_up ss k b) bk) H := hP
                    have hD : va_D A (mw_w b0 b1 b2 b3 b4 d1 d2 d3 d4 us nu bm tn (upd g3 q0 (nI 0)) za (va_up ss k b) bk) := hD
                    refine lv_iinc (v := nI (q0 + 1)) (lv' := [(6, .int (nI (q0 + 1))), (0, .ref b0), (1, .int (nI k)), (2, .int (nI n)), (3, .int (nI (ln k))), (4, .int (nI (b + ln k))), (5, .int (nI d))]) hx hb dX3_change_151 hl (k := 6) rfl (nI_1 q0) (by decide) rfl (fun ls hl => ?_)
                    refine lv_goto (tgt := 133) hx hb dX3_change_154 (by decide) ?_
                    exact ih3 (q0 + 1, upd g3 q0 (nI 0)) _ _ _ (by dsimp only; omega) ⟨by dsimp only; omega, by dsimp only; omega, mw_b3 j1 j3, hP, hD, hS, lv_sub hl [1, 2, 3, 4, 5, 6, 0] rfl⟩
                · exact ⟨Nat.le_refl _, Nat.le_add_right _ _, fun x => by rw [if_neg (by omega)], hP, hD, hS, lv_sub hl [1, 2, 3, 4, 5, 6, 0] rfl⟩
              · refine lv_aload_n hx hb dX3_change_106 rfl (lv_at hl 0 rfl) ?_
                refine va_get (D := (dC, dI)) (ci := 3) (v := .ref b1) (C := RX3) (T := TX3) (N := 8) hx hb hts sf_inX3 hown hK hP 0 rfl rfl 0 (by decide) (hts _ (sf_mem fl_X3_8 rfl)) (fun _ h9 => h9) rfl dX3_change_107 ?_
                refine lv_iload hx hb dX3_change_110 (lv_at hl 6 rfl) ?_
                refine lv_iload hx hb dX3_change_112 (lv_at hl 5 rfl) ?_
                refine sf_iadd hx hb dX3_change_114 ?_
                refine lv_aload_n hx hb dX3_change_115 rfl (lv_at hl 0 rfl) ?_
                refine va_get (D := (dC, dI)) (ci := 3) (v := .ref b1) (C := RX3) (T := TX3) (N := 8) hx hb hts sf_inX3 hown hK hP 0 rfl rfl 0 (by decide) (hts _ (sf_mem fl_X3_8 rfl)) (fun _ h9 => h9) rfl dX3_change_116 ?_
                refine lv_iload hx hb dX3_change_119 (lv_at hl 6 rfl) ?_
                refine sf_bald hx hb hK hP 1 0 rfl rfl (by omega) (by decide) dX3_change_121 ?_
                refine sf_bast hx hb hK hP hD hS 1 0 rfl rfl (mw_nar hfp) (by omega) (by decide) dX3_change_122 (fun H locs hP hD hS => ?_)
                have hP : va_P (dC, dI) vwCl (mw_w b0 b1 b2 b3 b4 d1 d2 d3 d4 us nu bm tn (upd g1 ((p0 - 1) + d) (g1 (p0 - 1))) za (va_up ss k b) bk) H := hP
                have hD : va_D A (mw_w b0 b1 b2 b3 b4 d1 d2 d3 d4 us nu bm tn (upd g1 ((p0 - 1) + d) (g1 (p0 - 1))) za (va_up ss k b) bk) := hD
                refine lv_iinc (v := nI (p0 - 1) - nI 1) (lv' := [(6, .int (nI (p0 - 1) - nI 1)), (0, .ref b0), (1, .int (nI k)), (2, .int (nI n)), (3, .int (nI (ln k))), (4, .int (nI (b + ln k))), (5, .int (nI d))]) hx hb dX3_change_123 hl (k := 6) rfl (mw_dec _) (by decide) rfl (fun ls hl => ?_)
                refine lv_goto (tgt := 94) hx hb dX3_change_126 (by decide) ?_
                exact ih (p0 - 1, upd g1 (p0 - 1 + d) (g1 (p0 - 1))) _ _ _ (by dsimp only; omega) ⟨by dsimp only; omega, by dsimp only; omega, mw_b2 c_103 (by omega) k2 k3, sb_fitU k4 (k4 _), hP, hD, hS, lv_sub hl [1, 2, 3, 4, 5, 6, 0] rfl⟩
          · exact ⟨hbk, Nat.le_refl _, fun x => by rw [if_neg (by omega)], hF, hP, hD, hS, lv_sub hl [3, 4, 5, 6, 2, 1, 0] rfl⟩
        · refine lv_iload hx hb dX3_change_58 (lv_at hl 1 rfl) ?_
          refine sf_if_ge (tgt := 86) hx hb (by omega) dX3_change_60 (by decide) ?_
          refine lv_aload_n hx hb dX3_change_86 rfl (lv_at hl 3 rfl) ?_
          refine va_get (D := (dC, dI)) (ci := 3) (v := .int (nI us)) (C := RX3) (T := TX3) (N := 8) hx hb hts sf_inX3 hown hK hP 0 rfl rfl 1 (by decide) (hts _ (sf_mem fl_X3_46 rfl)) (fun _ h9 => h9) rfl dX3_change_87 ?_
          refine lv_iconst (v := nI 1) hx hb dX3_change_90 (by decide) ?_
          refine lv_isub hx hb dX3_change_91 ?_
          refine lv_istore (lv' := [(6, .int ((nI us) - (nI 1))), (5, .int (nI d)), (4, .int (nI (b + (ln k)))), (0, .ref b0), (1, .int (nI k)), (2, .int (nI n)), (3, .int (nI (ln k)))]) hx hb dX3_change_92 hl (by decide) rfl (fun ls hl => ?_)
          refine sf_loop (σ := Nat × (Nat → Int32)) (fun u => u.1) (fun u H locs ls => b + ln k ≤ u.1 ∧ u.1 ≤ us ∧ (∀ x, u.2 x = if u.1 + d ≤ x ∧ x < us + d then g (x - d) else g x) ∧ sb_Fit u.2 ∧ va_P (dC, dI) vwCl (mw_w b0 b1 b2 b3 b4 d1 d2 d3 d4 us nu bm tn u.2 za (va_up ss k b) bk) H ∧ va_D A (mw_w b0 b1 b2 b3 b4 d1 d2 d3 d4 us nu bm tn u.2 za (va_up ss k b) bk) ∧ va_S A s.heap H locs ∧ lv_has ls 7 [(0, .ref b0), (1, .int (nI k)), (2, .int (nI n)), (3, .int (nI (ln k))), (4, .int (nI (b + ln k))), (5, .int (nI d)), (6, .int (nI u.1 - nI 1))]) ?_ (us, g) _ _ _ ?_
          · intro u H locs ls hI2 ih
            obtain ⟨p0, g1⟩ := u
            obtain ⟨k1, k2, k3, k4, hP, hD, hS, hl⟩ := hI2
            dsimp only at k1 k2 k3 k4 hP hD hl ih
            have hfp := k4 (p0 - 1)
            refine lv_iload hx hb dX3_change_94 (lv_at hl 6 rfl) ?_
            refine lv_iload hx hb dX3_change_96 (lv_at hl 4 rfl) ?_
            refine lv_icmp_lt (tgt := 129) hx hb dX3_change_98 (by decide) (fun c_98 => ?_) (fun c_98 => ?_)
            · have hpe := (mw_dn k1 (by omega)).mp c_98
              have hg5 := mw_b5 (e := b + ln k) (by omega) k1 hbk k3
              refine lv_iload hx hb dX3_change_129 (lv_at hl 4 rfl) ?_
              refine lv_istore (lv' := [(6, .int (nI (b + ln k))), (0, .ref b0), (1, .int (nI k)), (2, .int (nI n)), (3, .int (nI (ln k))), (4, .int (nI (b + ln k))), (5, .int (nI d))]) hx hb dX3_change_131 hl (by decide) rfl (fun ls hl => ?_)
              refine sf_loop (σ := Nat × (Nat → Int32)) (fun u => b + ln k + d - u.1) (fun u H locs ls => b + ln k ≤ u.1 ∧ u.1 ≤ b + ln k + d ∧ (∀ x, u.2 x = if b + ln k ≤ x ∧ x < u.1 then 0 else g1 x) ∧ va_P (dC, dI) vwCl (mw_w b0 b1 b2 b3 b4 d1 d2 d3 d4 us nu bm tn u.2 za (va_up ss k b) bk) H ∧ va_D A (mw_w b0 b1 b2 b3 b4 d1 d2 d3 d4 us nu bm tn u.2 za (va_up ss k b) bk) ∧ va_S A s.heap H locs ∧ lv_has ls 7 [(0, .ref b0), (1, .int (nI k)), (2, .int (nI n)), (3, .int (nI (ln k))), (4, .int (nI (b + ln k))), (5, .int (nI d)), (6, .int (nI u.1))]) ?_ (b + ln k, g1) _ _ _ ?_
              · intro u H locs ls hI3 ih3
                obtain ⟨q0, g3⟩ := u
                obtain ⟨j1, j2, j3, hP, hD, hS, hl⟩ := hI3
                dsimp only at j1 j2 j3 hP hD hl ih3
                refine lv_iload hx hb dX3_change_133 (lv_at hl 6 rfl) ?_
                refine lv_iload hx hb dX3_change_135 (lv_at hl 4 rfl) ?_
                refine lv_iload hx hb dX3_change_137 (lv_at hl 5 rfl) ?_
                refine sf_iadd hx hb dX3_change_139 ?_
                refine sf_icmp_ge (tgt := 157) hx hb (by omega) (by omega) dX3_change_140 (by decide) (fun c_140 => ?_) (fun c_140 => ?_)
                · refine jn _ _ _ ⟨g3, mw_b4 hd hge hg5 (by rw [show q0 = b + ln k + d by omega] at j3; exact j3), hP, hD, hS, ?_⟩
                  rw [pk_sub hge, hd]
                  exact lv_sub hl [0, 1, 2, 3, 4, 5] rfl
                · refine lv_aload_n hx hb dX3_change_143 rfl (lv_at hl 0 rfl) ?_
                  refine va_get (D := (dC, dI)) (ci := 3) (v := .ref b1) (C := RX3) (T := TX3) (N := 8) hx hb hts sf_inX3 hown hK hP 0 rfl rfl 0 (by decide) (hts _ (sf_mem fl_X3_8 rfl)) (fun _ h9 => h9) rfl dX3_change_144 ?_
                  refine lv_iload hx hb dX3_change_147 (lv_at hl 6 rfl) ?_
                  refine lv_iconst (v := nI 0) hx hb dX3_change_149 (by decide) ?_
                  refine sf_bast hx hb hK hP hD hS 1 0 rfl rfl (by decide) (by omega) (by decide) dX3_change_150 (fun H locs hP hD hS => ?_)
                  have hP : va_P (dC, dI) vwCl (mw_w b0 b1 b2 b3 b4 d1 d2 d3 d4 us nu bm tn (upd g3 q0 (nI 0)) za (va_up ss k b) bk) H := hP
                  have hD : va_D A (mw_w b0 b1 b2 b3 b4 d1 d2 d3 d4 us nu bm tn (upd g3 q0 (nI 0)) za (va_up ss k b) bk) := hD
                  refine lv_iinc (v := nI (q0 + 1)) (lv' := [(6, .int (nI (q0 + 1))), (0, .ref b0), (1, .int (nI k)), (2, .int (nI n)), (3, .int (nI (ln k))), (4, .int (nI (b + ln k))), (5, .int (nI d))]) hx hb dX3_change_151 hl (k := 6) rfl (nI_1 q0) (by decide) rfl (fun ls hl => ?_)
                  refine lv_goto (tgt := 133) hx hb dX3_change_154 (by decide) ?_
                  exact ih3 (q0 + 1, upd g3 q0 (nI 0)) _ _ _ (by dsimp only; omega) ⟨by dsimp only; omega, by dsimp only; omega, mw_b3 j1 j3, hP, hD, hS, lv_sub hl [1, 2, 3, 4, 5, 6, 0] rfl⟩
              · exact ⟨Nat.le_refl _, Nat.le_add_right _ _, fun x => by rw [if_neg (by omega)], hP, hD, hS, lv_sub hl [1, 2, 3, 4, 5, 6, 0] rfl⟩
            · have hpe : b + ln k < p0 := Nat.lt_of_le_of_ne k1 (fun q => c_98 ((mw_dn k1 (by omega)).mpr q.symm))
              rw [pk_sub (by omega)] at hl
              refine lv_iload hx hb dX3_change_101 (lv_at hl 5 rfl) ?_
              refine sf_if_le (tgt := 129) hx hb (by omega) dX3_change_103 (by decide) (fun c_103 => ?_) (fun c_103 => ?_)
              · have hg5 := mw_b5 (e := b + ln k) (by omega) k1 hbk k3
                refine lv_iload hx hb dX3_change_129 (lv_at hl 4 rfl) ?_
                refine lv_istore (lv' := [(6, .int (nI (b + ln k))), (0, .ref b0), (1, .int (nI k)), (2, .int (nI n)), (3, .int (nI (ln k))), (4, .int (nI (b + ln k))), (5, .int (nI d))]) hx hb dX3_change_131 hl (by decide) rfl (fun ls hl => ?_)
                refine sf_loop (σ := Nat × (Nat → Int32)) (fun u => b + ln k + d - u.1) (fun u H locs ls => b + ln k ≤ u.1 ∧ u.1 ≤ b + ln k + d ∧ (∀ x, u.2 x = if b + ln k ≤ x ∧ x < u.1 then 0 else g1 x) ∧ va_P (dC, dI) vwCl (mw_w b0 b1 b2 b3 b4 d1 d2 d3 d4 us nu bm tn u.2 za (va_up ss k b) bk) H ∧ va_D A (mw_w b0 b1 b2 b3 b4 d1 d2 d3 d4 us nu bm tn u.2 za (va_up ss k b) bk) ∧ va_S A s.heap H locs ∧ lv_has ls 7 [(0, .ref b0), (1, .int (nI k)), (2, .int (nI n)), (3, .int (nI (ln k))), (4, .int (nI (b + ln k))), (5, .int (nI d)), (6, .int (nI u.1))]) ?_ (b + ln k, g1) _ _ _ ?_
                · intro u H locs ls hI3 ih3
                  obtain ⟨q0, g3⟩ := u
                  obtain ⟨j1, j2, j3, hP, hD, hS, hl⟩ := hI3
                  dsimp only at j1 j2 j3 hP hD hl ih3
                  refine lv_iload hx hb dX3_change_133 (lv_at hl 6 rfl) ?_
                  refine lv_iload hx hb dX3_change_135 (lv_at hl 4 rfl) ?_
                  refine lv_iload hx hb dX3_change_137 (lv_at hl 5 rfl) ?_
                  refine sf_iadd hx hb dX3_change_139 ?_
                  refine sf_icmp_ge (tgt := 157) hx hb (by omega) (by omega) dX3_change_140 (by decide) (fun c_140 => ?_) (fun c_140 => ?_)
                  · refine jn _ _ _ ⟨g3, mw_b4 hd hge hg5 (by rw [show q0 = b + ln k + d by omega] at j3; exact j3), hP, hD, hS, ?_⟩
                    rw [pk_sub hge, hd]
                    exact lv_sub hl [0, 1, 2, 3, 4, 5] rfl
                  · refine lv_aload_n hx hb dX3_change_143 rfl (lv_at hl 0 rfl) ?_
                    refine va_get (D := (dC, dI)) (ci := 3) (v := .ref b1) (C := RX3) (T := TX3) (N := 8) hx hb hts sf_inX3 hown hK hP 0 rfl rfl 0 (by decide) (hts _ (sf_mem fl_X3_8 rfl)) (fun _ h9 => h9) rfl dX3_change_144 ?_
                    refine lv_iload hx hb dX3_change_147 (lv_at hl 6 rfl) ?_
                    refine lv_iconst (v := nI 0) hx hb dX3_change_149 (by decide) ?_
                    refine sf_bast hx hb hK hP hD hS 1 0 rfl rfl (by decide) (by omega) (by decide) dX3_change_150 (fun H locs hP hD hS => ?_)
                    have hP : va_P (dC, dI) vwCl (mw_w b0 b1 b2 b3 b4 d1 d2 d3 d4 us nu bm tn (upd g3 q0 (nI 0)) za (va_up ss k b) bk) H := hP
                    have hD : va_D A (mw_w b0 b1 b2 b3 b4 d1 d2 d3 d4 us nu bm tn (upd g3 q0 (nI 0)) za (va_up ss k b) bk) := hD
                    refine lv_iinc (v := nI (q0 + 1)) (lv' := [(6, .int (nI (q0 + 1))), (0, .ref b0), (1, .int (nI k)), (2, .int (nI n)), (3, .int (nI (ln k))), (4, .int (nI (b + ln k))), (5, .int (nI d))]) hx hb dX3_change_151 hl (k := 6) rfl (nI_1 q0) (by decide) rfl (fun ls hl => ?_)
                    refine lv_goto (tgt := 133) hx hb dX3_change_154 (by decide) ?_
                    exact ih3 (q0 + 1, upd g3 q0 (nI 0)) _ _ _ (by dsimp only; omega) ⟨by dsimp only; omega, by dsimp only; omega, mw_b3 j1 j3, hP, hD, hS, lv_sub hl [1, 2, 3, 4, 5, 6, 0] rfl⟩
                · exact ⟨Nat.le_refl _, Nat.le_add_right _ _, fun x => by rw [if_neg (by omega)], hP, hD, hS, lv_sub hl [1, 2, 3, 4, 5, 6, 0] rfl⟩
              · refine lv_aload_n hx hb dX3_change_106 rfl (lv_at hl 0 rfl) ?_
                refine va_get (D := (dC, dI)) (ci := 3) (v := .ref b1) (C := RX3) (T := TX3) (N := 8) hx hb hts sf_inX3 hown hK hP 0 rfl rfl 0 (by decide) (hts _ (sf_mem fl_X3_8 rfl)) (fun _ h9 => h9) rfl dX3_change_107 ?_
                refine lv_iload hx hb dX3_change_110 (lv_at hl 6 rfl) ?_
                refine lv_iload hx hb dX3_change_112 (lv_at hl 5 rfl) ?_
                refine sf_iadd hx hb dX3_change_114 ?_
                refine lv_aload_n hx hb dX3_change_115 rfl (lv_at hl 0 rfl) ?_
                refine va_get (D := (dC, dI)) (ci := 3) (v := .ref b1) (C := RX3) (T := TX3) (N := 8) hx hb hts sf_inX3 hown hK hP 0 rfl rfl 0 (by decide) (hts _ (sf_mem fl_X3_8 rfl)) (fun _ h9 => h9) rfl dX3_change_116 ?_
                refine lv_iload hx hb dX3_change_119 (lv_at hl 6 rfl) ?_
                refine sf_bald hx hb hK hP 1 0 rfl rfl (by omega) (by decide) dX3_change_121 ?_
                refine sf_bast hx hb hK hP hD hS 1 0 rfl rfl (mw_nar hfp) (by omega) (by decide) dX3_change_122 (fun H locs hP hD hS => ?_)
                have hP : va_P (dC, dI) vwCl (mw_w b0 b1 b2 b3 b4 d1 d2 d3 d4 us nu bm tn (upd g1 ((p0 - 1) + d) (g1 (p0 - 1))) za (va_up ss k b) bk) H := hP
                have hD : va_D A (mw_w b0 b1 b2 b3 b4 d1 d2 d3 d4 us nu bm tn (upd g1 ((p0 - 1) + d) (g1 (p0 - 1))) za (va_up ss k b) bk) := hD
                refine lv_iinc (v := nI (p0 - 1) - nI 1) (lv' := [(6, .int (nI (p0 - 1) - nI 1)), (0, .ref b0), (1, .int (nI k)), (2, .int (nI n)), (3, .int (nI (ln k))), (4, .int (nI (b + ln k))), (5, .int (nI d))]) hx hb dX3_change_123 hl (k := 6) rfl (mw_dec _) (by decide) rfl (fun ls hl => ?_)
                refine lv_goto (tgt := 94) hx hb dX3_change_126 (by decide) ?_
                exact ih (p0 - 1, upd g1 (p0 - 1 + d) (g1 (p0 - 1))) _ _ _ (by dsimp only; omega) ⟨by dsimp only; omega, by dsimp only; omega, mw_b2 c_103 (by omega) k2 k3, sb_fitU k4 (k4 _), hP, hD, hS, lv_sub hl [1, 2, 3, 4, 5, 6, 0] rfl⟩
          · exact ⟨hbk, Nat.le_refl _, fun x => by rw [if_neg (by omega)], hF, hP, hD, hS, lv_sub hl [3, 4, 5, 6, 2, 1, 0] rfl⟩
  · intro jn
    refine sf_if_ne (tgt := 23) hx hb (by omega) dX3_change_13 (by decide) (fun c_13 => ?_) (fun c_13 => ?_)
    · refine lv_aload_n hx hb dX3_change_23 rfl (lv_at hl 1 rfl) ?_
      refine va_get (D := (dC, dI)) (ci := 3) (v := .ref b2) (C := RX3) (T := TX3) (N := 8) hx hb hts sf_inX3 hown hK hP 0 rfl rfl 2 (by decide) (hts _ (sf_mem fl_X3_14 rfl)) (fun _ h9 => h9) rfl dX3_change_24 ?_
      refine lv_iload_n hx hb dX3_change_27 rfl (lv_at hl 2 rfl) ?_
      refine sf_iald hx hb hK hP 2 1 rfl rfl (by omega) (by decide) dX3_change_28 ?_
      try dsimp only
      refine sf_iast hx hb hK hP hD hS 2 1 rfl rfl (by omega) (by decide) dX3_change_29 (fun H locs hP hD hS => ?_)
      dsimp only [List.set] at hP hD
      rw [mw_updN] at hP hD
      have hP : va_P (dC, dI) vwCl (mw_w b0 b1 b2 b3 b4 d1 d2 d3 d4 us nu bm tn g za (va_up ss k (ss k)) bk) H := hP
      have hD : va_D A (mw_w b0 b1 b2 b3 b4 d1 d2 d3 d4 us nu bm tn g za (va_up ss k (ss k)) bk) := hD
      rw [show va_up ss k (ss k) = va_up ss k b by rw [hbb, if_neg c_13]] at hP hD
      exact jn _ _ _ ⟨hP, hD, hS, lv_sub hl [1, 2, 3, 0] rfl⟩
    · refine lv_aload_n hx hb dX3_change_16 rfl (lv_at hl 1 rfl) ?_
      refine va_get (D := (dC, dI)) (ci := 3) (v := .int (nI us)) (C := RX3) (T := TX3) (N := 8) hx hb hts sf_inX3 hown hK hP 0 rfl rfl 1 (by decide) (hts _ (sf_mem fl_X3_46 rfl)) (fun _ h9 => h9) rfl dX3_change_17 ?_
      refine lv_goto (tgt := 29) hx hb dX3_change_20 (by decide) ?_
      refine sf_iast hx hb hK hP hD hS 2 1 rfl rfl (by omega) (by decide) dX3_change_29 (fun H locs hP hD hS => ?_)
      dsimp only [List.set] at hP hD
      rw [mw_updN] at hP hD
      have hP : va_P (dC, dI) vwCl (mw_w b0 b1 b2 b3 b4 d1 d2 d3 d4 us nu bm tn g za (va_up ss k us) bk) H := hP
      have hD : va_D A (mw_w b0 b1 b2 b3 b4 d1 d2 d3 d4 us nu bm tn g za (va_up ss k us) bk) := hD
      rw [show va_up ss k us = va_up ss k b by rw [hbb, if_pos c_13]] at hP hD
      exact jn _ _ _ ⟨hP, hD, hS, lv_sub hl [1, 2, 3, 0] rfl⟩
