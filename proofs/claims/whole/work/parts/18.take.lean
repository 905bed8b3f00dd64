/-! rows are made and taken: Row(), nextRow, take -/
theorem co_O_init : Cond.code objectInit ⟨#[0xb1]⟩ 1 none ∈ lw_tbl := sf_tb 15 rfl
theorem sf_rw_nm {nm tk st ln : Nat → Nat} {bf af : Nat → Option Nat} {a : Nat} (b : Nat) : va_up (sf_row nm tk st ln bf af) a (.inr (1, [.int (nI b), .int (nI (tk a)), .int (nI (st a)), .int (nI (ln a)), va_rf (bf a), va_rf (af a)])) = sf_row (va_up nm a b) tk st ln bf af := by
  funext x
  by_cases h : x = a <;> simp [va_up, sf_row, h]
theorem sf_rw_new {nm tk st ln : Nat → Nat} {bf af : Nat → Option Nat} {q : Nat} : va_up (sf_row nm tk st ln bf af) q (.inr (1, [.int 0, .int 0, .int 0, .int 0, .null, .null])) = sf_row (va_up nm q 0) (va_up tk q 0) (va_up st q 0) (va_up ln q 0) (va_up bf q none) (va_up af q none) := by
  funext x
  by_cases h : x = q
  · simp [va_up, sf_row, h, nI_0, va_rf]
  · simp [va_up, sf_row, h]
theorem sf_new {a0 a1 a2 a3 q : Nat} {cB cT : ClassId} {LP : List Nat} {gb : Option Nat} {md ct : Nat} {tb : Nat → Option Nat} {nm tk : Nat → Nat} {oc en : Nat} {fs la : Option Nat} {g : Nat → Int32} {st ln : Nat → Nat} {bf af : Nat → Option Nat} (hq : q ∉ LP) : sf_w a0 a1 a2 a3 cB cT LP gb md ct tb nm tk oc en fs la g st ln bf af ++ [(q, .inr (1, [.int 0, .int 0, .int 0, .int 0, .null, .null]))] = sf_w a0 a1 a2 a3 cB cT (LP ++ [q]) gb md ct tb (va_up nm q 0) (va_up tk q 0) oc en fs la g (va_up st q 0) (va_up ln q 0) (va_up bf q none) (va_up af q none) := by
  unfold sf_w
  rw [List.append_assoc, va_pl_push hq, sf_rw_new]
section SFF
variable {p : Program} {l : Launch} {e : Env} {R : Room} {s : State} {m : MethodId} {args : Array Value} {below : List Frame} {meth : Method} {c : Code} {H : Heap} {locs : List Loc} {cells slots : Nat} {Q : State → Prop}
variable {cc : ByteArray} {pc : Nat} {ls : Array Slot} {rest : List Value} {D : va_G} {cl : List vw_C} {A : Nat → Prop} {a : Nat} {tys : List (ClassId × FieldType)} {H0 : Heap} {X : va_W} {LP : List Nat} {f f' : Nat → va_E}
theorem sf_rputF (hexec : p.tables.exec = Jvm.exec) (hb : c.code = cc) {own ref C : String} {T : u_T} {N ci index : Nat} {Ts : List Cond} (hts : ∀ w ∈ Ts, w.before args s = true) (hin : ∀ w ∈ u_ws C T N, w ∈ Ts) (ty0 : Nat → FieldType) (hty : ∀ k, k < N → parseFieldDescriptor (T k).2.2.1 = some (ty0 k)) (hnm : ∀ a, a < N → ∀ b, b < N → a ≠ b → (T a).2.1 ≠ (T b).2.1) (hown : s.vm.findClass own = some m.cls) (hK : va_K D cl tys s) (hP : va_P D cl (X ++ va_pl LP f) H) (hD : va_D A (X ++ va_pl LP f)) (hS0 : va_S A H0 H locs) (ha : a ∈ LP) {fs : List Value} (hf : f a = .inr (ci, fs)) (hc : cl[ci]? = some (C, T, N)) (k : Nat) (hk : k < N) (hlink : (Cond.fieldLink own index ref (T k).2.1 (T k).2.2.1).before args s = true) (hsame : ∀ x, s.fieldFound? (T k).1 (T k).2.1 (T k).2.2.1 = some x → s.fieldFound? ref (T k).2.1 (T k).2.2.1 = some x) (hfin : (T k).2.2.2 = true) (hin2 : meth.name = "<init>") (hdecl : (T k).1 = own) {ty : FieldType} {v : Value} (hd : parseFieldDescriptor (T k).2.2.1 = some ty) (hn : narrow ty v = v) (hfit : fits ty v = true) (hl : k < fs.length) (hf' : va_up f a (.inr (ci, fs.set k v)) = f')
    (hdg : decode cc pc = .ok (.putfield index, 3)) (kk : ∀ (H1 : Heap) (locs1 : List Loc), va_P D cl (X ++ va_pl LP f') H1 → va_D A (X ++ va_pl LP f') → va_S A H0 H1 locs1 → W p l e R s m args below meth c H1 locs1 cells slots Q (F0 m (pc + 3) ls rest)) : W p l e R s m args below meth c H locs cells slots Q (F0 m pc ls (v :: .ref a :: rest)) := by
  obtain ⟨q0, hq⟩ := va_pl_get (X := X) (f := f) ha
  have hset := va_pl_set (e := .inr (ci, fs.set k v)) hD ha hq
  rw [hf'] at hset
  rw [hf] at hq
  refine va_putF hexec hb hts hin ty0 hty hnm hown hK hP hD hS0 q0 hq hc k hk hlink hsame hfin hin2 hdecl hd hn hfit hl hdg (fun H1 locs1 h1 h2 h3 => ?_)
  rw [hset] at h1 h2
  exact kk H1 locs1 h1 h2 h3
end SFF
theorem sf_MI_new {LP cs : List Nat} {oc en q : Nat} {fs la : Option Nat} {g : Nat → Int32} {st ln : Nat → Nat} {bf af : Nat → Option Nat} (h : sf_MI LP cs oc en fs la g st ln bf af) (hq : q ∉ LP) : sf_MI (LP ++ [q]) cs oc en fs la g (va_up st q 0) (va_up ln q 0) (va_up bf q none) (va_up af q none) := by
  obtain ⟨m1, m2, m3, m4, m5, m6, m7, m8, m9, m10⟩ := h
  have hne : ∀ x, x ∈ cs → x ≠ q := fun x hx e => hq (e ▸ m2 x hx)
  refine ⟨m1, fun x hx => List.mem_append_left _ (m2 x hx), m3, m4, sf_lnk_congr m5 (fun x hx => va_up_ne _ _ (hne x hx)) (fun x hx => va_up_ne _ _ (hne x hx)), sf_lay_congr m6 (fun x hx => ⟨va_up_ne _ _ (hne x hx), by rw [va_up_ne _ _ (hne x hx)]; exact Nat.le_refl _⟩), m7, ?_, fun x hx => by rw [va_up_ne _ _ (hne x hx)]; exact m9 x hx, m10⟩
  rw [m8]
  exact (sf_sum_congr (fun x hx => by rw [va_up_ne _ _ (hne x hx)])).symm
section SFT
variable {LP : List Nat} {gb : Option Nat} {md ct : Nat} {tb : Nat → Option Nat} {nm tk : Nat → Nat} {oc en : Nat} {fs la : Option Nat} {g : Nat → Int32} {st ln : Nat → Nat} {bf af : Nat → Option Nat} {cs fr : List Nat} {z : sf_Z}
/-- the row on top of those given back -/
theorem sf_top {a : Nat} (hI : sf_CI LP (some a) md ct tb nm tk oc en fs la g st ln bf af cs fr) : ∃ t, fr = a :: t ∧ sf_stk af (af a) t ∧ a ∈ LP ∧ a ∉ cs ∧ LP[nm a]? = some a := by
  have hcf := fun {x : Nat} (h1 : x ∈ cs) (h2 : x ∈ fr) => sf_cs_fr hI h1 h2
  obtain ⟨h1, h2, h3, h4, h5, h6, h7, h8, h9, h10, h11⟩ := hI
  cases fr with
  | nil => cases h10
  | cons b t =>
    obtain ⟨e, hs⟩ := h10
    cases e
    have haL := (h7 a List.mem_cons_self).2
    obtain ⟨k, hk⟩ := List.getElem?_of_mem haL
    exact ⟨t, rfl, hs, haL, fun q => hcf q List.mem_cons_self, by rw [h5 k a hk]; exact hk⟩
theorem sf_no_top (hI : sf_CI LP none md ct tb nm tk oc en fs la g st ln bf af cs fr) : fr = [] := by
  cases fr with
  | nil => rfl
  | cons b t => exact absurd hI.2.2.2.2.2.2.2.2.2.1.1 (by intro q; cases q)
theorem sf_OK_take_1 {a n en' : Nat} {t : List Nat} {g' : Nat → Int32} {st' : Nat → Nat} (hI : sf_CI LP (some a) md ct tb nm tk oc en fs la g st ln bf af cs (a :: t)) (hR : sf_CR LP nm tk ln st g cs (a :: t) ct oc z) (hs : sf_stk af (af a) t) (hac : a ∉ cs) (hk : LP[nm a]? = some a)
    (p1 : sf_MI LP (cs ++ [a]) (oc + sf_P n) en' (sf_pk la (some a) fs) (some a) g' st' (va_up ln a n) (va_up bf a la) (sf_apA af la a)) (p2 : ∀ x, x ∈ cs → ∀ i, i < ln x → g' (st' x + i) = g (st x + i)) (p3 : ∀ i, i < n → g' (st' a + i) = 0) :
    sf_OK LP (af a) md (ct + 1) tb nm (va_up tk a 1) (oc + sf_P n) en' (sf_pk la (some a) fs) (some a) g' st' (va_up ln a n) (va_up bf a la) (sf_apA af la a) (zMd z, t.map nm, va_up (zTk z) (nm a) 1, va_up (zLn z) (nm a) n, va_up (zBy z) (nm a) (fun _ => 0), zCt z + 1, zOc z + sf_P n) := by
  obtain ⟨h1, h2, h3, h4, h5, h6, h7, h8, h9, h10, h11⟩ := hI
  obtain ⟨z1, z2, z3, z4, z5, z6⟩ := hR
  rw [List.nodup_cons] at h9
  rw [z1]
  refine sf_OK_take h1 h2 h3 h4 h5 h6 (fun x hx => h7 x (List.mem_cons_of_mem _ hx)) (fun x hx => ?_) h9.2 hs h11 hk hac h9.1 (fun k2 a2 hk2 _ => z3 k2 a2 hk2) z4 z5 z6 p1 p2 p3
  rcases h8 x hx with q | q
  · exact Or.inl q
  · rcases List.mem_cons.mp q with q | q
    · exact Or.inr (Or.inr q)
    · exact Or.inr (Or.inl q)
theorem sf_OK_take_2 {q n en' : Nat} {g' : Nat → Int32} {st' : Nat → Nat} (hI : sf_CI LP none md ct tb nm tk oc en fs la g st ln bf af cs []) (hR : sf_CR LP nm tk ln st g cs [] ct oc z) (hq : q ∉ LP) (hmd : md < 20000)
    (p1 : sf_MI (LP ++ [q]) (cs ++ [q]) (oc + sf_P n) en' (sf_pk la (some q) fs) (some q) g' st' (va_up (va_up ln q 0) q n) (va_up (va_up bf q none) q la) (sf_apA (va_up af q none) la q)) (p2 : ∀ x, x ∈ cs → ∀ i, i < va_up ln q 0 x → g' (st' x + i) = g (va_up st q 0 x + i)) (p3 : ∀ i, i < n → g' (st' q + i) = 0) :
    sf_OK (LP ++ [q]) none (md + 1) (ct + 1) (va_up tb md (some q)) (va_up nm q md) (va_up (va_up tk q 0) q 1) (oc + sf_P n) en' (sf_pk la (some q) fs) (some q) g' st' (va_up (va_up ln q 0) q n) (va_up (va_up bf q none) q la) (sf_apA (va_up af q none) la q) (zMd z + 1, [], va_up (zTk z) (zMd z) 1, va_up (zLn z) (zMd z) n, va_up (zBy z) (zMd z) (fun _ => 0), zCt z + 1, zOc z + sf_P n) := by
  obtain ⟨h1, h2, h3, h4, h5, h6, h7, h8, h9, h10, h11⟩ := hI
  obtain ⟨z1, z2, z3, z4, z5, z6⟩ := hR
  have hM := sf_MI_new h1 hq
  have hqc : q ∉ cs := fun e => hq (h1.2.1 q e)
  have hne : ∀ x, x ∈ cs → x ≠ q := fun x hx e => hqc (e ▸ hx)
  have hl : (LP ++ [q]).length = md + 1 := by rw [h2]; simp
  have hkq : (LP ++ [q])[md]? = some q := by rw [h2, List.getElem?_append_right (Nat.le_refl _), Nat.sub_self]; rfl
  have hold : ∀ k a : Nat, (LP ++ [q])[k]? = some a → a ≠ q → LP[k]? = some a := by
    intro k a hk ha
    by_cases e : k < LP.length
    · rw [List.getElem?_append_left e] at hk; exact hk
    · rw [List.getElem?_append_right (by omega)] at hk
      cases e2 : k - LP.length with
      | zero => rw [e2] at hk; exact absurd (Option.some.inj hk).symm ha
      | succ j => rw [e2] at hk; simp at hk
  rw [show zMd z + 1 = (LP ++ [q]).length by rw [z1]; simp, z1, ← h2]
  refine sf_OK_take (fr' := []) hM hl.symm (by omega) (fun k => ?_) (fun k a hk => ?_) (fun a ha => by rw [va_up_ne _ _ (hne a ha)]; exact h6 a ha) (fun a ha => absurd ha List.not_mem_nil) (fun x hx => ?_) List.nodup_nil rfl h11 hkq hqc List.not_mem_nil (fun k2 a2 hk2 ha2 => ?_) (fun k2 a2 hk2 ha2 => ?_) z5 z6 p1 p2 p3
  · by_cases e : k = md
    · rw [e, va_up_self, hkq]
    · rw [va_up_ne _ _ e, h4]
      by_cases e2 : k < LP.length
      · rw [List.getElem?_append_left e2]
      · rw [List.getElem?_eq_none (by omega), List.getElem?_eq_none (by rw [hl]; omega)]
  · by_cases e : a = q
    · subst e
      rw [va_up_self]
      by_cases e2 : k < LP.length
      · rw [List.getElem?_append_left e2] at hk
        exact absurd (List.mem_of_getElem? hk) hq
      · have e3 := (List.getElem?_eq_some_iff.mp hk).1
        rw [hl] at e3
        omega
    · rw [va_up_ne _ _ e]
      exact h5 k a (hold k a hk e)
  · rcases List.mem_append.mp hx with e | e
    · rcases h8 x e with e | e
      · exact Or.inl e
      · exact absurd e List.not_mem_nil
    · exact Or.inr (Or.inr (List.mem_singleton.mp e))
  · rw [va_up_ne _ _ ha2]
    exact z3 k2 a2 (hold k2 a2 hk2 ha2)
  · have := z4 k2 a2 (hold k2 a2 hk2 (hne a2 ha2)) ha2
    rw [va_up_ne _ _ (hne a2 ha2), va_up_ne _ _ (hne a2 ha2)]
    exact this
end SFT
theorem zs_take_1 {z : sf_Z} {n : Int32} (h : zi n 16385 = none) : zs_take z n = (-1, z) := by unfold zs_take; rw [h]
theorem zs_take_2 {z : sf_Z} {k : Nat} (hk : k ≤ 16384) (h : 400000 < zOc z + sf_P k) : zs_take z (nI k) = (-2, z) := by unfold zs_take; rw [zi_some (by omega) (by omega)]; dsimp only; rw [if_pos h]
theorem zs_take_3 {z : sf_Z} {k a : Nat} {t : List Nat} (hk : k ≤ 16384) (h : zOc z + sf_P k ≤ 400000) (hf : zFr z = a :: t) : zs_take z (nI k) = (nI a, zMd z, t, va_up (zTk z) a 1, va_up (zLn z) a k, va_up (zBy z) a (fun _ => 0), zCt z + 1, zOc z + sf_P k) := by unfold zs_take; rw [zi_some (by omega) (by omega)]; dsimp only; rw [if_neg (by omega), hf]
theorem zs_take_4 {z : sf_Z} {k : Nat} (hk : k ≤ 16384) (h : zOc z + sf_P k ≤ 400000) (hf : zFr z = []) (hm : zMd z = 20000) : zs_take z (nI k) = (-2, z) := by unfold zs_take; rw [zi_some (by omega) (by omega)]; dsimp only; rw [if_neg (by omega), hf]; dsimp only; rw [if_pos hm]
theorem zs_take_5 {z : sf_Z} {k : Nat} (hk : k ≤ 16384) (h : zOc z + sf_P k ≤ 400000) (hf : zFr z = []) (hm : zMd z ≠ 20000) : zs_take z (nI k) = (nI (zMd z), zMd z + 1, [], va_up (zTk z) (zMd z) 1, va_up (zLn z) (zMd z) k, va_up (zBy z) (zMd z) (fun _ => 0), zCt z + 1, zOc z + sf_P k) := by unfold zs_take; rw [zi_some (by omega) (by omega)]; dsimp only; rw [if_neg (by omega), hf]; dsimp only; rw [if_neg hm]
set_option maxHeartbeats 4000000 in
set_option maxRecDepth 100000 in
/-- Row(n) -/
theorem c_Row_init (l : Launch) (dC : Nat → ClassId) (dI : Nat → Nat → Nat) (a0 a1 a2 a3 : Nat) (cB cT : ClassId) (LP : List Nat) (gb : Option Nat) (md ct : Nat) (tb : Nat → Option Nat) (nm tk : Nat → Nat) (oc en : Nat) (fs la : Option Nat) (g : Nat → Int32) (st ln : Nat → Nat) (bf af : Nat → Option Nat) (sz : Nat) (a : Nat) (ha : a ∈ LP) (n : Nat) : Met l yX1_init wsX1_init ({ frames := 1, cells := 0, slots := 0, locals := 30 } : Room) (sf_Pre (dC, dI) vwCl [(cB, .byte), (cT, .object "ByteShelf$Row")] [.ref a, .int (nI n)] (sf_w a0 a1 a2 a3 cB cT LP gb md ct tb nm tk oc en fs la g st ln bf af) sz) (va_Qv (fun _ => True) (sf_E (dC, dI) vwCl (va_A (sf_w a0 a1 a2 a3 cB cT LP gb md ct tb nm tk oc en fs la g st ln bf af) sz) (fun (u : Unit) => sf_w a0 a1 a2 a3 cB cT LP gb md ct tb (va_up nm a n) tk oc en fs la g st ln bf af)) (va_A (sf_w a0 a1 a2 a3 cB cT LP gb md ct tb nm tk oc en fs la g st ln bf af) sz)) 0 0 (va_A (sf_w a0 a1 a2 a3 cB cT LP gb md ct tb nm tk oc en fs la g st ln bf af) sz) := by
  refine Met.ofW (cc := cX1_init) (maxL := 2) (ret := none) (by decide) rfl ?_
  intro p e s m args below meth c s₁ B hml hv
  obtain ⟨rfl, hsz, hP, hK, hD0, hN⟩ := hv
  have hx := B.exec
  have hb := B.bytes
  have hr := B.returns
  have hts := atoms_spec (ws := wsX1_init) B.pre
  have hown : s.vm.findClass RX1 = some m.cls := findClass_of_methodNamed B.named
  have hlocks := B.notSynchronized
  subst hsz
  have hD := hD0.self (sz := s.heap.size)
  generalize hAe : va_A (sf_w a0 a1 a2 a3 cB cT LP gb md ct tb nm tk oc en fs la g st ln bf af) s.heap.size = A at hD ⊢
  have hA : ∀ q : Nat, s.heap.size ≤ q → A q := fun q h => by rw [← hAe]; exact Or.inr h
  have hS : va_S A s.heap s.heap [] := va_S.rf
  have hl := lv_entry ([.ref a, .int (nI n)]) (n := 2) (Nat.le_of_ble_eq_true rfl)
  rw [lg_entry_eq]
  generalize (lg_sl ([.ref a, .int (nI n)]) ++ List.replicate (2 - (lg_sl ([.ref a, .int (nI n)])).length) Slot.unset).toArray = ls at hl ⊢
  have hl : lv_has ls 2 [(0, .ref a), (1, .int (nI n))] := hl
  have hin : meth.name = "<init>" := (name_of_methodNamed B.named B.method).1
  refine lv_aload_n hx hb dX1_init_0 rfl (lv_at hl 0 rfl) ?_
  refine W.objInit hx hb hown (hts _ (sf_mem ml_X1_1 rfl)) (hts _ (sf_mem im_O_init rfl)) (hts _ (sf_mem co_O_init rfl)) rfl (by rw [hml]; exact hl.1) rfl dX1_init_1 (Nat.le_of_ble_eq_true rfl) (Nat.le_of_ble_eq_true rfl) ?_
  refine W.eq (g2 := F0 m 4 ls []) rfl ?_
  refine lv_aload_n hx hb dX1_init_4 rfl (lv_at hl 0 rfl) ?_
  refine lv_iload_n hx hb dX1_init_5 rfl (lv_at hl 1 rfl) ?_
  refine sf_rputF (D := (dC, dI)) (ci := 1) (v := .int (nI n)) (ty := .int) (C := RX1) (T := TX1) (N := 6) hx hb hts sf_inX1 tyX1 tyX1_ok nmX1 hown hK hP hD hS ha rfl rfl 0 (by decide) (hts _ (sf_mem fl_X1_7 rfl)) (fun _ h9 => h9) rfl hin rfl (by decide +kernel) rfl rfl (Nat.le_of_ble_eq_true rfl) (sf_rw_nm n) dX1_init_6 (fun H locs hP hD hS => ?_)
  have hP : va_P (dC, dI) vwCl (sf_w a0 a1 a2 a3 cB cT LP gb md ct tb (va_up nm a n) tk oc en fs la g st ln bf af) H := hP
  have hD : va_D A (sf_w a0 a1 a2 a3 cB cT LP gb md ct tb (va_up nm a n) tk oc en fs la g st ln bf af) := hD
  exact W.vret hx hb hr (fun t ht hW => ⟨⟨(), rfl, trivial, by rw [ht]; exact hP, hD⟩, hS.F ht⟩) hS.2.2 dX1_init_9
set_option maxHeartbeats 4000000 in
set_option maxRecDepth 100000 in
/-- nextRow() -/
theorem c_nextRow (l : Launch) (dC : Nat → ClassId) (dI : Nat → Nat → Nat) (a0 a1 a2 a3 : Nat) (cB cT : ClassId) (LP : List Nat) (gb : Option Nat) (md ct : Nat) (tb : Nat → Option Nat) (nm tk : Nat → Nat) (oc en : Nat) (fs la : Option Nat) (g : Nat → Int32) (st ln : Nat → Nat) (bf af : Nat → Option Nat) (sz : Nat) (hgb : ∀ z, gb = some z → z ∈ LP) (hmd : md ≤ 20000) : Met l yX2_nextRow wsX2_nextRow ({ frames := 2, cells := 1, slots := 6, locals := 60 } : Room) (sf_Pre (dC, dI) vwCl [(cB, .byte), (cT, .object "ByteShelf$Row")] [.ref a0] (sf_w a0 a1 a2 a3 cB cT LP gb md ct tb nm tk oc en fs la g st ln bf af) sz) (va_Qq (fun (r : Option Nat) (u : sf_Sx) => (∃ a, gb = some a ∧ r = some a ∧ u = (LP, af a, md, ct, tb, nm, tk, oc, en, fs, la, g, st, ln, bf, af)) ∨ (gb = none ∧ md = 20000 ∧ r = none ∧ u = (LP, gb, md, ct, tb, nm, tk, oc, en, fs, la, g, st, ln, bf, af)) ∨ (gb = none ∧ md < 20000 ∧ ∃ q, q ∉ LP ∧ r = some q ∧ u = ((LP ++ [q]), gb, (md + 1), ct, (va_up tb md (some q)), (va_up nm q md), (va_up tk q 0), oc, en, fs, la, g, (va_up st q 0), (va_up ln q 0), (va_up bf q none), (va_up af q none)))) (sf_E (dC, dI) vwCl (va_A (sf_w a0 a1 a2 a3 cB cT LP gb md ct tb nm tk oc en fs la g st ln bf af) sz) (fun (u : sf_Sx) => sf_w a0 a1 a2 a3 cB cT u.1 u.2.1 u.2.2.1 u.2.2.2.1 u.2.2.2.2.1 u.2.2.2.2.2.1 u.2.2.2.2.2.2.1 u.2.2.2.2.2.2.2.1 u.2.2.2.2.2.2.2.2.1 u.2.2.2.2.2.2.2.2.2.1 u.2.2.2.2.2.2.2.2.2.2.1 u.2.2.2.2.2.2.2.2.2.2.2.1 u.2.2.2.2.2.2.2.2.2.2.2.2.1 u.2.2.2.2.2.2.2.2.2.2.2.2.2.1 u.2.2.2.2.2.2.2.2.2.2.2.2.2.2.1 u.2.2.2.2.2.2.2.2.2.2.2.2.2.2.2)) (va_A (sf_w a0 a1 a2 a3 cB cT LP gb md ct tb nm tk oc en fs la g st ln bf af) sz)) 1 6 (va_A (sf_w a0 a1 a2 a3 cB cT LP gb md ct tb nm tk oc en fs la g st ln bf af) sz) := by
  refine Met.ofW (cc := cX2_nextRow) (maxL := 2) (ret := (some (.object "ByteShelf$Row"))) (by decide) rfl ?_
  intro p e s m args below meth c s₁ B hml hv
  obtain ⟨rfl, hsz, hP, hK, hD0, hN⟩ := hv
  have hx := B.exec
  have hb := B.bytes
  have hr := B.returns
  have hts := atoms_spec (ws := wsX2_nextRow) B.pre
  have hown : s.vm.findClass RX2 = some m.cls := findClass_of_methodNamed B.named
  have hlocks := B.notSynchronized
  subst hsz
  have hD := hD0.self (sz := s.heap.size)
  generalize hAe : va_A (sf_w a0 a1 a2 a3 cB cT LP gb md ct tb nm tk oc en fs la g st ln bf af) s.heap.size = A at hD ⊢
  have hA : ∀ q : Nat, s.heap.size ≤ q → A q := fun q h => by rw [← hAe]; exact Or.inr h
  have hS : va_S A s.heap s.heap [] := va_S.rf
  have hl := lv_entry ([.ref a0]) (n := 2) (Nat.le_of_ble_eq_true rfl)
  rw [lg_entry_eq]
  generalize (lg_sl ([.ref a0]) ++ List.replicate (2 - (lg_sl ([.ref a0])).length) Slot.unset).toArray = ls at hl ⊢
  have hl : lv_has ls 2 [(0, .ref a0)] := hl
  refine lv_aload_n hx hb dX2_nextRow_0 rfl (lv_at hl 0 rfl) ?_
  refine va_get (D := (dC, dI)) (ci := 2) (v := va_rf gb) (C := RX2) (T := TX2) (N := 5) hx hb hts sf_inX2 hown hK hP 0 rfl rfl 2 (by decide) (hts _ (sf_mem fl_X2_22 rfl)) (fun _ h9 => h9) rfl dX2_nextRow_1 ?_
  refine sf_ifnull (tgt := 22) hx hb dX2_nextRow_4 (by decide) (fun e_4 => ?_) (fun z_4 e_4 => ?_)
  · subst e_4
    have hl : lv_has ls 2 [(0, .ref a0)] := hl
    refine lv_aload_n hx hb dX2_nextRow_22 rfl (lv_at hl 0 rfl) ?_
    refine va_get (D := (dC, dI)) (ci := 2) (v := .int (nI md)) (C := RX2) (T := TX2) (N := 5) hx hb hts sf_inX2 hown hK hP 0 rfl rfl 3 (by decide) (hts _ (sf_mem fl_X2_26 rfl)) (fun _ h9 => h9) rfl dX2_nextRow_23 ?_
    refine lv_sipush (v := nI 20000) hx hb dX2_nextRow_26 (by decide) ?_
    refine sf_icmp_lt (tgt := 34) hx hb (by omega) (by omega) dX2_nextRow_29 (by decide) (fun c_29 => ?_) (fun c_29 => ?_)
    · refine va_new (ci := 1) (fs := [.int 0, .int 0, .int 0, .int 0, .null, .null]) (C := RX1) (T := TX1) (N := 6) hx hb hts sf_inX1 tyX1 tyX1_ok hown (hts _ (sf_mem cl_X2_16 rfl)) (hts _ (sf_mem it_X1 rfl)) (hts _ (sf_mem in_X1 rfl)) hK hP hD hS hA rfl (fun j hj => by rcases (show j = 0 ∨ j = 1 ∨ j = 2 ∨ j = 3 ∨ j = 4 ∨ j = 5 by omega) with rfl | rfl | rfl | rfl | rfl | rfl <;> rfl) (Nat.le_of_ble_eq_true rfl) (Nat.le_of_ble_eq_true rfl) dX2_nextRow_34 (fun q H hP hD hS => ?_)
      have hq : q ∉ LP := va_pl_fresh2 hD
      rw [sf_new hq] at hP hD
      have hqL : q ∈ LP ++ [q] := by simp
      have hP : va_P (dC, dI) vwCl (sf_w a0 a1 a2 a3 cB cT (LP ++ [q]) none md ct tb (va_up nm q 0) (va_up tk q 0) oc en fs la g (va_up st q 0) (va_up ln q 0) (va_up bf q none) (va_up af q none)) H := hP
      have hD : va_D A (sf_w a0 a1 a2 a3 cB cT (LP ++ [q]) none md ct tb (va_up nm q 0) (va_up tk q 0) oc en fs la g (va_up st q 0) (va_up ln q 0) (va_up bf q none) (va_up af q none)) := hD
      refine W.widen (k := 1) (n := 6) (Nat.le_of_ble_eq_true rfl) (Nat.le_of_ble_eq_true rfl) ?_
      refine lv_dup hx hb dX2_nextRow_37 rfl ?_
      refine lv_aload_n hx hb dX2_nextRow_38 rfl (lv_at hl 0 rfl) ?_
      refine va_get (D := (dC, dI)) (ci := 2) (v := .int (nI md)) (C := RX2) (T := TX2) (N := 5) hx hb hts sf_inX2 hown hK hP 0 rfl rfl 3 (by decide) (hts _ (sf_mem fl_X2_26 rfl)) (fun _ h9 => h9) rfl dX2_nextRow_39 ?_
      refine sf_cv (sf_runI (b := q) (As := [.int (nI md)]) (rest := [.ref q]) ⟨hx, hb, hml, hown, hts⟩ sf_has (c_Row_init l dC dI a0 a1 a2 a3 cB cT (LP ++ [q]) none md ct tb (va_up nm q 0) (va_up tk q 0) oc en fs la g (va_up st q 0) (va_up ln q 0) (va_up bf q none) (va_up af q none) _ q hqL md) k_X2_109 ⟨sf_blind, sf_preU hP hK hD hN⟩ rfl hl.1 (Nat.le_of_ble_eq_true rfl) ⟨(Nat.le_of_ble_eq_true rfl), (Nat.le_of_ble_eq_true rfl)⟩ ⟨rfl, rfl⟩ ⟨(Nat.le_of_ble_eq_true rfl), (Nat.le_of_ble_eq_true rfl)⟩ dX2_nextRow_42) hD hS hA (fun u_42 H locs h_42 hP hD hS => ?_)
      rw [bx_uu] at hP hD
      have hP : va_P (dC, dI) vwCl (sf_w a0 a1 a2 a3 cB cT (LP ++ [q]) none md ct tb (va_up nm q md) (va_up tk q 0) oc en fs la g (va_up st q 0) (va_up ln q 0) (va_up bf q none) (va_up af q none)) H := hP
      have hD : va_D A (sf_w a0 a1 a2 a3 cB cT (LP ++ [q]) none md ct tb (va_up nm q md) (va_up tk q 0) oc en fs la g (va_up st q 0) (va_up ln q 0) (va_up bf q none) (va_up af q none)) := hD
      refine lv_astore_n (lv' := [(1, .ref q), (0, .ref a0)]) hx hb dX2_nextRow_45 rfl hl (by decide) rfl (fun ls hl => ?_)
      refine lv_aload_n hx hb dX2_nextRow_46 rfl (lv_at hl 1 rfl) ?_
      refine va_get (D := (dC, dI)) (ci := 2) (v := .ref a3) (C := RX2) (T := TX2) (N := 5) hx hb hts sf_inX2 hown hK hP 0 rfl rfl 1 (by decide) (hts _ (sf_mem fl_X2_18 rfl)) (fun _ h9 => h9) rfl dX2_nextRow_47 ?_
      refine lv_aload_n hx hb dX2_nextRow_50 rfl (lv_at hl 1 rfl) ?_
      refine va_get (D := (dC, dI)) (ci := 2) (v := .int (nI md)) (C := RX2) (T := TX2) (N := 5) hx hb hts sf_inX2 hown hK hP 0 rfl rfl 3 (by decide) (hts _ (sf_mem fl_X2_26 rfl)) (fun _ h9 => h9) rfl dX2_nextRow_51 ?_
      refine lv_aload_n hx hb dX2_nextRow_54 rfl (lv_at hl 0 rfl) ?_
      obtain ⟨kq, hkq⟩ := va_pl_get (X := [(a0, .inr (2, [.ref a1, .ref a3, va_rf none, .int (nI md), .int (nI ct)])), (a1, .inr (0, [.ref a2, .int (nI oc), .int (nI en), va_rf fs, va_rf la])), (a2, .inl (cB, 400000, .inl g)), (a3, .inl (cT, 20000, .inr (.inr (.inr (.inr tb)))))]) (f := sf_row (va_up nm q md) (va_up tk q 0) (va_up st q 0) (va_up ln q 0) (va_up bf q none) (va_up af q none)) hqL
      refine va_astq (r := (RX1, TX1, 6)) hx hb hK hP hD hS 3 1 kq 1 rfl rfl hkq rfl (vp_in_nI (by omega) (by omega)) dX2_nextRow_55 (fun H locs hP hD hS => ?_)
      rw [nI_clamp (by omega)] at hP hD
      have hP : va_P (dC, dI) vwCl (sf_w a0 a1 a2 a3 cB cT (LP ++ [q]) none md ct (va_up tb md (some q)) (va_up nm q md) (va_up tk q 0) oc en fs la g (va_up st q 0) (va_up ln q 0) (va_up bf q none) (va_up af q none)) H := hP
      have hD : va_D A (sf_w a0 a1 a2 a3 cB cT (LP ++ [q]) none md ct (va_up tb md (some q)) (va_up nm q md) (va_up tk q 0) oc en fs la g (va_up st q 0) (va_up ln q 0) (va_up bf q none) (va_up af q none)) := hD
      refine lv_aload_n hx hb dX2_nextRow_56 rfl (lv_at hl 1 rfl) ?_
      refine lv_dup hx hb dX2_nextRow_57 rfl ?_
      refine va_get (D := (dC, dI)) (ci := 2) (v := .int (nI md)) (C := RX2) (T := TX2) (N := 5) hx hb hts sf_inX2 hown hK hP 0 rfl rfl 3 (by decide) (hts _ (sf_mem fl_X2_26 rfl)) (fun _ h9 => h9) rfl dX2_nextRow_58 ?_
      refine lv_iconst (v := nI 1) hx hb dX2_nextRow_61 (by decide) ?_
      refine sf_iadd hx hb dX2_nextRow_62 ?_
      refine va_put (D := (dC, dI)) (ci := 2) (v := .int (nI (md + 1))) (ty := .int) (C := RX2) (T := TX2) (N := 5) hx hb hts sf_inX2 tyX2 tyX2_ok nmX2 hown hK hP hD hS 0 rfl rfl 3 (by decide) (hts _ (sf_mem fl_X2_26 rfl)) (fun _ h9 => h9) rfl (by decide +kernel) rfl rfl (Nat.le_of_ble_eq_true rfl) dX2_nextRow_63 (fun H locs hP hD hS => ?_)
      have hP : va_P (dC, dI) vwCl (sf_w a0 a1 a2 a3 cB cT (LP ++ [q]) none (md + 1) ct (va_up tb md (some q)) (va_up nm q md) (va_up tk q 0) oc en fs la g (va_up st q 0) (va_up ln q 0) (va_up bf q none) (va_up af q none)) H := hP
      have hD : va_D A (sf_w a0 a1 a2 a3 cB cT (LP ++ [q]) none (md + 1) ct (va_up tb md (some q)) (va_up nm q md) (va_up tk q 0) oc en fs la g (va_up st q 0) (va_up ln q 0) (va_up bf q none) (va_up af q none)) := hD
      refine lv_aload_n hx hb dX2_nextRow_66 rfl (lv_at hl 0 rfl) ?_
      exact W.aret (v := va_rf (some q)) hx hb hr (Or.inl ⟨_, rfl⟩) (va_rf_or _) (fun t ht hW => ⟨⟨_, ((LP ++ [q]), none, md + 1, ct, (va_up tb md (some q)), (va_up nm q md), (va_up tk q 0), oc, en, fs, la, g, (va_up st q 0), (va_up ln q 0), (va_up bf q none), (va_up af q none)), rfl, Or.inr (Or.inr ⟨rfl, by omega, q, hq, rfl, rfl⟩), by rw [ht]; exact hP, hD⟩, hS.F ht⟩) hS.2.2 dX2_nextRow_67
    · refine lv_null hx hb dX2_nextRow_32 ?_
      refine W.widen (k := 1) (n := 6) (Nat.zero_le _) (Nat.zero_le _) ?_
      exact W.aret (v := va_rf none) hx hb hr (Or.inl ⟨_, rfl⟩) (va_rf_or _) (fun t ht hW => ⟨⟨_, (LP, none, md, ct, tb, nm, tk, oc, en, fs, la, g, st, ln, bf, af), rfl, Or.inr (Or.inl ⟨rfl, by omega, rfl, rfl⟩), by rw [ht]; exact hP, hD⟩, hS.F ht⟩) hS.2.2 dX2_nextRow_33
  · subst e_4
    have hl : lv_has ls 2 [(0, .ref a0)] := hl
    refine lv_aload_n hx hb dX2_nextRow_7 rfl (lv_at hl 0 rfl) ?_
    refine va_get (D := (dC, dI)) (ci := 2) (v := .ref z_4) (C := RX2) (T := TX2) (N := 5) hx hb hts sf_inX2 hown hK hP 0 rfl rfl 2 (by decide) (hts _ (sf_mem fl_X2_22 rfl)) (fun _ h9 => h9) rfl dX2_nextRow_8 ?_
    refine lv_astore_n (lv' := [(1, .ref z_4), (0, .ref a0)]) hx hb dX2_nextRow_11 rfl hl (by decide) rfl (fun ls hl => ?_)
    refine lv_aload_n hx hb dX2_nextRow_12 rfl (lv_at hl 1 rfl) ?_
    refine lv_aload_n hx hb dX2_nextRow_13 rfl (lv_at hl 0 rfl) ?_
    refine sf_rget (D := (dC, dI)) (ci := 1) (v := va_rf (af z_4)) (C := RX1) (T := TX1) (N := 6) hx hb hts sf_inX1 hown hK hP (hgb _ rfl) rfl rfl 5 (by decide) (hts _ (sf_mem fl_X2_67 rfl)) (fun _ h9 => h9) rfl dX2_nextRow_14 ?_
    refine va_put (D := (dC, dI)) (ci := 2) (v := va_rf (af z_4)) (ty := .object "ByteShelf$Row") (C := RX2) (T := TX2) (N := 5) hx hb hts sf_inX2 tyX2 tyX2_ok nmX2 hown hK hP hD hS 0 rfl rfl 2 (by decide) (hts _ (sf_mem fl_X2_22 rfl)) (fun _ h9 => h9) rfl (by decide +kernel) (sf_nq _) (sf_fq _) (Nat.le_of_ble_eq_true rfl) dX2_nextRow_17 (fun H locs hP hD hS => ?_)
    have hP : va_P (dC, dI) vwCl (sf_w a0 a1 a2 a3 cB cT LP (af z_4) md ct tb nm tk oc en fs la g st ln bf af) H := hP
    have hD : va_D A (sf_w a0 a1 a2 a3 cB cT LP (af z_4) md ct tb nm tk oc en fs la g st ln bf af) := hD
    refine lv_aload_n hx hb dX2_nextRow_20 rfl (lv_at hl 0 rfl) ?_
    refine W.widen (k := 1) (n := 6) (Nat.zero_le _) (Nat.zero_le _) ?_
    exact W.aret (v := va_rf (some z_4)) hx hb hr (Or.inl ⟨_, rfl⟩) (va_rf_or _) (fun t ht hW => ⟨⟨_, (LP, af z_4, md, ct, tb, nm, tk, oc, en, fs, la, g, st, ln, bf, af), rfl, Or.inl ⟨z_4, rfl, rfl, rfl⟩, by rw [ht]; exact hP, hD⟩, hS.F ht⟩) hS.2.2 dX2_nextRow_21
theorem sf_gb {LP : List Nat} {gb : Option Nat} {md ct : Nat} {tb : Nat → Option Nat} {nm tk : Nat → Nat} {oc en : Nat} {fs la : Option Nat} {g : Nat → Int32} {st ln : Nat → Nat} {bf af : Nat → Option Nat} {cs fr : List Nat} (hI : sf_CI LP gb md ct tb nm tk oc en fs la g st ln bf af cs fr) : ∀ z, gb = some z → z ∈ LP := by
  intro z hz
  subst hz
  obtain ⟨t, -, -, h, -⟩ := sf_top hI
  exact h
set_option maxHeartbeats 4000000 in
set_option maxRecDepth 100000 in
/-- take(n) -/
theorem c_take (l : Launch) (dC : Nat → ClassId) (dI : Nat → Nat → Nat) (a0 a1 a2 a3 : Nat) (cB cT : ClassId) (LP : List Nat) (gb : Option Nat) (md ct : Nat) (tb : Nat → Option Nat) (nm tk : Nat → Nat) (oc en : Nat) (fs la : Option Nat) (g : Nat → Int32) (st ln : Nat → Nat) (bf af : Nat → Option Nat) (sz : Nat) (z : sf_Z) (cs fr : List Nat) (hI : sf_CI LP gb md ct tb nm tk oc en fs la g st ln bf af cs fr) (hR : sf_CR LP nm tk ln st g cs fr ct oc z) (n : Int32) : Met l yX2_take wsX2_take ({ frames := 4, cells := 1, slots := 6, locals := 120 } : Room) (sf_Pre (dC, dI) vwCl [(cB, .byte), (cT, .object "ByteShelf$Row")] [.ref a0, .int n] (sf_w a0 a1 a2 a3 cB cT LP gb md ct tb nm tk oc en fs la g st ln bf af) sz) (va_Qi (fun (r : Int32) (u : sf_Sx) => r = (zs_take z n).1 ∧ sf_OKu u (zs_take z n).2) (sf_E (dC, dI) vwCl (va_A (sf_w a0 a1 a2 a3 cB cT LP gb md ct tb nm tk oc en fs la g st ln bf af) sz) (fun (u : sf_Sx) => sf_w a0 a1 a2 a3 cB cT u.1 u.2.1 u.2.2.1 u.2.2.2.1 u.2.2.2.2.1 u.2.2.2.2.2.1 u.2.2.2.2.2.2.1 u.2.2.2.2.2.2.2.1 u.2.2.2.2.2.2.2.2.1 u.2.2.2.2.2.2.2.2.2.1 u.2.2.2.2.2.2.2.2.2.2.1 u.2.2.2.2.2.2.2.2.2.2.2.1 u.2.2.2.2.2.2.2.2.2.2.2.2.1 u.2.2.2.2.2.2.2.2.2.2.2.2.2.1 u.2.2.2.2.2.2.2.2.2.2.2.2.2.2.1 u.2.2.2.2.2.2.2.2.2.2.2.2.2.2.2)) (va_A (sf_w a0 a1 a2 a3 cB cT LP gb md ct tb nm tk oc en fs la g st ln bf af) sz)) 1 6 (va_A (sf_w a0 a1 a2 a3 cB cT LP gb md ct tb nm tk oc en fs la g st ln bf af) sz) := by
  refine Met.ofW (cc := cX2_take) (maxL := 3) (ret := (some .int)) (by decide) rfl ?_
  intro p e s m args below meth c s₁ B hml hv
  obtain ⟨rfl, hsz, hP, hK, hD0, hN⟩ := hv
  have hx := B.exec
  have hb := B.bytes
  have hr := B.returns
  have hts := atoms_spec (ws := wsX2_take) B.pre
  have hown : s.vm.findClass RX2 = some m.cls := findClass_of_methodNamed B.named
  have hlocks := B.notSynchronized
  subst hsz
  have hD := hD0.self (sz := s.heap.size)
  generalize hAe : va_A (sf_w a0 a1 a2 a3 cB cT LP gb md ct tb nm tk oc en fs la g st ln bf af) s.heap.size = A at hD ⊢
  have hA : ∀ q : Nat, s.heap.size ≤ q → A q := fun q h => by rw [← hAe]; exact Or.inr h
  have hS : va_S A s.heap s.heap [] := va_S.rf
  have hl := lv_entry ([.ref a0, .int n]) (n := 3) (Nat.le_of_ble_eq_true rfl)
  rw [lg_entry_eq]
  generalize (lg_sl ([.ref a0, .int n]) ++ List.replicate (3 - (lg_sl ([.ref a0, .int n])).length) Slot.unset).toArray = ls at hl ⊢
  have hl : lv_has ls 3 [(0, .ref a0), (1, .int n)] := hl
  obtain ⟨hoc1, hen⟩ := sf_MI_oc hI.1
  have hz6 := hR.2.2.2.2.2
  refine lv_iload_n hx hb dX2_take_0 rfl (lv_at hl 1 rfl) ?_
  refine vp_callSi (va_Run.run (sf_runS (As := [.int n]) (rest := []) ⟨hx, hb, hml, hown, hts⟩ sf_has (c_isLength l n) k_X2_33 ⟨sf_blindT, sf_preT⟩ rfl hl.1 (Nat.le_of_ble_eq_true rfl) ⟨(Nat.le_of_ble_eq_true rfl), (Nat.le_of_ble_eq_true rfl)⟩ ⟨rfl, rfl⟩ ⟨Nat.zero_le _, Nat.zero_le _⟩ dX2_take_1)) (fun r_1 h_1 => ?_)
  rcases h_1 with ⟨rfl, h_1⟩ | ⟨rfl, h_1⟩
  · obtain ⟨k, hk, rfl⟩ := h_1
    have hl : lv_has ls 3 [(0, .ref a0), (1, .int (nI k))] := hl
    have hPk := sf_P_le hk
    refine sf_if_ne (tgt := 9) hx hb (by decide) dX2_take_4 (by decide) (fun _ => ?_) (fun c_4 => absurd c_4 (by decide))
    refine lv_aload_n hx hb dX2_take_9 rfl (lv_at hl 0 rfl) ?_
    refine va_get (D := (dC, dI)) (ci := 2) (v := .ref a1) (C := RX2) (T := TX2) (N := 5) hx hb hts sf_inX2 hown hK hP 0 rfl rfl 0 (by decide) (hts _ (sf_mem fl_X2_10 rfl)) (fun _ h9 => h9) rfl dX2_take_10 ?_
    refine lv_iload_n hx hb dX2_take_13 rfl (lv_at hl 1 rfl) ?_
    refine vp_callSi (va_Run.run (sf_runS (As := [.int (nI k)]) (rest := [.ref a1]) ⟨hx, hb, hml, hown, hts⟩ sf_has (c_placesFor l k hk) k_X2_37 ⟨sf_blindT, sf_preT⟩ rfl hl.1 (Nat.le_of_ble_eq_true rfl) ⟨(Nat.le_of_ble_eq_true rfl), (Nat.le_of_ble_eq_true rfl)⟩ ⟨rfl, rfl⟩ ⟨Nat.zero_le _, Nat.zero_le _⟩ dX2_take_14)) (fun r_14 h_14 => ?_)
    subst h_14
    refine vp_callSi (va_Run.run (sf_runV (b := a1) (As := [.int (nI (sf_P k))]) (rest := []) ⟨hx, hb, hml, hown, hts⟩ sf_has (c_hasRoomFor l dC dI a0 a1 a2 a3 cB cT LP gb md ct tb nm tk oc en fs la g st ln bf af _ (sf_P k) (by omega) (by omega)) k_X2_41 ⟨sf_blind, va_recv hK hP (ci := 0) (q0 := 1) rfl rfl, sf_preU hP hK hD hN⟩ rfl hl.1 (Nat.le_of_ble_eq_true rfl) ⟨(Nat.le_of_ble_eq_true rfl), (Nat.le_of_ble_eq_true rfl)⟩ ⟨rfl, rfl⟩ ⟨Nat.zero_le _, Nat.zero_le _⟩ dX2_take_17)) (fun r_17 h_17 => ?_)
    rcases h_17 with ⟨rfl, h_17⟩ | ⟨rfl, h_17⟩
    · refine sf_if_ne (tgt := 26) hx hb (by decide) dX2_take_20 (by decide) (fun _ => ?_) (fun c_20 => absurd c_20 (by decide))
      refine lv_aload_n hx hb dX2_take_26 rfl (lv_at hl 0 rfl) ?_
      refine sf_cq (sf_runV (b := a0) (As := []) (rest := []) ⟨hx, hb, hml, hown, hts⟩ sf_has (c_nextRow l dC dI a0 a1 a2 a3 cB cT LP gb md ct tb nm tk oc en fs la g st ln bf af _ (sf_gb hI) hI.2.2.1) k_X2_44 ⟨sf_blind, va_recv hK hP (ci := 2) (q0 := 0) rfl rfl, sf_preU hP hK hD hN⟩ rfl hl.1 (Nat.le_of_ble_eq_true rfl) ⟨(Nat.le_of_ble_eq_true rfl), (Nat.le_of_ble_eq_true rfl)⟩ ⟨rfl, rfl⟩ ⟨(Nat.le_of_ble_eq_true rfl), (Nat.le_of_ble_eq_true rfl)⟩ dX2_take_27) hD hS hA (fun r_27 u_27 H locs h_27 hP hD hS => ?_)
      rcases h_27 with ⟨a, rfl, rfl, rfl⟩ | ⟨rfl, h20, rfl, rfl⟩ | ⟨rfl, h20, q, hq, rfl, rfl⟩
      · obtain ⟨tl, rfl, hstk, haL, hac, hka⟩ := sf_top hI
        have hP : va_P (dC, dI) vwCl (sf_w a0 a1 a2 a3 cB cT LP (af a) md ct tb nm tk oc en fs la g st ln bf af) H := hP
        have hD : va_D A (sf_w a0 a1 a2 a3 cB cT LP (af a) md ct tb nm tk oc en fs la g st ln bf af) := hD
        have hM2 := hI.1
        refine lv_astore_n (lv' := [(2, .ref a), (0, .ref a0), (1, .int (nI k))]) hx hb dX2_take_30 rfl hl (by decide) rfl (fun ls hl => ?_)
        refine lv_aload_n hx hb dX2_take_31 rfl (lv_at hl 0 rfl) ?_
        refine lv_ifnonnull (tgt := 38) hx hb dX2_take_32 (by decide) ?_
        refine lv_aload_n hx hb dX2_take_38 rfl (lv_at hl 1 rfl) ?_
        refine va_get (D := (dC, dI)) (ci := 2) (v := .ref a1) (C := RX2) (T := TX2) (N := 5) hx hb hts sf_inX2 hown hK hP 0 rfl rfl 0 (by decide) (hts _ (sf_mem fl_X2_10 rfl)) (fun _ h9 => h9) rfl dX2_take_39 ?_
        refine lv_aload_n hx hb dX2_take_42 rfl (lv_at hl 0 rfl) ?_
        refine lv_iload_n hx hb dX2_take_43 rfl (lv_at hl 2 rfl) ?_
        refine sf_cv (sf_runV (b := a1) (As := [.ref a, .int (nI k)]) (rest := []) ⟨hx, hb, hml, hown, hts⟩ sf_has (c_lay l dC dI a0 a1 a2 a3 cB cT LP (af a) md ct tb nm tk oc en fs la g st ln bf af _ cs hM2 a haL hac k hk h_17) k_X2_48 ⟨sf_blind, va_recv hK hP (ci := 0) (q0 := 1) rfl rfl, sf_preU hP hK hD hN⟩ rfl hl.1 (Nat.le_of_ble_eq_true rfl) ⟨(Nat.le_of_ble_eq_true rfl), (Nat.le_of_ble_eq_true rfl)⟩ ⟨rfl, rfl⟩ ⟨(Nat.le_of_ble_eq_true rfl), (Nat.le_of_ble_eq_true rfl)⟩ dX2_take_44) hD hS hA (fun u_44 H locs h_44 hP hD hS => ?_)
        obtain ⟨en2, g2, st2⟩ := u_44
        obtain ⟨p1, p2, p3⟩ := h_44
        dsimp only at p1 p2 p3
        have hP : va_P (dC, dI) vwCl (sf_w a0 a1 a2 a3 cB cT LP (af a) md ct tb nm tk (oc + sf_P k) en2 (sf_pk la (some a) fs) (some a) g2 st2 (va_up ln a k) (va_up bf a la) (sf_apA af la a)) H := hP
        have hD : va_D A (sf_w a0 a1 a2 a3 cB cT LP (af a) md ct tb nm tk (oc + sf_P k) en2 (sf_pk la (some a) fs) (some a) g2 st2 (va_up ln a k) (va_up bf a la) (sf_apA af la a)) := hD
        refine lv_aload_n hx hb dX2_take_47 rfl (lv_at hl 0 rfl) ?_
        refine lv_iconst (v := nI 1) hx hb dX2_take_48 (by decide) ?_
        refine sf_rput (D := (dC, dI)) (ci := 1) (v := .int (nI 1)) (ty := .boolean) (C := RX1) (T := TX1) (N := 6) hx hb hts sf_inX1 tyX1 tyX1_ok nmX1 hown hK hP hD hS haL rfl rfl 1 (by decide) (hts _ (sf_mem fl_X2_52 rfl)) (fun _ h9 => h9) rfl (by decide +kernel) rfl rfl (Nat.le_of_ble_eq_true rfl) (sf_rw_tk 1) dX2_take_49 (fun H locs hP hD hS => ?_)
        have hP : va_P (dC, dI) vwCl (sf_w a0 a1 a2 a3 cB cT LP (af a) md ct tb nm (va_up tk a 1) (oc + sf_P k) en2 (sf_pk la (some a) fs) (some a) g2 st2 (va_up ln a k) (va_up bf a la) (sf_apA af la a)) H := hP
        have hD : va_D A (sf_w a0 a1 a2 a3 cB cT LP (af a) md ct tb nm (va_up tk a 1) (oc + sf_P k) en2 (sf_pk la (some a) fs) (some a) g2 st2 (va_up ln a k) (va_up bf a la) (sf_apA af la a)) := hD
        refine lv_aload_n hx hb dX2_take_52 rfl (lv_at hl 1 rfl) ?_
        refine lv_dup hx hb dX2_take_53 rfl ?_
        refine va_get (D := (dC, dI)) (ci := 2) (v := .int (nI ct)) (C := RX2) (T := TX2) (N := 5) hx hb hts sf_inX2 hown hK hP 0 rfl rfl 4 (by decide) (hts _ (sf_mem fl_X2_30 rfl)) (fun _ h9 => h9) rfl dX2_take_54 ?_
        refine lv_iconst (v := nI 1) hx hb dX2_take_57 (by decide) ?_
        refine sf_iadd hx hb dX2_take_58 ?_
        refine va_put (D := (dC, dI)) (ci := 2) (v := .int (nI (ct + 1))) (ty := .int) (C := RX2) (T := TX2) (N := 5) hx hb hts sf_inX2 tyX2 tyX2_ok nmX2 hown hK hP hD hS 0 rfl rfl 4 (by decide) (hts _ (sf_mem fl_X2_30 rfl)) (fun _ h9 => h9) rfl (by decide +kernel) rfl rfl (Nat.le_of_ble_eq_true rfl) dX2_take_59 (fun H locs hP hD hS => ?_)
        have hP : va_P (dC, dI) vwCl (sf_w a0 a1 a2 a3 cB cT LP (af a) md (ct + 1) tb nm (va_up tk a 1) (oc + sf_P k) en2 (sf_pk la (some a) fs) (some a) g2 st2 (va_up ln a k) (va_up bf a la) (sf_apA af la a)) H := hP
        have hD : va_D A (sf_w a0 a1 a2 a3 cB cT LP (af a) md (ct + 1) tb nm (va_up tk a 1) (oc + sf_P k) en2 (sf_pk la (some a) fs) (some a) g2 st2 (va_up ln a k) (va_up bf a la) (sf_apA af la a)) := hD
        refine lv_aload_n hx hb dX2_take_62 rfl (lv_at hl 0 rfl) ?_
        refine sf_rget (D := (dC, dI)) (ci := 1) (v := .int (nI (nm a))) (C := RX1) (T := TX1) (N := 6) hx hb hts sf_inX1 hown hK hP haL rfl rfl 0 (by decide) (hts _ (sf_mem fl_X2_56 rfl)) (fun _ h9 => h9) rfl dX2_take_63 ?_
        exact W.iret (v := nI (nm a)) hx hb hr (fun t ht hW => ⟨⟨_, (LP, (af a), md, ct + 1, tb, nm, (va_up tk a 1), (oc + sf_P k), en2, (sf_pk la (some a) fs), (some a), g2, st2, (va_up ln a k), (va_up bf a la), (sf_apA af la a)), rfl, by rw [zs_take_3 hk (by omega) hR.2.1]; exact ⟨rfl, sf_OK_take_1 hI hR hstk hac hka p1 p2 p3⟩, by rw [ht]; exact hP, hD⟩, hS.F ht⟩) hS.2.2 dX2_take_66
      · have hP : va_P (dC, dI) vwCl (sf_w a0 a1 a2 a3 cB cT LP none md ct tb nm tk oc en fs la g st ln bf af) H := hP
        have hD : va_D A (sf_w a0 a1 a2 a3 cB cT LP none md ct tb nm tk oc en fs la g st ln bf af) := hD
        refine lv_astore_nN (lv' := [(2, .null), (0, .ref a0), (1, .int (nI k))]) hx hb dX2_take_30 rfl hl (by decide) rfl (fun ls hl => ?_)
        refine lv_aload_nN hx hb dX2_take_31 rfl (lv_at hl 0 rfl) ?_
        refine lv_ifnonnullN hx hb dX2_take_32 ?_
        refine lv_bipush (v := -2) hx hb dX2_take_35 (by decide) ?_
        exact W.iret (v := -2) hx hb hr (fun t ht hW => ⟨⟨_, (LP, none, md, ct, tb, nm, tk, oc, en, fs, la, g, st, ln, bf, af), rfl, by rw [zs_take_4 hk (by omega) (by rw [hR.2.1, sf_no_top hI]; rfl) (by rw [hR.1, ← hI.2.1]; exact h20)]; exact ⟨rfl, cs, fr, hI, hR⟩, by rw [ht]; exact hP, hD⟩, hS.F ht⟩) hS.2.2 dX2_take_37
      · have hfr := sf_no_top hI
        subst hfr
        have hqL : q ∈ LP ++ [q] := by simp
        have hP : va_P (dC, dI) vwCl (sf_w a0 a1 a2 a3 cB cT (LP ++ [q]) none (md + 1) ct (va_up tb md (some q)) (va_up nm q md) (va_up tk q 0) oc en fs la g (va_up st q 0) (va_up ln q 0) (va_up bf q none) (va_up af q none)) H := hP
        have hD : va_D A (sf_w a0 a1 a2 a3 cB cT (LP ++ [q]) none (md + 1) ct (va_up tb md (some q)) (va_up nm q md) (va_up tk q 0) oc en fs la g (va_up st q 0) (va_up ln q 0) (va_up bf q none) (va_up af q none)) := hD
        have hM2 := sf_MI_new hI.1 hq
        have hac : q ∉ cs := fun e => hq (hI.1.2.1 q e)
        refine lv_astore_n (lv' := [(2, .ref q), (0, .ref a0), (1, .int (nI k))]) hx hb dX2_take_30 rfl hl (by decide) rfl (fun ls hl => ?_)
        refine lv_aload_n hx hb dX2_take_31 rfl (lv_at hl 0 rfl) ?_
        refine lv_ifnonnull (tgt := 38) hx hb dX2_take_32 (by decide) ?_
        refine lv_aload_n hx hb dX2_take_38 rfl (lv_at hl 1 rfl) ?_
        refine va_get (D := (dC, dI)) (ci := 2) (v := .ref a1) (C := RX2) (T := TX2) (N := 5) hx hb hts sf_inX2 hown hK hP 0 rfl rfl 0 (by decide) (hts _ (sf_mem fl_X2_10 rfl)) (fun _ h9 => h9) rfl dX2_take_39 ?_
        refine lv_aload_n hx hb dX2_take_42 rfl (lv_at hl 0 rfl) ?_
        refine lv_iload_n hx hb dX2_take_43 rfl (lv_at hl 2 rfl) ?_
        refine sf_cv (sf_runV (b := a1) (As := [.ref q, .int (nI k)]) (rest := []) ⟨hx, hb, hml, hown, hts⟩ sf_has (c_lay l dC dI a0 a1 a2 a3 cB cT (LP ++ [q]) none (md + 1) ct (va_up tb md (some q)) (va_up nm q md) (va_up tk q 0) oc en fs la g (va_up st q 0) (va_up ln q 0) (va_up bf q none) (va_up af q none) _ cs hM2 q hqL hac k hk h_17) k_X2_48 ⟨sf_blind, va_recv hK hP (ci := 0) (q0 := 1) rfl rfl, sf_preU hP hK hD hN⟩ rfl hl.1 (Nat.le_of_ble_eq_true rfl) ⟨(Nat.le_of_ble_eq_true rfl), (Nat.le_of_ble_eq_true rfl)⟩ ⟨rfl, rfl⟩ ⟨(Nat.le_of_ble_eq_true rfl), (Nat.le_of_ble_eq_true rfl)⟩ dX2_take_44) hD hS hA (fun u_44 H locs h_44 hP hD hS => ?_)
        obtain ⟨en2, g2, st2⟩ := u_44
        obtain ⟨p1, p2, p3⟩ := h_44
        dsimp only at p1 p2 p3
        have hP : va_P (dC, dI) vwCl (sf_w a0 a1 a2 a3 cB cT (LP ++ [q]) none (md + 1) ct (va_up tb md (some q)) (va_up nm q md) (va_up tk q 0) (oc + sf_P k) en2 (sf_pk la (some q) fs) (some q) g2 st2 (va_up (va_up ln q 0) q k) (va_up (va_up bf q none) q la) (sf_apA (va_up af q none) la q)) H := hP
        have hD : va_D A (sf_w a0 a1 a2 a3 cB cT (LP ++ [q]) none (md + 1) ct (va_up tb md (some q)) (va_up nm q md) (va_up tk q 0) (oc + sf_P k) en2 (sf_pk la (some q) fs) (some q) g2 st2 (va_up (va_up ln q 0) q k) (va_up (va_up bf q none) q la) (sf_apA (va_up af q none) la q)) := hD
        refine lv_aload_n hx hb dX2_take_47 rfl (lv_at hl 0 rfl) ?_
        refine lv_iconst (v := nI 1) hx hb dX2_take_48 (by decide) ?_
        refine sf_rput (D := (dC, dI)) (ci := 1) (v := .int (nI 1)) (ty := .boolean) (C := RX1) (T := TX1) (N := 6) hx hb hts sf_inX1 tyX1 tyX1_ok nmX1 hown hK hP hD hS hqL rfl rfl 1 (by decide) (hts _ (sf_mem fl_X2_52 rfl)) (fun _ h9 => h9) rfl (by decide +kernel) rfl rfl (Nat.le_of_ble_eq_true rfl) (sf_rw_tk 1) dX2_take_49 (fun H locs hP hD hS => ?_)
        have hP : va_P (dC, dI) vwCl (sf_w a0 a1 a2 a3 cB cT (LP ++ [q]) none (md + 1) ct (va_up tb md (some q)) (va_up nm q md) (va_up (va_up tk q 0) q 1) (oc + sf_P k) en2 (sf_pk la (some q) fs) (some q) g2 st2 (va_up (va_up ln q 0) q k) (va_up (va_up bf q none) q la) (sf_apA (va_up af q none) la q)) H := hP
        have hD : va_D A (sf_w a0 a1 a2 a3 cB cT (LP ++ [q]) none (md + 1) ct (va_up tb md (some q)) (va_up nm q md) (va_up (va_up tk q 0) q 1) (oc + sf_P k) en2 (sf_pk la (some q) fs) (some q) g2 st2 (va_up (va_up ln q 0) q k) (va_up (va_up bf q none) q la) (sf_apA (va_up af q none) la q)) := hD
        refine lv_aload_n hx hb dX2_take_52 rfl (lv_at hl 1 rfl) ?_
        refine lv_dup hx hb dX2_take_53 rfl ?_
        refine va_get (D := (dC, dI)) (ci := 2) (v := .int (nI ct)) (C := RX2) (T := TX2) (N := 5) hx hb hts sf_inX2 hown hK hP 0 rfl rfl 4 (by decide) (hts _ (sf_mem fl_X2_30 rfl)) (fun _ h9 => h9) rfl dX2_take_54 ?_
        refine lv_iconst (v := nI 1) hx hb dX2_take_57 (by decide) ?_
        refine sf_iadd hx hb dX2_take_58 ?_
        refine va_put (D := (dC, dI)) (ci := 2) (v := .int (nI (ct + 1))) (ty := .int) (C := RX2) (T := TX2) (N := 5) hx hb hts sf_inX2 tyX2 tyX2_ok nmX2 hown hK hP hD hS 0 rfl rfl 4 (by decide) (hts _ (sf_mem fl_X2_30 rfl)) (fun _ h9 => h9) rfl (by decide +kernel) rfl rfl (Nat.le_of_ble_eq_true rfl) dX2_take_59 (fun H locs hP hD hS => ?_)
        have hP : va_P (dC, dI) vwCl (sf_w a0 a1 a2 a3 cB cT (LP ++ [q]) none (md + 1) (ct + 1) (va_up tb md (some q)) (va_up nm q md) (va_up (va_up tk q 0) q 1) (oc + sf_P k) en2 (sf_pk la (some q) fs) (some q) g2 st2 (va_up (va_up ln q 0) q k) (va_up (va_up bf q none) q la) (sf_apA (va_up af q none) la q)) H := hP
        have hD : va_D A (sf_w a0 a1 a2 a3 cB cT (LP ++ [q]) none (md + 1) (ct + 1) (va_up tb md (some q)) (va_up nm q md) (va_up (va_up tk q 0) q 1) (oc + sf_P k) en2 (sf_pk la (some q) fs) (some q) g2 st2 (va_up (va_up ln q 0) q k) (va_up (va_up bf q none) q la) (sf_apA (va_up af q none) la q)) := hD
        refine lv_aload_n hx hb dX2_take_62 rfl (lv_at hl 0 rfl) ?_
        refine sf_rget (D := (dC, dI)) (ci := 1) (v := .int (nI ((va_up nm q md) q))) (C := RX1) (T := TX1) (N := 6) hx hb hts sf_inX1 hown hK hP hqL rfl rfl 0 (by decide) (hts _ (sf_mem fl_X2_56 rfl)) (fun _ h9 => h9) rfl dX2_take_63 ?_
        rw [va_up_self]
        exact W.iret (v := nI md) hx hb hr (fun t ht hW => ⟨⟨_, ((LP ++ [q]), none, (md + 1), ct + 1, (va_up tb md (some q)), (va_up nm q md), (va_up (va_up tk q 0) q 1), (oc + sf_P k), en2, (sf_pk la (some q) fs), (some q), g2, st2, (va_up (va_up ln q 0) q k), (va_up (va_up bf q none) q la), (sf_apA (va_up af q none) la q)), rfl, by rw [zs_take_5 hk (by omega) hR.2.1 (by rw [hR.1, ← hI.2.1]; omega)]; exact ⟨by rw [hR.1, ← hI.2.1], sf_OK_take_2 hI hR hq h20 p1 p2 p3⟩, by rw [ht]; exact hP, hD⟩, hS.F ht⟩) hS.2.2 dX2_take_66
    · refine sf_if_ne (tgt := 26) hx hb (by decide) dX2_take_20 (by decide) (fun c_20 => absurd c_20 (by decide)) (fun _ => ?_)
      refine lv_bipush (v := -2) hx hb dX2_take_23 (by decide) ?_
      refine W.widen (k := 1) (n := 6) (Nat.zero_le _) (Nat.zero_le _) ?_
      exact W.iret (v := -2) hx hb hr (fun t ht hW => ⟨⟨_, (LP, gb, md, ct, tb, nm, tk, oc, en, fs, la, g, st, ln, bf, af), rfl, by rw [zs_take_2 hk (by omega)]; exact ⟨rfl, cs, fr, hI, hR⟩, by rw [ht]; exact hP, hD⟩, hS.F ht⟩) hS.2.2 dX2_take_25
  · have hzn : zi n 16385 = none := zi_none (by omega) (fun k hk => h_1 k (by omega))
    refine sf_if_ne (tgt := 9) hx hb (by decide) dX2_take_4 (by decide) (fun c_4 => absurd c_4 (by decide)) (fun _ => ?_)
    refine lv_iconst (v := -1) hx hb dX2_take_7 (by decide) ?_
    refine W.widen (k := 1) (n := 6) (Nat.zero_le _) (Nat.zero_le _) ?_
    exact W.iret (v := -1) hx hb hr (fun t ht hW => ⟨⟨_, (LP, gb, md, ct, tb, nm, tk, oc, en, fs, la, g, st, ln, bf, af), rfl, by rw [zs_take_1 hzn]; exact ⟨rfl, cs, fr, hI, hR⟩, by rw [ht]; exact hP, hD⟩, hS.F ht⟩) hS.2.2 dX2_take_8
