/-! what the memory's methods say at their ends (pure) -/
theorem sf_MI_la {LP c : List Nat} {oc en : Nat} {fs la : Option Nat} {g : Nat → Int32} {st ln : Nat → Nat} {bf af : Nat → Option Nat} (h : sf_MI LP c oc en fs la g st ln bf af) : ∀ z, la = some z → z ∈ LP := fun z hz => h.2.1 z (sf_last_mem (by rw [← h.2.2.2.1]; exact hz))
theorem sf_MI_nb {LP l r : List Nat} {oc en a : Nat} {fs la : Option Nat} {g : Nat → Int32} {st ln : Nat → Nat} {bf af : Nat → Option Nat} (h : sf_MI LP (l ++ a :: r) oc en fs la g st ln bf af) : (∀ z, bf a = some z → z ∈ LP) ∧ ∀ z, af a = some z → z ∈ LP := by
  obtain ⟨h1, h2, h3, h4, h5, -⟩ := h
  obtain ⟨hb, ha⟩ := h5 l a r rfl
  refine ⟨fun z hz => h2 z (List.mem_append_left _ (sf_last_mem (by rw [← hb]; exact hz))), fun z hz => h2 z (List.mem_append_right _ (List.mem_cons_of_mem _ (sf_head_mem (by rw [← ha]; exact hz))))⟩
theorem sf_fit_if {f f2 : Nat → Int32} {lo hi : Nat} (h : ∀ j, f2 j = if lo ≤ j ∧ j < hi then nI 0 else f j) (hf : sb_Fit f) : sb_Fit f2 := by
  intro j
  rw [h j]
  split
  · decide
  · exact hf j
theorem sf_lay_post {LP cs : List Nat} {oc en b n a : Nat} {fs la : Option Nat} {g g1 g2 : Nat → Int32} {st st1 ln : Nat → Nat} {bf af : Nat → Option Nat} (hM : sf_MI LP cs oc en fs la g st ln bf af) (hac : a ∉ cs) (ha : a ∈ LP) (hn : n ≤ 16384) (p2 : b + sf_P n ≤ 400000) (p3 : sf_lay st1 ln 0 cs b) (p4 : ∀ x, x ∈ cs → ∀ i, i < ln x → g1 (st1 x + i) = g (st x + i)) (p5 : sb_Fit g1) (h : ∀ j, g2 j = if b ≤ j ∧ j < b + n then nI 0 else g1 j) :
    sf_MI LP (cs ++ [a]) (oc + sf_P n) (b + sf_P n) (sf_pk la (some a) fs) (some a) g2 (va_up st1 a b) (va_up ln a n) (va_up bf a la) (sf_apA af la a) ∧ (∀ x, x ∈ cs → ∀ i, i < ln x → g2 (va_up st1 a b x + i) = g (st x + i)) ∧ ∀ i, i < n → g2 (va_up st1 a b a + i) = 0 := by
  refine ⟨sf_MI_app hM hac ha hn p3 p2 (sf_fit_if h p5), ?_, ?_⟩
  · intro x hx i hi
    have hne : x ≠ a := fun q => hac (q ▸ hx)
    have q1 := (sf_lay_in p3 hx).2
    have q2 := sf_P_ge (ln x)
    rw [va_up_ne _ _ hne, h, if_neg (by omega)]
    exact p4 x hx i hi
  · intro i hi
    rw [va_up_self, h, if_pos (by omega)]
    rfl
theorem sf_occ {x y z : Nat} (h : z ≤ x + y) : nI x + (nI y - nI z) = nI (x + y - z) := by
  rw [Int32.sub_eq_add_neg, ← Int32.add_assoc, ← Int32.sub_eq_add_neg, nI_add, pk_sub h]
/-- behind setLength: the row a has n bytes -/
def sf_SL (LP cs : List Nat) (a n oc : Nat) (g : Nat → Int32) (st ln : Nat → Nat) (af : Nat → Option Nat) (u : List Nat × sf_M) : Prop :=
  ∃ (cs' : List Nat) (oc' en' : Nat) (fs' la' : Option Nat) (g' : Nat → Int32) (st' : Nat → Nat) (bf' af' : Nat → Option Nat), u = (cs', oc', en', fs', la', g', st', va_up ln a n, bf', af') ∧ oc' = oc + sf_P n - sf_P (ln a) ∧ (∀ x, x ∈ cs' ↔ x ∈ cs) ∧ cs'.length = cs.length ∧ sf_MI LP cs' oc' en' fs' la' g' st' (va_up ln a n) bf' af' ∧ (∀ x, x ∈ cs → x ≠ a → ∀ i, i < ln x → g' (st' x + i) = g (st x + i)) ∧ (∀ i, i < n → g' (st' a + i) = if i < ln a then g (st a + i) else 0) ∧ ∀ x, x ∉ cs → af' x = af x
theorem sf_SL_stay {LP cs : List Nat} {oc en a n : Nat} {fs la : Option Nat} {g g2 : Nat → Int32} {st ln : Nat → Nat} {bf af : Nat → Option Nat} (hM : sf_MI LP cs oc en fs la g st ln bf af) (ha : a ∈ cs) (hP : sf_P n ≤ sf_P (ln a)) (hn : n ≤ 16384) (h : ∀ j, g2 j = if st a + ln a ≤ j ∧ j < st a + n then nI 0 else g j) :
    sf_SL LP cs a n oc g st ln af (cs, oc + sf_P n - sf_P (ln a), en, fs, la, g2, st, va_up ln a n, bf, af) := by
  have q3 := sf_P_ge n
  refine ⟨cs, _, en, fs, la, g2, st, bf, af, rfl, rfl, fun _ => Iff.rfl, rfl, sf_MI_len hM ha hP hn (sf_fit_if h hM.2.2.2.2.2.2.2.2.2), ?_, ?_, fun _ _ => rfl⟩
  · intro x hx hne i hi
    have q1 := sf_lay_two hM.2.2.2.2.2.1 hx ha hne
    have q2 := sf_P_ge (ln x)
    rw [h, if_neg (by omega)]
  · intro i hi
    rw [h]
    by_cases q : i < ln a
    · rw [if_neg (by omega), if_pos q]
    · rw [if_pos (by omega), if_neg q]
      rfl
theorem sf_SL_move {LP l r : List Nat} {oc en a n b : Nat} {fs la : Option Nat} {g g1 g2 : Nat → Int32} {st st1 ln : Nat → Nat} {bf af : Nat → Option Nat} (hM : sf_MI LP (l ++ a :: r) oc en fs la g st ln bf af) (hn : n ≤ 16384) (hb : b + sf_P n ≤ 400000) (hPn : sf_P (ln a) < sf_P n) (hsa : st1 a = b) (hl : sf_lay st1 ln 0 (l ++ r) b) (hc : ∀ x, x ∈ l ++ a :: r → ∀ i, i < ln x → g1 (st1 x + i) = g (st x + i)) (hF : sb_Fit g1) (h : ∀ j, g2 j = if b + ln a ≤ j ∧ j < b + n then nI 0 else g1 j) :
    sf_SL LP (l ++ a :: r) a n oc g st ln af (l ++ r ++ [a], oc + sf_P n - sf_P (ln a), b + sf_P n, sf_pk (sf_pk (af a) (bf a) la) (some a) (sf_pk (bf a) (af a) fs), some a, g2, st1, va_up ln a n, va_up (sf_unA bf (af a) (bf a)) a (sf_pk (af a) (bf a) la), sf_apA (sf_unA af (bf a) (af a)) (sf_pk (af a) (bf a) la) a) := by
  have hocP := (sf_MI_st hM (a := a) (by simp)).2.2.2.2
  obtain ⟨n1, n2, n3, n4⟩ := sf_nd_mid hM.1
  obtain ⟨e1, e2, hU⟩ := sf_MI_un hM
  have hac : a ∉ l ++ r := fun q => (List.mem_append.mp q).elim n1 n2
  have hA := sf_MI_app (g2 := g2) hU hac (hM.2.1 a (by simp)) hn hl hb (sf_fit_if h hF)
  have est : va_up st1 a b = st1 := by
    funext x
    by_cases q : x = a
    · rw [q, va_up_self, hsa]
    · rw [va_up_ne _ _ q]
  rw [est, show oc - sf_P (ln a) + sf_P n = oc + sf_P n - sf_P (ln a) by omega] at hA
  refine ⟨_, _, _, _, _, g2, st1, _, _, rfl, rfl, ?_, ?_, hA, ?_, ?_, ?_⟩
  · intro x
    simp only [List.mem_append, List.mem_cons, List.not_mem_nil, or_false]
    constructor
    · rintro ((q | q) | q)
      · exact Or.inl q
      · exact Or.inr (Or.inr q)
      · exact Or.inr (Or.inl q)
    · rintro (q | q | q)
      · exact Or.inl (Or.inl q)
      · exact Or.inr q
      · exact Or.inl (Or.inr q)
  · simp only [List.length_append, List.length_cons, List.length_nil]
    omega
  · intro x hx hne i hi
    have hx2 : x ∈ l ++ r := by
      rcases List.mem_append.mp hx with q | q
      · exact List.mem_append_left _ q
      · rcases List.mem_cons.mp q with q | q
        · exact absurd q hne
        · exact List.mem_append_right _ q
    have q1 := (sf_lay_in hl hx2).2
    have q2 := sf_P_ge (ln x)
    rw [h, if_neg (by omega)]
    exact hc x hx i hi
  · intro i hi
    rw [hsa, h]
    by_cases q : i < ln a
    · rw [if_neg (by omega), if_pos q, ← hsa]
      exact hc a (by simp) i q
    · rw [if_pos (by omega), if_neg q]
      rfl
  · intro x hx
    have hxa : x ≠ a := fun q => hx (by rw [q]; simp)
    have hxl : ∀ z, sf_pk (af a) (bf a) la = some z → x ≠ z := by
      intro z hz q
      have hq : z ∈ l ++ r := by
        have e4 := hU.2.2.2.1
        rw [e4] at hz
        exact sf_last_mem hz
      apply hx
      rw [q]
      rcases List.mem_append.mp hq with q | q
      · exact List.mem_append_left _ q
      · exact List.mem_append_right _ (List.mem_cons_of_mem _ q)
    have hxb : bf a ≠ some x := by
      intro q
      rw [e1] at q
      exact hx (List.mem_append_left _ (sf_last_mem q))
    have e5 : sf_unA af (bf a) (af a) x = af x := sf_unA_ne hxb
    cases hz : sf_pk (af a) (bf a) la with
    | none => show va_up _ a none x = _; rw [va_up_ne _ _ hxa]; exact e5
    | some z => show va_up (va_up _ a none) z (some a) x = _; rw [va_up_ne _ _ (hxl z hz), va_up_ne _ _ hxa]; exact e5
