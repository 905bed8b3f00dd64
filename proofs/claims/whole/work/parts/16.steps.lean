/-! steps of the shelf's state (pure) -/
abbrev sf_Sx : Type := List Nat × Option Nat × Nat × Nat × (Nat → Option Nat) × (Nat → Nat) × (Nat → Nat) × Nat × Nat × Option Nat × Option Nat × (Nat → Int32) × (Nat → Nat) × (Nat → Nat) × (Nat → Option Nat) × (Nat → Option Nat)
def sf_OKu (u : sf_Sx) (z : sf_Z) : Prop := sf_OK u.1 u.2.1 u.2.2.1 u.2.2.2.1 u.2.2.2.2.1 u.2.2.2.2.2.1 u.2.2.2.2.2.2.1 u.2.2.2.2.2.2.2.1 u.2.2.2.2.2.2.2.2.1 u.2.2.2.2.2.2.2.2.2.1 u.2.2.2.2.2.2.2.2.2.2.1 u.2.2.2.2.2.2.2.2.2.2.2.1 u.2.2.2.2.2.2.2.2.2.2.2.2.1 u.2.2.2.2.2.2.2.2.2.2.2.2.2.1 u.2.2.2.2.2.2.2.2.2.2.2.2.2.2.1 u.2.2.2.2.2.2.2.2.2.2.2.2.2.2.2 z
section SFS
variable {LP : List Nat} {gb : Option Nat} {md ct : Nat} {tb : Nat → Option Nat} {nm tk : Nat → Nat} {oc en : Nat} {fs la : Option Nat} {g : Nat → Int32} {st ln : Nat → Nat} {bf af : Nat → Option Nat} {cs fr : List Nat} {z : sf_Z}
theorem sf_num (h : sf_CI LP gb md ct tb nm tk oc en fs la g st ln bf af cs fr) {k k2 a : Nat} (h1 : LP[k]? = some a) (h2 : LP[k2]? = some a) : k2 = k := by
  have e1 := h.2.2.2.2.1 k a h1
  have e2 := h.2.2.2.2.1 k2 a h2
  omega
theorem sf_cs_fr (h : sf_CI LP gb md ct tb nm tk oc en fs la g st ln bf af cs fr) {a : Nat} (h1 : a ∈ cs) (h2 : a ∈ fr) : False := by
  have e1 := h.2.2.2.2.2.1 a h1
  have e2 := (h.2.2.2.2.2.2.1 a h2).1
  omega
theorem sf_apart (h : sf_CI LP gb md ct tb nm tk oc en fs la g st ln bf af cs fr) {a x i j : Nat} (ha : a ∈ cs) (hx : x ∈ cs) (hne : x ≠ a) (hi : i < ln x) (hj : j < ln a) : st x + i ≠ st a + j := by
  have q := sf_lay_two h.1.2.2.2.2.2.1 hx ha hne
  have q1 := sf_P_ge (ln x)
  have q2 := sf_P_ge (ln a)
  omega
/-- other bytes in one row -/
theorem sf_OK_bytes {g2 : Nat → Int32} {k a : Nat} {f : Nat → Int32} (hI : sf_CI LP gb md ct tb nm tk oc en fs la g st ln bf af cs fr) (hR : sf_CR LP nm tk ln st g cs fr ct oc z) (hk : LP[k]? = some a) (hF : sb_Fit g2) (ho : ∀ x, x ∈ cs → x ≠ a → ∀ i, i < ln x → g2 (st x + i) = g (st x + i)) (hf : ∀ i, i < ln a → f i = g2 (st a + i)) :
    sf_OK LP gb md ct tb nm tk oc en fs la g2 st ln bf af (zput z k f) := by
  have hn : ∀ {k k2 a : Nat}, LP[k]? = some a → LP[k2]? = some a → k2 = k := fun h1 h2 => sf_num hI h1 h2
  obtain ⟨⟨m1, m2, m3, m4, m5, m6, m7, m8, m9, m10⟩, h2, h3, h4, h5, h6, h7, h8, h9, h10, h11⟩ := hI
  obtain ⟨z1, z2, z3, z4, z5, z6⟩ := hR
  refine ⟨cs, fr, ⟨⟨m1, m2, m3, m4, m5, m6, m7, m8, m9, hF⟩, h2, h3, h4, h5, h6, h7, h8, h9, h10, h11⟩, z1, z2, z3, ?_, z5, z6⟩
  intro k2 a2 hk2 ha2
  refine ⟨(z4 k2 a2 hk2 ha2).1, fun i hi => ?_⟩
  show va_up (zBy z) k f k2 i = _
  by_cases q : a2 = a
  · subst q
    rw [hn hk hk2, va_up_self]
    exact hf i hi
  · have hkk : k2 ≠ k := fun e => q (by rw [e, hk] at hk2; exact (Option.some.inj hk2).symm)
    rw [va_up_ne _ _ hkk, ho a2 ha2 q i hi]
    exact (z4 k2 a2 hk2 ha2).2 i hi
/-- another length of one row -/
theorem sf_OK_len {k a n : Nat} {f : Nat → Int32} {cs' : List Nat} {oc' en' : Nat} {fs' la' : Option Nat} {g' : Nat → Int32} {st' : Nat → Nat} {bf' af' : Nat → Option Nat} (hI : sf_CI LP gb md ct tb nm tk oc en fs la g st ln bf af cs fr) (hR : sf_CR LP nm tk ln st g cs fr ct oc z) (hk : LP[k]? = some a) (hac : a ∈ cs)
    (e1 : oc' = oc + sf_P n - sf_P (ln a)) (e2 : ∀ x, x ∈ cs' ↔ x ∈ cs) (e3 : cs'.length = cs.length) (e4 : sf_MI LP cs' oc' en' fs' la' g' st' (va_up ln a n) bf' af') (e5 : ∀ x, x ∈ cs → x ≠ a → ∀ i, i < ln x → g' (st' x + i) = g (st x + i)) (e6 : ∀ i, i < n → f i = g' (st' a + i)) (e7 : ∀ x, x ∉ cs → af' x = af x) :
    sf_CI LP gb md ct tb nm tk oc' en' fs' la' g' st' (va_up ln a n) bf' af' cs' fr ∧ sf_CR LP nm tk (va_up ln a n) st' g' cs' fr ct oc' (zset z k n f) := by
  have hn : ∀ {k k2 a : Nat}, LP[k]? = some a → LP[k2]? = some a → k2 = k := fun h1 h2 => sf_num hI h1 h2
  have hd : ∀ x, x ∈ fr → x ∉ cs := fun x hx q => sf_cs_fr hI q hx
  obtain ⟨h1, h2, h3, h4, h5, h6, h7, h8, h9, h10, h11⟩ := hI
  obtain ⟨z1, z2, z3, z4, z5, z6⟩ := hR
  refine ⟨⟨e4, h2, h3, h4, h5, fun x hx => h6 x ((e2 x).mp hx), h7, fun x hx => ?_, h9, sf_stk_congr h10 (fun x hx => e7 x (hd x hx)), by rw [e3]; exact h11⟩, z1, z2, z3, ?_, z5, ?_⟩
  · rcases h8 x hx with q | q
    · exact Or.inl ((e2 x).mpr q)
    · exact Or.inr q
  · intro k2 a2 hk2 ha2
    have ha3 := (e2 a2).mp ha2
    by_cases q : a2 = a
    · subst q
      have := hn hk hk2
      subst this
      refine ⟨?_, fun i hi => ?_⟩
      · show va_up (zLn z) k2 n k2 = _
        rw [va_up_self, va_up_self]
      · rw [va_up_self] at hi
        show va_up (zBy z) k2 f k2 i = _
        rw [va_up_self]
        exact e6 i hi
    · have hkk : k2 ≠ k := fun e => q (by rw [e, hk] at hk2; exact (Option.some.inj hk2).symm)
      refine ⟨?_, fun i hi => ?_⟩
      · show va_up (zLn z) k n k2 = _
        rw [va_up_ne _ _ hkk, va_up_ne _ _ q]
        exact (z4 k2 a2 hk2 ha3).1
      · rw [va_up_ne _ _ q] at hi
        show va_up (zBy z) k f k2 i = _
        rw [va_up_ne _ _ hkk, e5 a2 ha3 q i hi]
        exact (z4 k2 a2 hk2 ha3).2 i hi
  · show zOc z + sf_P n - sf_P (zLn z k) = _
    rw [z6, (z4 k a hk hac).1, e1]
/-- a row is given back -/
theorem sf_OK_give {l1 r1 : List Nat} {k a : Nat} (hI : sf_CI LP gb md ct tb nm tk oc en fs la g st ln bf af (l1 ++ a :: r1) fr) (hR : sf_CR LP nm tk ln st g (l1 ++ a :: r1) fr ct oc z) (hk : LP[k]? = some a) :
    sf_OK LP (some a) md (ct - 1) tb nm (va_up tk a 0) (oc - sf_P (ln a)) en (sf_pk (bf a) (af a) fs) (sf_pk (af a) (bf a) la) g st ln (sf_unA bf (af a) (bf a)) (va_up (sf_unA af (bf a) (af a)) a gb) (zMd z, k :: zFr z, va_up (zTk z) k 0, zLn z, zBy z, zCt z - 1, zOc z - sf_P (zLn z k)) := by
  have hn : ∀ {k k2 a : Nat}, LP[k]? = some a → LP[k2]? = some a → k2 = k := fun h1 h2 => sf_num hI h1 h2
  have hac : a ∈ l1 ++ a :: r1 := by simp
  have hd : ∀ x, x ∈ fr → x ∉ l1 ++ a :: r1 := fun x hx q => sf_cs_fr hI q hx
  obtain ⟨h1, h2, h3, h4, h5, h6, h7, h8, h9, h10, h11⟩ := hI
  obtain ⟨z1, z2, z3, z4, z5, z6⟩ := hR
  obtain ⟨n1, n2, n3, n4⟩ := sf_nd_mid h1.1
  obtain ⟨b1, b2, hU⟩ := sf_MI_un h1
  have hne : ∀ x, x ∈ l1 ++ r1 → x ≠ a := fun x hx q => (List.mem_append.mp hx).elim (fun h => n1 (q ▸ h)) (fun h => n2 (q ▸ h))
  have hin : ∀ x, x ∈ l1 ++ r1 → x ∈ l1 ++ a :: r1 := fun x hx => (List.mem_append.mp hx).elim (fun h => List.mem_append_left _ h) (fun h => List.mem_append_right _ (List.mem_cons_of_mem _ h))
  have haL : a ∈ LP := h1.2.1 a hac
  have haf : a ∉ fr := fun q => hd a q hac
  refine ⟨l1 ++ r1, a :: fr, ⟨?_, h2, h3, h4, h5, ?_, ?_, ?_, ?_, ?_, ?_⟩, z1, ?_, ?_, ?_, ?_, ?_⟩
  · obtain ⟨m1, m2, m3, m4, m5, m6⟩ := hU
    exact ⟨m1, m2, m3, m4, sf_lnk_congr m5 (fun _ _ => rfl) (fun x hx => va_up_ne _ _ (hne x hx)), m6⟩
  · intro x hx
    rw [va_up_ne _ _ (hne x hx)]
    exact h6 x (hin x hx)
  · intro x hx
    rcases List.mem_cons.mp hx with q | q
    · subst q
      exact ⟨va_up_self _ _ _, haL⟩
    · rw [va_up_ne _ _ (show x ≠ a from fun e => haf (e ▸ q))]
      exact h7 x q
  · intro x hx
    rcases h8 x hx with q | q
    · rcases List.mem_append.mp q with q | q
      · exact Or.inl (List.mem_append_left _ q)
      · rcases List.mem_cons.mp q with q | q
        · exact Or.inr (by rw [q]; exact List.mem_cons_self)
        · exact Or.inl (List.mem_append_right _ q)
    · exact Or.inr (List.mem_cons_of_mem _ q)
  · rw [List.nodup_cons]
    exact ⟨haf, h9⟩
  · refine ⟨rfl, ?_⟩
    rw [va_up_self]
    refine sf_stk_congr h10 (fun x hx => ?_)
    rw [va_up_ne _ _ (show x ≠ a from fun e => haf (e ▸ hx))]
    exact sf_unA_ne (fun e => hd x hx (List.mem_append_left _ (sf_last_mem (by rw [← b1]; exact e))))
  · rw [h11]
    simp only [List.length_append, List.length_cons]
    omega
  · show k :: zFr z = nm a :: fr.map nm
    rw [z2, h5 k a hk]
  · intro k2 a2 hk2
    show va_up (zTk z) k 0 k2 = va_up tk a 0 a2
    by_cases q : a2 = a
    · subst q
      rw [hn hk hk2, va_up_self, va_up_self]
    · have hkk : k2 ≠ k := fun e => q (by rw [e, hk] at hk2; exact (Option.some.inj hk2).symm)
      rw [va_up_ne _ _ hkk, va_up_ne _ _ q]
      exact z3 k2 a2 hk2
  · exact fun k2 a2 hk2 ha2 => z4 k2 a2 hk2 (hin a2 ha2)
  · show zCt z - 1 = ct - 1
    rw [z5]
  · show zOc z - sf_P (zLn z k) = oc - sf_P (ln a)
    rw [z6, (z4 k a hk hac).1]
/-- a row is taken: a is one of LP, in no list; its number is k -/
theorem sf_OK_take {fr' : List Nat} {gb' : Option Nat} {k a n en' : Nat} {g' : Nat → Int32} {st' : Nat → Nat} (h1 : sf_MI LP cs oc en fs la g st ln bf af) (h2 : md = LP.length) (h3 : md ≤ 20000) (h4 : ∀ k, tb k = LP[k]?) (h5 : ∀ k a, LP[k]? = some a → nm a = k) (h6 : ∀ a, a ∈ cs → tk a = 1) (h7 : ∀ a, a ∈ fr' → tk a = 0 ∧ a ∈ LP) (h8 : ∀ x, x ∈ LP → x ∈ cs ∨ x ∈ fr' ∨ x = a) (h9 : fr'.Nodup) (h10 : sf_stk af gb' fr') (h11 : ct = cs.length) (hk : LP[k]? = some a) (hac : a ∉ cs) (haf : a ∉ fr')
    (z3 : ∀ k2 a2, LP[k2]? = some a2 → a2 ≠ a → zTk z k2 = tk a2) (z4 : ∀ k2 a2, LP[k2]? = some a2 → a2 ∈ cs → zLn z k2 = ln a2 ∧ ∀ i, i < ln a2 → zBy z k2 i = g (st a2 + i)) (z5 : zCt z = ct) (z6 : zOc z = oc)
    (p1 : sf_MI LP (cs ++ [a]) (oc + sf_P n) en' (sf_pk la (some a) fs) (some a) g' st' (va_up ln a n) (va_up bf a la) (sf_apA af la a)) (p2 : ∀ x, x ∈ cs → ∀ i, i < ln x → g' (st' x + i) = g (st x + i)) (p3 : ∀ i, i < n → g' (st' a + i) = 0) :
    sf_OK LP gb' md (ct + 1) tb nm (va_up tk a 1) (oc + sf_P n) en' (sf_pk la (some a) fs) (some a) g' st' (va_up ln a n) (va_up bf a la) (sf_apA af la a) (LP.length, fr'.map nm, va_up (zTk z) k 1, va_up (zLn z) k n, va_up (zBy z) k (fun _ => 0), zCt z + 1, zOc z + sf_P n) := by
  have hn : ∀ k2, LP[k2]? = some a → k2 = k := fun k2 q => by
    have e1 := h5 k a hk
    have e2 := h5 k2 a q
    omega
  have hne : ∀ x, x ∈ cs → x ≠ a := fun x hx q => hac (q ▸ hx)
  refine ⟨cs ++ [a], fr', ⟨p1, h2, h3, h4, h5, ?_, ?_, ?_, h9, ?_, ?_⟩, rfl, rfl, ?_, ?_, ?_, ?_⟩
  · intro x hx
    rcases List.mem_append.mp hx with q | q
    · rw [va_up_ne _ _ (hne x q)]; exact h6 x q
    · rw [List.mem_singleton.mp q, va_up_self]
  · intro x hx
    rw [va_up_ne _ _ (show x ≠ a from fun q => haf (q ▸ hx))]
    exact h7 x hx
  · intro x hx
    rcases h8 x hx with q | q | q
    · exact Or.inl (List.mem_append_left _ q)
    · exact Or.inr q
    · exact Or.inl (List.mem_append_right _ (by rw [q]; simp))
  · refine sf_stk_congr h10 (fun x hx => ?_)
    have hxa : x ≠ a := fun q => haf (q ▸ hx)
    have hxc : x ∉ cs := fun q => by
      have e1 := h6 x q
      have e2 := (h7 x hx).1
      omega
    have hla := h1.2.2.2.1
    cases hz : la with
    | none => show va_up af a none x = _; rw [va_up_ne _ _ hxa]
    | some y =>
      have hy : y ∈ cs := sf_last_mem (by rw [← hla]; exact hz)
      show va_up (va_up af a none) y (some a) x = _
      rw [va_up_ne _ _ (show x ≠ y from fun q => hxc (q ▸ hy)), va_up_ne _ _ hxa]
  · rw [h11]; simp
  · intro k2 a2 hk2
    show va_up (zTk z) k 1 k2 = va_up tk a 1 a2
    by_cases q : a2 = a
    · subst q
      rw [hn k2 hk2, va_up_self, va_up_self]
    · have hkk : k2 ≠ k := fun e => q (by rw [e, hk] at hk2; exact (Option.some.inj hk2).symm)
      rw [va_up_ne _ _ hkk, va_up_ne _ _ q]
      exact z3 k2 a2 hk2 q
  · intro k2 a2 hk2 ha2
    show va_up (zLn z) k n k2 = va_up ln a n a2 ∧ ∀ i, i < va_up ln a n a2 → va_up (zBy z) k (fun _ => 0) k2 i = g' (st' a2 + i)
    by_cases q : a2 = a
    · subst q
      rw [hn k2 hk2, va_up_self, va_up_self, va_up_self]
      exact ⟨rfl, fun i hi => (p3 i hi).symm⟩
    · have hkk : k2 ≠ k := fun e => q (by rw [e, hk] at hk2; exact (Option.some.inj hk2).symm)
      have ha3 : a2 ∈ cs := by
        rcases List.mem_append.mp ha2 with h | h
        · exact h
        · exact absurd (List.mem_singleton.mp h) q
      rw [va_up_ne _ _ hkk, va_up_ne _ _ q, va_up_ne _ _ hkk]
      exact ⟨(z4 k2 a2 hk2 ha3).1, fun i hi => by rw [p2 a2 ha3 i hi]; exact (z4 k2 a2 hk2 ha3).2 i hi⟩
  · show zCt z + 1 = ct + 1
    rw [z5]
  · show zOc z + sf_P n = oc + sf_P n
    rw [z6]
end SFS
