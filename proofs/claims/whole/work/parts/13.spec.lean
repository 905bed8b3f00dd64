/-! the mathematical value of a shelf, and what each call answers and makes of it -/
/-- numbers given so far, numbers given back (the last first), taken (0 or 1), lengths, bytes, rows, places -/
abbrev sf_Z : Type := Nat × List Nat × (Nat → Nat) × (Nat → Nat) × (Nat → Nat → Int32) × Nat × Nat
abbrev zMd (z : sf_Z) : Nat := z.1
abbrev zFr (z : sf_Z) : List Nat := z.2.1
abbrev zTk (z : sf_Z) : Nat → Nat := z.2.2.1
abbrev zLn (z : sf_Z) : Nat → Nat := z.2.2.2.1
abbrev zBy (z : sf_Z) : Nat → Nat → Int32 := z.2.2.2.2.1
abbrev zCt (z : sf_Z) : Nat := z.2.2.2.2.2.1
abbrev zOc (z : sf_Z) : Nat := z.2.2.2.2.2.2
/-- an int as a number below n -/
def zi (x : Int32) (n : Nat) : Option Nat := if 0 ≤ x.toInt ∧ x.toInt < n then some x.toInt.toNat else none
theorem zi_some {k n : Nat} (h : k < n) (hn : n ≤ 2 ^ 31) : zi (nI k) n = some k := by
  unfold zi
  rw [nI_toInt (by omega), if_pos (by omega)]
  rfl
theorem zi_none {x : Int32} {n : Nat} (hn : n ≤ 2 ^ 31) (h : ∀ k : Nat, k < n → x ≠ nI k) : zi x n = none := by
  unfold zi
  rw [if_neg]
  intro q
  refine h x.toInt.toNat (by omega) ?_
  apply Int32.toInt_inj.mp
  rw [nI_toInt (by omega)]
  omega
/-- the row of that number -/
def zrow (z : sf_Z) (row : Int32) : Option Nat := match zi row (zMd z) with
  | none => none
  | some k => if zTk z k = 1 then some k else none
def zs_take (z : sf_Z) (n : Int32) : Int32 × sf_Z := match zi n 16385 with
  | none => (-1, z)
  | some k => if 400000 < zOc z + sf_P k then (-2, z) else match zFr z with
    | a :: t => (nI a, zMd z, t, va_up (zTk z) a 1, va_up (zLn z) a k, va_up (zBy z) a (fun _ => 0), zCt z + 1, zOc z + sf_P k)
    | [] => if zMd z = 20000 then (-2, z) else (nI (zMd z), zMd z + 1, [], va_up (zTk z) (zMd z) 1, va_up (zLn z) (zMd z) k, va_up (zBy z) (zMd z) (fun _ => 0), zCt z + 1, zOc z + sf_P k)
def zs_give (z : sf_Z) (row : Int32) : Int32 × sf_Z := match zrow z row with
  | none => (0, z)
  | some k => (1, zMd z, k :: zFr z, va_up (zTk z) k 0, zLn z, zBy z, zCt z - 1, zOc z - sf_P (zLn z k))
/-- the row k has n bytes from now on, and they are f -/
def zset (z : sf_Z) (k n : Nat) (f : Nat → Int32) : sf_Z := (zMd z, zFr z, zTk z, va_up (zLn z) k n, va_up (zBy z) k f, zCt z, zOc z + sf_P n - sf_P (zLn z k))
def zs_resize (z : sf_Z) (row n : Int32) : Int32 × sf_Z := match zrow z row with
  | none => (-1, z)
  | some k => match zi n 16385 with
    | none => (-1, z)
    | some m => if sf_P (zLn z k) < sf_P m ∧ 400000 < zOc z + sf_P m then (-2, z) else (n, zset z k m (fun i => if i < zLn z k then zBy z k i else 0))
def zput (z : sf_Z) (k : Nat) (f : Nat → Int32) : sf_Z := (zMd z, zFr z, zTk z, zLn z, va_up (zBy z) k f, zCt z, zOc z)
def zs_put (z : sf_Z) (row i b : Int32) : Int32 × sf_Z := match zrow z row with
  | none => (0, z)
  | some k => match zi i (zLn z k) with
    | none => (0, z)
    | some j => (1, zput z k (upd (zBy z k) j b.toInt8.toInt32))
/-- the byte that fill writes at k -/
def zfb (seed : Int32) (k : Nat) : Int32 := (seed + nI (7 * k) + nI (k / 250)).toInt8.toInt32
def zs_fill (z : sf_Z) (row i n seed : Int32) : Int32 × sf_Z := match zrow z row with
  | none => (0, z)
  | some k => match zi i (zLn z k + 1), zi n (zLn z k + 1) with
    | some a, some m => if a + m ≤ zLn z k then (1, zput z k (fun j => if a ≤ j ∧ j < a + m then zfb seed (j - a) else zBy z k j)) else (0, z)
    | _, _ => (0, z)
def zs_copy (z : sf_Z) (row src : Int32) : Int32 × sf_Z := match zrow z row, zrow z src with
  | some k, some k2 => if sf_P (zLn z k) < sf_P (zLn z k2) ∧ 400000 < zOc z + sf_P (zLn z k2) then (-2, z) else (nI (zLn z k2), zset z k (zLn z k2) (zBy z k2))
  | _, _ => (-1, z)
def zs_get (z : sf_Z) (row i : Int32) : Int32 := match zrow z row with
  | none => -1
  | some k => match zi i (zLn z k) with
    | none => -1
    | some j => zBy z k j &&& 255
def zs_size (z : sf_Z) (row : Int32) : Int32 := match zrow z row with
  | none => -1
  | some k => nI (zLn z k)
def zord (x y : Nat) : Int32 := if x = y then 0 else if x < y then -1 else 1
/-- the first place (of c from i on) where the bytes differ decides; none: o -/
def zcmp (f g : Nat → Int32) (o : Int32) : Nat → Nat → Int32
  | 0, _ => o
  | c + 1, i => if f i = g i then zcmp f g o c (i + 1) else if f i &&& 255 < g i &&& 255 then -1 else 1
def zs_compare (z : sf_Z) (row other : Int32) : Int32 := match zrow z row, zrow z other with
  | some k, some k2 => zcmp (zBy z k) (zBy z k2) (zord (zLn z k) (zLn z k2)) (min (zLn z k) (zLn z k2)) 0
  | _, _ => -2
def zsum (f : Nat → Int32) : Nat → Nat → Int32 → Int32
  | 0, _, v => v
  | c + 1, i, v => zsum f c (i + 1) (nI 31 * v + (f i &&& 255))
def zs_sum (z : sf_Z) (row : Int32) : Int32 := match zrow z row with
  | none => 0
  | some k => zsum (zBy z k) (zLn z k) 0 7
theorem zcmp_congr {f f2 g g2 : Nat → Int32} {o : Int32} : ∀ (c i : Nat), (∀ j, i ≤ j → j < i + c → f j = f2 j ∧ g j = g2 j) → zcmp f g o c i = zcmp f2 g2 o c i
  | 0, _, _ => rfl
  | c + 1, i, h => by
    simp only [zcmp]
    rw [(h i (by omega) (by omega)).1, (h i (by omega) (by omega)).2, zcmp_congr c (i + 1) (fun j h1 h2 => h j (by omega) (by omega))]
theorem zsum_congr {f f2 : Nat → Int32} : ∀ (c i : Nat) (v : Int32), (∀ j, i ≤ j → j < i + c → f j = f2 j) → zsum f c i v = zsum f2 c i v
  | 0, _, _, _ => rfl
  | c + 1, i, v, h => by
    simp only [zsum]
    rw [h i (by omega) (by omega), zsum_congr c (i + 1) _ (fun j h1 h2 => h j (by omega) (by omega))]
/-! the shelf's state stands for a value -/
def sf_CI (LP : List Nat) (gb : Option Nat) (md ct : Nat) (tb : Nat → Option Nat) (nm tk : Nat → Nat) (oc en : Nat) (fs la : Option Nat) (g : Nat → Int32) (st ln : Nat → Nat) (bf af : Nat → Option Nat) (cs fr : List Nat) : Prop :=
  sf_MI LP cs oc en fs la g st ln bf af ∧ md = LP.length ∧ md ≤ 20000 ∧ (∀ k, tb k = LP[k]?) ∧ (∀ k a, LP[k]? = some a → nm a = k) ∧ (∀ a, a ∈ cs → tk a = 1) ∧ (∀ a, a ∈ fr → tk a = 0 ∧ a ∈ LP) ∧ (∀ a, a ∈ LP → a ∈ cs ∨ a ∈ fr) ∧ fr.Nodup ∧ sf_stk af gb fr ∧ ct = cs.length
def sf_CR (LP : List Nat) (nm tk ln st : Nat → Nat) (g : Nat → Int32) (cs fr : List Nat) (ct oc : Nat) (z : sf_Z) : Prop :=
  zMd z = LP.length ∧ zFr z = fr.map nm ∧ (∀ k a, LP[k]? = some a → zTk z k = tk a) ∧ (∀ k a, LP[k]? = some a → a ∈ cs → zLn z k = ln a ∧ ∀ i, i < ln a → zBy z k i = g (st a + i)) ∧ zCt z = ct ∧ zOc z = oc
def sf_OK (LP : List Nat) (gb : Option Nat) (md ct : Nat) (tb : Nat → Option Nat) (nm tk : Nat → Nat) (oc en : Nat) (fs la : Option Nat) (g : Nat → Int32) (st ln : Nat → Nat) (bf af : Nat → Option Nat) (z : sf_Z) : Prop :=
  ∃ cs fr : List Nat, sf_CI LP gb md ct tb nm tk oc en fs la g st ln bf af cs fr ∧ sf_CR LP nm tk ln st g cs fr ct oc z
theorem sf_CI_find {LP : List Nat} {gb : Option Nat} {md ct : Nat} {tb : Nat → Option Nat} {nm tk : Nat → Nat} {oc en : Nat} {fs la : Option Nat} {g : Nat → Int32} {st ln : Nat → Nat} {bf af : Nat → Option Nat} {cs fr : List Nat} (h : sf_CI LP gb md ct tb nm tk oc en fs la g st ln bf af cs fr) : md ≤ 20000 ∧ (∀ k, k < md → ∃ a, a ∈ LP ∧ tb k = some a) ∧ ∀ a, a ∈ LP → tk a ≤ 1 := by
  obtain ⟨h1, h2, h3, h4, h5, h6, h7, h8, h9, h10, h11⟩ := h
  refine ⟨h3, fun k hk => ?_, fun a ha => ?_⟩
  · rw [h2] at hk
    exact ⟨LP[k], List.getElem_mem hk, by rw [h4, List.getElem?_eq_getElem hk]⟩
  · rcases h8 a ha with q | q
    · rw [h6 a q]; exact Nat.le_refl _
    · rw [(h7 a q).1]; exact Nat.zero_le _
/-- what a found row is -/
theorem sf_zr_some {LP : List Nat} {gb : Option Nat} {md ct : Nat} {tb : Nat → Option Nat} {nm tk : Nat → Nat} {oc en : Nat} {fs la : Option Nat} {g : Nat → Int32} {st ln : Nat → Nat} {bf af : Nat → Option Nat} {cs fr : List Nat} {z : sf_Z} (h : sf_CI LP gb md ct tb nm tk oc en fs la g st ln bf af cs fr) (hz : sf_CR LP nm tk ln st g cs fr ct oc z) {k a : Nat} (hk : k < md) (hta : tb k = some a) (htk : tk a = 1) : zrow z (nI k) = some k ∧ a ∈ cs ∧ LP[k]? = some a ∧ zLn z k = ln a ∧ (∀ i, i < ln a → zBy z k i = g (st a + i)) ∧ ln a ≤ 16384 ∧ st a + ln a ≤ 400000 := by
  obtain ⟨h1, h2, h3, h4, h5, h6, h7, h8, h9, h10, h11⟩ := h
  obtain ⟨z1, z2, z3, z4, z5, z6⟩ := hz
  have hL : LP[k]? = some a := by rw [← h4]; exact hta
  have hac : a ∈ cs := by
    rcases h8 a (List.mem_of_getElem? hL) with q | q
    · exact q
    · have := (h7 a q).1
      omega
  obtain ⟨-, q1, q2, q3, -⟩ := sf_MI_st h1 hac
  refine ⟨?_, hac, hL, (z4 k a hL hac).1, (z4 k a hL hac).2, q3, q2⟩
  unfold zrow
  rw [z1, ← h2, zi_some hk (by omega)]
  show (if zTk z k = 1 then some k else none) = some k
  rw [z3 k a hL, if_pos htk]
theorem sf_zr_none {LP : List Nat} {gb : Option Nat} {md ct : Nat} {tb : Nat → Option Nat} {nm tk : Nat → Nat} {oc en : Nat} {fs la : Option Nat} {g : Nat → Int32} {st ln : Nat → Nat} {bf af : Nat → Option Nat} {cs fr : List Nat} {z : sf_Z} (h : sf_CI LP gb md ct tb nm tk oc en fs la g st ln bf af cs fr) (hz : sf_CR LP nm tk ln st g cs fr ct oc z) {row : Int32} (hr : ∀ k a : Nat, k < md → row = nI k → tb k = some a → tk a = 0) : zrow z row = none := by
  obtain ⟨h1, h2, h3, h4, h5, h6, h7, h8, h9, h10, h11⟩ := h
  obtain ⟨z1, z2, z3, z4, z5, z6⟩ := hz
  unfold zrow
  by_cases q : ∃ k, k < md ∧ row = nI k
  · obtain ⟨k, hk, rfl⟩ := q
    have hL : LP[k]? = some (LP[k]'(by omega)) := List.getElem?_eq_getElem (by omega)
    have e := hr k _ hk rfl (by rw [h4]; exact hL)
    rw [z1, ← h2, zi_some hk (by omega)]
    show (if zTk z k = 1 then some k else none) = none
    rw [z3 k _ hL, e]
    rfl
  · rw [z1, ← h2, zi_none (by omega) (fun k hk e => q ⟨k, hk, e⟩)]
