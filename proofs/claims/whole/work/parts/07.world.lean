/-! the world of a ByteShelf: the shelf, its memory, the bytes, the table, the rows -/
abbrev sf_row (nm tk st ln : Nat → Nat) (bf af : Nat → Option Nat) : Nat → va_E := fun a => .inr (1, [.int (nI (nm a)), .int (nI (tk a)), .int (nI (st a)), .int (nI (ln a)), va_rf (bf a), va_rf (af a)])
abbrev sf_w (h0 hm hb ht : Nat) (cB cT : ClassId) (LP : List Nat) (gb : Option Nat) (md ct : Nat) (tb : Nat → Option Nat) (nm tk : Nat → Nat) (oc en : Nat) (fs la : Option Nat) (g : Nat → Int32) (st ln : Nat → Nat) (bf af : Nat → Option Nat) : va_W :=
  [(h0, .inr (2, [.ref hm, .ref ht, va_rf gb, .int (nI md), .int (nI ct)])), (hm, .inr (0, [.ref hb, .int (nI oc), .int (nI en), va_rf fs, va_rf la])), (hb, .inl (cB, 400000, .inl g)), (ht, .inl (cT, 20000, .inr (.inr (.inr (.inr tb)))))] ++ va_pl LP (sf_row nm tk st ln bf af)
theorem sf_rw_tk {nm tk st ln : Nat → Nat} {bf af : Nat → Option Nat} {a : Nat} (b : Nat) : va_up (sf_row nm tk st ln bf af) a (.inr (1, [.int (nI (nm a)), .int (nI b), .int (nI (st a)), .int (nI (ln a)), va_rf (bf a), va_rf (af a)])) = sf_row nm (va_up tk a b) st ln bf af := by
  funext x
  by_cases h : x = a <;> simp [va_up, sf_row, h]
theorem sf_rw_st {nm tk st ln : Nat → Nat} {bf af : Nat → Option Nat} {a : Nat} (b : Nat) : va_up (sf_row nm tk st ln bf af) a (.inr (1, [.int (nI (nm a)), .int (nI (tk a)), .int (nI b), .int (nI (ln a)), va_rf (bf a), va_rf (af a)])) = sf_row nm tk (va_up st a b) ln bf af := by
  funext x
  by_cases h : x = a <;> simp [va_up, sf_row, h]
theorem sf_rw_ln {nm tk st ln : Nat → Nat} {bf af : Nat → Option Nat} {a : Nat} (b : Nat) : va_up (sf_row nm tk st ln bf af) a (.inr (1, [.int (nI (nm a)), .int (nI (tk a)), .int (nI (st a)), .int (nI b), va_rf (bf a), va_rf (af a)])) = sf_row nm tk st (va_up ln a b) bf af := by
  funext x
  by_cases h : x = a <;> simp [va_up, sf_row, h]
theorem sf_rw_bf {nm tk st ln : Nat → Nat} {bf af : Nat → Option Nat} {a : Nat} (b : Option Nat) : va_up (sf_row nm tk st ln bf af) a (.inr (1, [.int (nI (nm a)), .int (nI (tk a)), .int (nI (st a)), .int (nI (ln a)), va_rf b, va_rf (af a)])) = sf_row nm tk st ln (va_up bf a b) af := by
  funext x
  by_cases h : x = a <;> simp [va_up, sf_row, h]
theorem sf_rw_af {nm tk st ln : Nat → Nat} {bf af : Nat → Option Nat} {a : Nat} (b : Option Nat) : va_up (sf_row nm tk st ln bf af) a (.inr (1, [.int (nI (nm a)), .int (nI (tk a)), .int (nI (st a)), .int (nI (ln a)), va_rf (bf a), va_rf b])) = sf_row nm tk st ln bf (va_up af a b) := by
  funext x
  by_cases h : x = a <;> simp [va_up, sf_row, h]
/-- a method without a world -/
def sf_PreT (av : List Value) : Array Value → State → Prop := va_Pc av (fun _ => True)
theorem sf_blindT {av : List Value} : FrameBlind (sf_PreT av) := fun _ _ _ _ q => ⟨q.1, trivial⟩
theorem sf_preT {av : List Value} {s : State} {H : Heap} : ∀ U : State, U.heap = H → s.WarmedH U.vm → sf_PreT av av.toArray U := fun _ _ _ => ⟨rfl, trivial⟩
section SFI
variable {p : Program} {l : Launch} {e : Env} {R : Room} {s : State} {m : MethodId} {args : Array Value} {below : List Frame} {meth : Method} {c : Code} {H : Heap} {locs : List Loc} {cells slots : Nat} {Q : State → Prop}
variable {cc : ByteArray} {pc : Nat} {ls : Array Slot} {rest : List Value}
theorem sf_if_eq (hexec : p.tables.exec = Jvm.exec) (hb : c.code = cc) {x : Nat} (hx : x < 2 ^ 31) {off : Int} {tgt : Nat} (hdg : decode cc pc = .ok (.ifCond .eq off, 3)) (ht : (pc : Int) + off = (tgt : Int)) (kt : x = 0 → W p l e R s m args below meth c H locs cells slots Q (F0 m tgt ls rest)) (kf : x ≠ 0 → W p l e R s m args below meth c H locs cells slots Q (F0 m (pc + 3) ls rest)) : W p l e R s m args below meth c H locs cells slots Q (F0 m pc ls (.int (nI x) :: rest)) :=
  lv_if_eq hexec hb hdg ht (fun h => kt ((nI_eq hx (by decide)).mp h)) (fun h => kf fun q => h (by rw [q]; rfl))
theorem sf_if_ne (hexec : p.tables.exec = Jvm.exec) (hb : c.code = cc) {x : Nat} (hx : x < 2 ^ 31) {off : Int} {tgt : Nat} (hdg : decode cc pc = .ok (.ifCond .ne off, 3)) (ht : (pc : Int) + off = (tgt : Int)) (kt : x ≠ 0 → W p l e R s m args below meth c H locs cells slots Q (F0 m tgt ls rest)) (kf : x = 0 → W p l e R s m args below meth c H locs cells slots Q (F0 m (pc + 3) ls rest)) : W p l e R s m args below meth c H locs cells slots Q (F0 m pc ls (.int (nI x) :: rest)) :=
  lv_if_ne hexec hb hdg ht (fun h => kt fun q => h (by rw [q]; rfl)) (fun h => kf ((nI_eq hx (by decide)).mp h))
theorem sf_if_le (hexec : p.tables.exec = Jvm.exec) (hb : c.code = cc) {x : Nat} (hx : x < 2 ^ 31) {off : Int} {tgt : Nat} (hdg : decode cc pc = .ok (.ifCond .le off, 3)) (ht : (pc : Int) + off = (tgt : Int)) (kt : x = 0 → W p l e R s m args below meth c H locs cells slots Q (F0 m tgt ls rest)) (kf : 0 < x → W p l e R s m args below meth c H locs cells slots Q (F0 m (pc + 3) ls rest)) : W p l e R s m args below meth c H locs cells slots Q (F0 m pc ls (.int (nI x) :: rest)) :=
  lv_if_le hexec hb hdg ht (fun h => kt (Nat.le_zero.mp ((nI_leI hx (by decide)).mp h))) (fun h => kf (Nat.pos_of_ne_zero fun q => h (by rw [q]; exact nI_le (Nat.le_refl 0) (by decide))))
end SFI
/-- what a method of no world-change answers -/
theorem sf_noloc {free : Addr → Prop} : ∀ q ∈ ([] : List Loc), free q.base := fun q h => by cases h
