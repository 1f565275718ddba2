/-! the small machine over which all methods are read: numbers are Int, references are places counted from 1 -/
def zin (i : Int) : Prop := -2147483648 ≤ i ∧ i ≤ 2147483647
abbrev zV : Type := Int ⊕ (Option Nat ⊕ UInt64)
abbrev zI (i : Int) : zV := Sum.inl i
abbrev zR (a : Nat) : zV := Sum.inr (Sum.inl (some a))
abbrev zU : zV := Sum.inr (Sum.inl none)
abbrev zD (x : UInt64) : zV := Sum.inr (Sum.inr x)
def zad (B b a : Nat) : Nat := if a = 0 then b else B + a
def ztr (B b : Nat) (v : zV) : Value := match v with
  | .inl i => .int (Int32.ofInt i)
  | .inr (.inl (some a)) => .ref (zad B b a)
  | .inr (.inl none) => .null
  | .inr (.inr x) => .double x
def zok (v : zV) : Prop := match v with
  | .inl i => zin i
  | _ => True
theorem zok_I {i : Int} (h : zin i) : zok (zI i) := h
theorem zok_R {a : Nat} : zok (zR a) := trivial
theorem zok_D {x : UInt64} : zok (zD x) := trivial
theorem zok_U : zok zU := trivial
abbrev zSP : Type := (Nat → Nat × Nat) × (Nat → Int → Option Nat) × Nat
abbrev zMe : Type := Nat → Int → Int
def zset {α : Type} (f : Nat → α) (a : Nat) (x : α) : Nat → α := fun j => if j = a then x else f j
def zup {α : Type} (f : Int → α) (a : Int) (x : α) : Int → α := fun j => if j = a then x else f j
theorem zset_eq {α : Type} (f : Nat → α) (a : Nat) (x : α) : zset f a x a = x := by simp [zset]
theorem zset_ne {α : Type} (f : Nat → α) (a : Nat) (x : α) {j : Nat} (h : j ≠ a) : zset f a x j = f j := by simp [zset, h]
theorem zup_eq {α : Type} (f : Int → α) (a : Int) (x : α) : zup f a x a = x := by simp [zup]
theorem zup_ne {α : Type} (f : Int → α) (a : Int) (x : α) {j : Int} (h : j ≠ a) : zup f a x j = f j := by simp [zup, h]
/-- the kinds of objects, in the order of the names -/
def zcl : List vw_C := [(RX0, TX0, 2), (RX1, TX1, 3), (RX2, TX2, 2), (RX3, TX3, 6), (RX4, TX4, 4), (RX5, TX5, 2), (RX6, TX6, 2), (RX7, TX7, 6), (RX8, TX8, 9), (RX8, TX8, 9)]
def zRn (c : Nat) : String := match c with
  | 0 => RX0 | 1 => RX1 | 2 => RX2 | 3 => RX3 | 4 => RX4 | 5 => RX5 | 6 => RX6 | 7 => RX7 | 8 => RX8 | _ => RX8
def zT (c : Nat) : u_T := match c with
  | 0 => TX0 | 1 => TX1 | 2 => TX2 | 3 => TX3 | 4 => TX4 | 5 => TX5 | 6 => TX6 | 7 => TX7 | 8 => TX8 | _ => TX8
def zN (c : Nat) : Nat := match c with
  | 0 => 2 | 1 => 3 | 2 => 2 | 3 => 6 | 4 => 4 | 5 => 2 | 6 => 2 | 7 => 6 | 8 => 9 | _ => 9
def zTy (c : Nat) : Nat → FieldType := match c with
  | 0 => tyX0 | 1 => tyX1 | 2 => tyX2 | 3 => tyX3 | 4 => tyX4 | 5 => tyX5 | 6 => tyX6 | 7 => tyX7 | 8 => tyX8 | _ => tyX8
theorem zc_10 {P : Nat → Prop} (h0 : P 0) (h1 : P 1) (h2 : P 2) (h3 : P 3) (h4 : P 4) (h5 : P 5) (h6 : P 6) (h7 : P 7) (h8 : P 8) (h9 : P 9) : ∀ c, c < 10 → P c := fun c h => match c, h with
  | 0, _ => h0 | 1, _ => h1 | 2, _ => h2 | 3, _ => h3 | 4, _ => h4 | 5, _ => h5 | 6, _ => h6 | 7, _ => h7 | 8, _ => h8 | 9, _ => h9
  | _ + 10, h => absurd h (by omega)
theorem zcl_at : ∀ c, c < 10 → zcl[c]? = some (zRn c, zT c, zN c) := zc_10 rfl rfl rfl rfl rfl rfl rfl rfl rfl rfl
theorem zty_ok : ∀ c, c < 10 → ∀ k, k < zN c → parseFieldDescriptor (zT c k).2.2.1 = some (zTy c k) := zc_10 tyX0_ok tyX1_ok tyX2_ok tyX3_ok tyX4_ok tyX5_ok tyX6_ok tyX7_ok tyX8_ok tyX8_ok
theorem znm_ok : ∀ c, c < 10 → ∀ a, a < zN c → ∀ b, b < zN c → a ≠ b → (zT c a).2.1 ≠ (zT c b).2.1 := zc_10 nmX0 nmX1 nmX2 nmX3 nmX4 nmX5 nmX6 nmX7 nmX8 nmX8
/-- the words of the tables that stay -/
def zG : List Jvm.Cond := lw_tbl.filter goodWord
theorem zG_of {w : Jvm.Cond} (h : w ∈ lw_tbl) (h2 : goodWord w = true) : w ∈ zG := List.mem_filter.mpr ⟨h, h2⟩
theorem zG_good : GoodIn zG zG := fun w h => ⟨h, good_of_word (List.mem_filter.mp h).2⟩
theorem zlay_in : ∀ c, c < 10 → ∀ w ∈ u_ws (zRn c) (zT c) (zN c), w ∈ lw_tbl ∧ goodWord w = true :=
  zc_10 (by decide +kernel) (by decide +kernel) (by decide +kernel) (by decide +kernel) (by decide +kernel) (by decide +kernel) (by decide +kernel) (by decide +kernel) (by decide +kernel) (by decide +kernel)
theorem zlay {c : Nat} (hc : c < 10) : ∀ w ∈ u_ws (zRn c) (zT c) (zN c), w ∈ zG := fun w h => zG_of (zlay_in c hc w h).1 (zlay_in c hc w h).2
def zNest (w : Jvm.Cond) : Bool := match w with
  | .fieldLinkNest _ _ _ _ _ _ => true
  | .methodLinkNest _ _ _ _ => true
  | _ => false
theorem zNest_on {w : Jvm.Cond} (h : zNest w = true) : w.onTables = true := by
  cases w <;> first | rfl | exact absurd h (by simp [zNest])
theorem zNest_warm {w : Jvm.Cond} (h : zNest w = true) {s U : State} (hW : s.WarmedH U.vm) (hZ : va_Nw w s) : va_Nw w U := by
  cases w <;> first | exact va_Nw.warmF hW hZ | exact va_Nw.warmM hW hZ | exact absurd h (by simp [zNest])
def zAO : List String := [RX4, RX7]
abbrev ztys (cA : Nat → ClassId) : List (ClassId × FieldType) := [(cA 0, .int), (cA 1, .int), (cA 2, .object RX4), (cA 3, .object RX7)]
def zRef (c k : Nat) : Bool := match zTy c k with
  | .int => false
  | .boolean => false
  | _ => true
def zcell (cA : Nat → ClassId) (B b : Nat) (sp : zSP) (me : zMe) (a : Nat) : va_E := match (sp.1 a).1 with
  | 1 => .inl (cA 0, (sp.1 a).2, .inl (fun j => Int32.ofInt (me a (j : Int))))
  | 2 => .inl (cA 1, (sp.1 a).2, .inl (fun j => Int32.ofInt (me a (j : Int))))
  | 3 => .inl (cA 2, (sp.1 a).2, .inr (.inr (.inr (.inr (fun j => (sp.2.1 a (j : Int)).map (zad B b))))))
  | 4 => .inl (cA 3, (sp.1 a).2, .inr (.inr (.inr (.inr (fun j => (sp.2.1 a (j : Int)).map (zad B b))))))
  | k => .inr (k - 10, (List.range (zN (k - 10))).map (fun j => if zRef (k - 10) j = true then va_rf ((sp.2.1 a (j : Int)).map (zad B b)) else .int (Int32.ofInt (me a (j : Int)))))
def zwf (sp : zSP) (me : zMe) : Prop := (∀ a, (sp.1 a).1 ≠ 0 → 1 ≤ a ∧ a ≤ sp.2.2) ∧ (∀ (a : Nat) (i : Int), zin (me a i)) ∧ (∀ (a : Nat) (i : Int), ((sp.1 a).1 = 1 ∨ (sp.1 a).1 = 2) → ¬ (0 ≤ i ∧ i < ((sp.1 a).2 : Int)) → me a i = 0) ∧ (∀ a, (sp.1 a).2 < 100000)
def zws (cA : Nat → ClassId) (B b : Nat) (sp : zSP) (me : zMe) : va_W := (List.range sp.2.2).map (fun i => (B + (i + 1), zcell cA B b sp me (i + 1)))
def zwd (D : va_G) (cA : Nat → ClassId) (B b : Nat) (sp : zSP) (me : zMe) (H : Heap) : Prop := va_P D zcl (zws cA B b sp me) H ∧ zwf sp me
theorem zws_get {cA : Nat → ClassId} {B b : Nat} {sp : zSP} {me : zMe} {a : Nat} (h1 : 1 ≤ a) (h2 : a ≤ sp.2.2) : (zws cA B b sp me)[a - 1]? = some (B + a, zcell cA B b sp me a) := by
  unfold zws
  have h3 : a - 1 < sp.2.2 := by omega
  have h4 : a - 1 + 1 = a := by omega
  simp [h3, h4]
theorem zws_inv {cA : Nat → ClassId} {B b : Nat} {sp : zSP} {me : zMe} {k : Nat} {q : Nat × va_E} (h : (zws cA B b sp me)[k]? = some q) : k < sp.2.2 ∧ q = (B + (k + 1), zcell cA B b sp me (k + 1)) := by
  unfold zws at h
  rw [List.getElem?_map] at h
  cases hk : (List.range sp.2.2)[k]? with
  | none => rw [hk] at h; cases h
  | some i =>
    rw [hk] at h
    have h5 := List.getElem?_eq_some_iff.mp hk
    obtain ⟨h6, h7⟩ := h5
    simp at h6 h7
    subst h7
    cases h
    exact ⟨h6, rfl⟩
theorem zws_D {cA : Nat → ClassId} {B b : Nat} {sp : zSP} {me : zMe} : va_D (fun q => B < q) (zws cA B b sp me) := by
  refine ⟨fun i j p q hi hj hpq => ?_, fun k q hk => ?_⟩
  · obtain ⟨-, rfl⟩ := zws_inv hi
    obtain ⟨-, rfl⟩ := zws_inv hj
    simp at hpq
    omega
  · obtain ⟨-, rfl⟩ := zws_inv hk
    show B < B + (k + 1)
    omega
theorem zcell_congr {cA : Nat → ClassId} {B b : Nat} {sp sp' : zSP} {me me' : zMe} {a : Nat} (h1 : sp'.1 a = sp.1 a) (h2 : sp'.2.1 a = sp.2.1 a) (h3 : me' a = me a) : zcell cA B b sp' me' a = zcell cA B b sp me a := by
  unfold zcell
  rw [h1, h2, h3]
theorem zws_set {cA : Nat → ClassId} {B b : Nat} {sp sp' : zSP} {me me' : zMe} {a : Nat} {E : va_E} (h1 : 1 ≤ a) (h2 : a ≤ sp.2.2) (hn : sp'.2.2 = sp.2.2) (hE : zcell cA B b sp' me' a = E) (ho : ∀ a', a' ≠ a → zcell cA B b sp' me' a' = zcell cA B b sp me a') : (zws cA B b sp me).set (a - 1) (B + a, E) = zws cA B b sp' me' := by
  apply List.ext_getElem?
  intro i
  unfold zws
  rw [hn, List.getElem?_set]
  by_cases hi : a - 1 = i
  · subst hi
    have h3 : a - 1 < sp.2.2 := by omega
    have h4 : a - 1 + 1 = a := by omega
    simp [h3, h4, hE]
  · rw [if_neg hi]
    by_cases hl : i < sp.2.2
    · have := ho (i + 1) (by omega)
      simp [hl, this]
    · simp [hl]
theorem zws_push {cA : Nat → ClassId} {B b : Nat} {sp sp' : zSP} {me me' : zMe} {E : va_E} (hn : sp'.2.2 = sp.2.2 + 1) (hE : zcell cA B b sp' me' (sp.2.2 + 1) = E) (ho : ∀ a', a' ≠ sp.2.2 + 1 → zcell cA B b sp' me' a' = zcell cA B b sp me a') : zws cA B b sp me ++ [(B + (sp.2.2 + 1), E)] = zws cA B b sp' me' := by
  unfold zws
  rw [hn, List.range_succ, List.map_append]
  congr 1
  · apply List.map_congr_left
    intro i hi
    rw [List.mem_range] at hi
    rw [ho (i + 1) (by omega)]
  · simp [hE]
/-- the locals -/
def zlc (B b : Nat) (ls : Array Slot) (nL : Nat) (L : List zV) : Prop := ls.size = nL ∧ lv_wf ls ∧ L.length = nL ∧ ∀ (i : Nat) (v : zV), L[i]? = some v → v ≠ zU → ls[i]? = some (.val (ztr B b v))
theorem zlc_at {B b : Nat} {ls : Array Slot} {nL : Nat} {L : List zV} (h : zlc B b ls nL L) {i : Nat} {v : zV} (hi : L[i]? = some v) (hv : v ≠ zU) : ls[i]? = some (.val (ztr B b v)) := h.2.2.2 i v hi hv
/-- the list that the kit's rows of stores speak of -/
def zll (B b : Nat) (L : List zV) : List (Nat × Value) := (List.range L.length).filterMap (fun i => match L[i]? with
  | some v => if v = zU then none else some (i, ztr B b v)
  | none => none)
theorem zll_mem {B b : Nat} {L : List zV} {q : Nat × Value} : q ∈ zll B b L ↔ ∃ v, L[q.1]? = some v ∧ v ≠ zU ∧ q.2 = ztr B b v := by
  unfold zll
  rw [List.mem_filterMap]
  constructor
  · rintro ⟨i, hi, h⟩
    cases hL : L[i]? with
    | none => rw [hL] at h; cases h
    | some v =>
      rw [hL] at h
      by_cases hv : v = zU
      · simp [hv] at h
      · simp [hv] at h
        subst h
        exact ⟨v, hL, hv, rfl⟩
  · rintro ⟨v, h1, h2, h3⟩
    refine ⟨q.1, ?_, ?_⟩
    · rw [List.mem_range]
      exact (List.getElem?_eq_some_iff.mp h1).1
    · simp only [h1]
      rw [if_neg h2, ← h3]
theorem zlc_ll {B b : Nat} {ls : Array Slot} {nL : Nat} {L : List zV} (h : zlc B b ls nL L) : lv_has ls nL (zll B b L) := by
  refine ⟨h.1, h.2.1, fun q hq => ?_⟩
  obtain ⟨v, h1, h2, h3⟩ := zll_mem.mp hq
  rw [h3]
  exact h.2.2.2 _ _ h1 h2
theorem zcat (B b : Nat) (v : zV) : (ztr B b v).category = 2 ↔ ∃ x, v = zD x := by
  rcases v with i | (_ | a) | x
  · simp [ztr, Value.category]
  · simp [ztr, Value.category]
  · simp [ztr, Value.category]
  · simp [ztr, Value.category]
/-- no double ends where a value is stored -/
def znd (L : List zV) (i : Nat) : Prop := ∀ (j : Nat) (x : UInt64), j + 1 = i → L[j]? ≠ some (zD x)
theorem zlc_set {B b : Nat} {ls : Array Slot} {nL : Nat} {L : List zV} {i : Nat} {v : zV} (hL : L.length = nL) (hd : znd L i) (h : lv_has ls nL ((i, ztr B b v) :: (zll B b L).filter (fun q => !(q.1 == i) && !(q.1 + 1 == i && q.2.category == 2)))) : zlc B b ls nL (L.set i v) := by
  refine ⟨h.1, h.2.1, by simp [hL], fun j w hj hw => ?_⟩
  rw [List.getElem?_set] at hj
  by_cases hij : i = j
  · subst hij
    rw [if_pos rfl] at hj
    by_cases hlt : i < L.length
    · rw [if_pos hlt] at hj
      cases hj
      exact h.2.2 (i, ztr B b v) List.mem_cons_self
    · rw [if_neg hlt] at hj; cases hj
  · rw [if_neg hij] at hj
    refine h.2.2 (j, ztr B b w) (List.mem_cons_of_mem _ (List.mem_filter.mpr ⟨zll_mem.mpr ⟨w, hj, hw, rfl⟩, ?_⟩))
    simp only [Bool.and_eq_true, Bool.not_eq_true', beq_eq_false_iff_ne, ne_eq, Bool.and_eq_false_iff]
    refine ⟨fun z => hij z.symm, ?_⟩
    by_cases hc : (ztr B b w).category = 2
    · obtain ⟨x, rfl⟩ := (zcat B b w).mp hc
      exact Or.inl (fun z => hd j x z hj)
    · exact Or.inr hc
theorem zlc_setD {B b : Nat} {ls : Array Slot} {nL : Nat} {L : List zV} {i : Nat} {x : UInt64} (hL : L.length = nL) (hd : znd L i) (h : lv_has ls nL ((i, Value.double x) :: (zll B b L).filter (fun q => !(q.1 == i) && (!(q.1 == i + 1) && !(q.1 + 1 == i && q.2.category == 2))))) : zlc B b ls nL ((L.set i (zD x)).set (i + 1) zU) := by
  refine ⟨h.1, h.2.1, by simp [hL], fun j w hj hw => ?_⟩
  rw [List.getElem?_set] at hj
  by_cases hij : i + 1 = j
  · rw [if_pos hij] at hj
    split at hj
    · cases hj; exact absurd rfl hw
    · cases hj
  · rw [if_neg hij, List.getElem?_set] at hj
    by_cases hij2 : i = j
    · subst hij2
      rw [if_pos rfl] at hj
      by_cases hlt : i < L.length
      · rw [if_pos hlt] at hj
        cases hj
        exact h.2.2 (i, Value.double x) List.mem_cons_self
      · rw [if_neg hlt] at hj; cases hj
    · rw [if_neg hij2] at hj
      refine h.2.2 (j, ztr B b w) (List.mem_cons_of_mem _ (List.mem_filter.mpr ⟨zll_mem.mpr ⟨w, hj, hw, rfl⟩, ?_⟩))
      simp only [Bool.and_eq_true, Bool.not_eq_true', beq_eq_false_iff_ne, ne_eq, Bool.and_eq_false_iff]
      refine ⟨fun z => hij2 z.symm, fun z => hij z.symm, ?_⟩
      by_cases hc : (ztr B b w).category = 2
      · obtain ⟨y, rfl⟩ := (zcat B b w).mp hc
        exact Or.inl (fun z => hd j y z hj)
      · exact Or.inr hc
/-- a method: its name, its bytes, its locals, what it returns, and the script where it is the law -/
abbrev zMd : Type := MethodName × ByteArray × Nat × Option FieldType × Option (Nat × (Int → Int))
abbrev zQ : Type := Option zV → zSP → zMe → Prop
def zRet (rt : Option FieldType) (ins : Instr) (v : Option zV) : Prop :=
  (rt = none ∧ ins = .return_ ∧ v = none) ∨ (rt = some .int ∧ ins = .ireturn ∧ ∃ i, v = some (zI i)) ∨ (rt = some .boolean ∧ ins = .ireturn ∧ ∃ i, v = some (zI i) ∧ (i = 0 ∨ i = 1)) ∨ (rt = some .double ∧ ins = .dreturn ∧ ∃ x, v = some (zD x)) ∨ ((∃ n, rt = some (.object n)) ∧ ins = .areturn ∧ ∃ a, v = some (zR a))
abbrev zA (B : Nat) : Nat → Prop := fun q => B < q
def zC (M : zMd) (d k1 k2 : Nat) (Q : zQ) (p : Program) (l : Launch) (e : Env) (R : Room) (s : State) (m : MethodId) (args : Array Value) (below : List Frame) (meth : Method) (c : Code) (D : va_G) (cA : Nat → ClassId) (B b : Nat) (Fin : State → Prop) : Prop :=
  p.tables.exec = Jvm.exec ∧ c.code = M.2.1 ∧ c.maxLocals = M.2.2.1 ∧ s.vm.findClass M.1.cls = some m.cls ∧ meth.name = M.1.name ∧ (∀ w ∈ zG, w.before args s = true) ∧ (∀ w ∈ lw_tbl, zNest w = true → va_Nw w s) ∧ (∀ C ∈ zAO, va_AO C s) ∧ va_K D zcl (ztys cA) s ∧ (d ≤ R.frames ∧ 64 * d + 64 ≤ R.locals) ∧ (k1 ≤ R.cells ∧ k2 ≤ R.slots) ∧ B < s.heap.size ∧
  (∀ N f, M.2.2.2.2 = some (N, f) → va_X b N (fun j => Int32.ofInt (f (j : Int))) s s.heap ∧ b ≤ B ∧ N < 100000 ∧ ∀ i, zin (f i)) ∧
  (∀ (v : Option zV) (sp : zSP) (me : zMe) (H : Heap) (locs : List Loc) (cells slots : Nat) (ls : Array Slot) (pc : Nat) (ins : Instr), Q v sp me → zwd D cA B b sp me H → va_S (zA B) s.heap H locs → B + sp.2.2 + 1 = s.heap.size + cells → cells = k1 → slots ≤ k2 → zRet M.2.2.2.1 ins v → decode M.2.1 pc = .ok (ins, 1) → (∀ x, v = some x → zok x) → W p l e R s m args below meth c H locs cells slots Fin (F0 m pc ls ((v.map (ztr B b)).toList)))
def zW (M : zMd) (d r1 r2 : Nat) (Q : zQ) (pc : Nat) (L st : List zV) (sp : zSP) (me : zMe) : Prop :=
  ∀ (k1 k2 : Nat) (p : Program) (l : Launch) (e : Env) (R : Room) (s : State) (m : MethodId) (args : Array Value) (below : List Frame) (meth : Method) (c : Code) (D : va_G) (cA : Nat → ClassId) (B b : Nat) (Fin : State → Prop), zC M d k1 k2 Q p l e R s m args below meth c D cA B b Fin →
  ∀ (H : Heap) (locs : List Loc) (cells slots : Nat) (ls : Array Slot), zlc B b ls M.2.2.1 L → zwd D cA B b sp me H → va_S (zA B) s.heap H locs → B + sp.2.2 + 1 = s.heap.size + cells → cells + r1 = k1 → slots + r2 ≤ k2 → (∀ v ∈ L, zok v) → (∀ v ∈ st, zok v) →
  W p l e R s m args below meth c H locs cells slots Fin (F0 m pc ls (st.map (ztr B b)))

theorem zs1 {a : zV} {st : List zV} (h : ∀ v ∈ a :: st, zok v) : ∀ v ∈ st, zok v := fun v hv => h v (List.mem_cons_of_mem _ hv)
theorem zs0 {a : zV} {st : List zV} (h : ∀ v ∈ a :: st, zok v) : zok a := h a List.mem_cons_self
theorem zsc {a : zV} {st : List zV} (h1 : zok a) (h : ∀ v ∈ st, zok v) : ∀ v ∈ a :: st, zok v := fun v hv => by
  rcases List.mem_cons.mp hv with rfl | hv
  · exact h1
  · exact h v hv
theorem zi_to {i : Int} (h : zin i) : (Int32.ofInt i).toInt = i := Int32.toInt_ofInt_of_le (Int.le_trans (by decide) h.1) (Int.lt_of_le_of_lt h.2 (by decide))
theorem zi_lt {x y : Int} (hx : zin x) (hy : zin y) : Int32.ofInt x < Int32.ofInt y ↔ x < y := by rw [Int32.lt_iff_toInt_lt, zi_to hx, zi_to hy]
theorem zi_le {x y : Int} (hx : zin x) (hy : zin y) : Int32.ofInt x ≤ Int32.ofInt y ↔ x ≤ y := by rw [Int32.le_iff_toInt_le, zi_to hx, zi_to hy]
theorem zi_eq {x y : Int} (hx : zin x) (hy : zin y) : Int32.ofInt x = Int32.ofInt y ↔ x = y := by rw [← Int32.toInt_inj, zi_to hx, zi_to hy]
theorem zi_00 : Int32.ofInt 0 = 0 := by decide
theorem zin_0 : zin 0 := by unfold zin; omega
theorem zi_cl {i : Int} (h : zin i) : (Int32.ofInt i).toNatClampNeg = i.toNat := by
  show ((Int32.ofInt i).toInt).toNat = i.toNat
  rw [zi_to h]
theorem zi_in {i : Int} {n : Nat} (h : zin i) (h0 : 0 ≤ i) (h1 : i < n) : vp_in (Int32.ofInt i) n := vp_in_iff.mpr (by rw [zi_to h]; exact ⟨h0, h1⟩)
theorem zi_nI {i : Int} (h : 0 ≤ i) : Int32.ofInt i = nI i.toNat := by
  have h2 : ((i.toNat : Nat) : Int) = i := Int.toNat_of_nonneg h
  rw [nI, ← Int32.ofInt_eq_ofNat, h2]
theorem zi_n (n : Nat) : Int32.ofInt (n : Int) = nI n := Int32.ofInt_eq_ofNat
def zand (x y : Int) : Int := (Int32.ofInt x &&& Int32.ofInt y).toInt
def zor (x y : Int) : Int := (Int32.ofInt x ||| Int32.ofInt y).toInt
theorem zin_to (x : Int32) : zin x.toInt := ⟨Int.le_trans (by decide) x.le_toInt, Int.le_of_lt_add_one (Int.lt_of_lt_of_le x.toInt_lt (by decide))⟩
theorem zi_sh : ∀ k : Nat, k < 32 → ((((Int32.ofInt (k : Int)) &&& 31).toBitVec.smod 32).toNat = k) := by decide +kernel
theorem zi_div {x y : Int} (hx : zin x) (hy : zin y) (h0 : 0 ≤ x) (h1 : 0 < y) : Int32.ofInt x / Int32.ofInt y = Int32.ofInt (x / y) := by
  obtain ⟨a, rfl⟩ := Int.eq_ofNat_of_zero_le h0
  obtain ⟨b, rfl⟩ := Int.eq_ofNat_of_zero_le (Int.le_of_lt h1)
  unfold zin at hx hy
  rw [zi_n, zi_n, pk_div (by omega) (by omega) (by omega), ← zi_n, Int.natCast_ediv]
theorem zi_rem {x y : Int} (hx : zin x) (hy : zin y) (h0 : 0 ≤ x) (h1 : 0 < y) : Int32.ofInt x - Int32.ofInt x / Int32.ofInt y * Int32.ofInt y = Int32.ofInt (x % y) := by
  obtain ⟨a, rfl⟩ := Int.eq_ofNat_of_zero_le h0
  obtain ⟨b, rfl⟩ := Int.eq_ofNat_of_zero_le (Int.le_of_lt h1)
  unfold zin at hx hy
  rw [zi_n, zi_n, pk_rem (by omega) (by omega) (by omega), ← zi_n, Int.natCast_emod]
theorem zi_shl {x s : Int} (hx : zin x) (h0 : 0 ≤ x) (h1 : 0 ≤ s) (h2 : s < 32) (h3 : zin (x * 2 ^ s.toNat)) : Int32.ofInt x <<< (Int32.ofInt s &&& 31) = Int32.ofInt (x * 2 ^ s.toNat) := by
  obtain ⟨a, rfl⟩ := Int.eq_ofNat_of_zero_le h0
  obtain ⟨k, rfl⟩ := Int.eq_ofNat_of_zero_le h1
  have e : ((a : Int) * 2 ^ (Int.toNat (k : Int))) = ((a * 2 ^ k : Nat) : Int) := by simp
  rw [e] at h3 ⊢
  unfold zin at h3
  rw [zi_n a, pk_shlN _ k (zi_sh k (by omega)) (by omega), zi_n]
theorem zi_shr {x s : Int} (hx : zin x) (h0 : 0 ≤ x) (h1 : 0 ≤ s) (h2 : s < 32) : Int32.ofInt x >>> (Int32.ofInt s &&& 31) = Int32.ofInt (x / 2 ^ s.toNat) := by
  obtain ⟨a, rfl⟩ := Int.eq_ofNat_of_zero_le h0
  obtain ⟨k, rfl⟩ := Int.eq_ofNat_of_zero_le h1
  have e : ((a : Int) / 2 ^ (Int.toNat (k : Int))) = ((a / 2 ^ k : Nat) : Int) := by simp
  unfold zin at hx
  rw [e, zi_n a, pk_shrN (by omega) _ k (zi_sh k (by omega)), zi_n]
theorem zin_div {x : Int} (hx : zin x) (h0 : 0 ≤ x) (y : Int) (h1 : 0 ≤ y) : zin (x / y) := by
  have h2 : x / y ≤ x := Int.ediv_le_self _ h0
  have h3 : 0 ≤ x / y := Int.ediv_nonneg h0 h1
  unfold zin at *
  omega
theorem zin_rem {y : Int} (hy : zin y) (h1 : 0 < y) (x : Int) : zin (x % y) := by
  have h2 := Int.emod_nonneg x (Int.ne_of_gt h1)
  have h3 := Int.emod_lt_of_pos x h1
  unfold zin at *
  omega
def zndb (L : List zV) (i : Nat) : Bool := match i with
  | 0 => true
  | j + 1 => match L[j]? with
    | some (Sum.inr (Sum.inr _)) => false
    | _ => true
theorem znd_of {L : List zV} {i : Nat} (h : zndb L i = true) : znd L i := by
  intro j x hj hx
  subst hj
  simp [zndb, hx] at h
section ZROWS
variable {M : zMd} {d r1 r2 : Nat} {Q : zQ} {pc pc' tgt : Nat} {L L' st : List zV} {sp : zSP} {me : zMe}

theorem z_iconst {n : Int} (dg : decode M.2.1 pc = .ok (.iconst n, 1)) (hp : pc + 1 = pc') (hr : zin n) (k : zW M d r1 r2 Q pc' L (zI n :: st) sp me) : zW M d r1 r2 Q pc L (st) sp me := by
  intro k1 k2 p l e R s m args below meth c D cA B b Fin C H locs cells slots ls hl hw hS hz hr1 hr2 hL hst
  have K := k k1 k2 p l e R s m args below meth c D cA B b Fin C H locs cells slots ls hl hw hS hz hr1 hr2 hL (zsc (zok_I hr) hst)
  have C0 := C
  obtain ⟨hx, hb, hml, hown, hname, hts, hnw, hao, hK, hroom, hbud, hBs, hscr, hret⟩ := C0
  subst hp
  show W p l e R s m args below meth c H locs cells slots Fin (F0 m pc ls (st.map (ztr B b)))
  refine lv_iconst hx hb dg rfl ?_
  exact K
theorem z_bipush {n : Int} (dg : decode M.2.1 pc = .ok (.bipush n, 2)) (hp : pc + 2 = pc') (hr : -128 ≤ n ∧ n ≤ 127) (k : zW M d r1 r2 Q pc' L (zI n :: st) sp me) : zW M d r1 r2 Q pc L (st) sp me := by
  intro k1 k2 p l e R s m args below meth c D cA B b Fin C H locs cells slots ls hl hw hS hz hr1 hr2 hL hst
  have K := k k1 k2 p l e R s m args below meth c D cA B b Fin C H locs cells slots ls hl hw hS hz hr1 hr2 hL (zsc (zok_I (by unfold zin; omega)) hst)
  have C0 := C
  obtain ⟨hx, hb, hml, hown, hname, hts, hnw, hao, hK, hroom, hbud, hBs, hscr, hret⟩ := C0
  subst hp
  show W p l e R s m args below meth c H locs cells slots Fin (F0 m pc ls (st.map (ztr B b)))
  refine lv_bipush hx hb dg (Int8.toInt32_ofInt (Int.le_trans (by decide) hr.1) (Int.le_trans hr.2 (by decide))) ?_
  exact K
theorem z_sipush {n : Int} (dg : decode M.2.1 pc = .ok (.sipush n, 3)) (hp : pc + 3 = pc') (hr : -32768 ≤ n ∧ n ≤ 32767) (k : zW M d r1 r2 Q pc' L (zI n :: st) sp me) : zW M d r1 r2 Q pc L (st) sp me := by
  intro k1 k2 p l e R s m args below meth c D cA B b Fin C H locs cells slots ls hl hw hS hz hr1 hr2 hL hst
  have K := k k1 k2 p l e R s m args below meth c D cA B b Fin C H locs cells slots ls hl hw hS hz hr1 hr2 hL (zsc (zok_I (by unfold zin; omega)) hst)
  have C0 := C
  obtain ⟨hx, hb, hml, hown, hname, hts, hnw, hao, hK, hroom, hbud, hBs, hscr, hret⟩ := C0
  subst hp
  show W p l e R s m args below meth c H locs cells slots Fin (F0 m pc ls (st.map (ztr B b)))
  refine lv_sipush hx hb dg (Int16.toInt32_ofInt (Int.le_trans (by decide) hr.1) (Int.le_trans hr.2 (by decide))) ?_
  exact K
theorem z_iload {i : Nat} {x : Int} (dg : decode M.2.1 pc = .ok (.iload i, 2)) (hp : pc + 2 = pc') (h : L[i]? = some (zI x)) (k : zW M d r1 r2 Q pc' L (zI x :: st) sp me) : zW M d r1 r2 Q pc L (st) sp me := by
  intro k1 k2 p l e R s m args below meth c D cA B b Fin C H locs cells slots ls hl hw hS hz hr1 hr2 hL hst
  have K := k k1 k2 p l e R s m args below meth c D cA B b Fin C H locs cells slots ls hl hw hS hz hr1 hr2 hL (zsc (hL _ (List.mem_of_getElem? h)) hst)
  have C0 := C
  obtain ⟨hx, hb, hml, hown, hname, hts, hnw, hao, hK, hroom, hbud, hBs, hscr, hret⟩ := C0
  subst hp
  show W p l e R s m args below meth c H locs cells slots Fin (F0 m pc ls (st.map (ztr B b)))
  refine lv_iload hx hb dg (zlc_at hl h (fun z => by cases z)) ?_
  exact K
theorem z_iload_n {j : Fin 4} {x : Int} (dg : decode M.2.1 pc = .ok (.iload_n j, 1)) (hp : pc + 1 = pc') (h : L[(j : Nat)]? = some (zI x)) (k : zW M d r1 r2 Q pc' L (zI x :: st) sp me) : zW M d r1 r2 Q pc L (st) sp me := by
  intro k1 k2 p l e R s m args below meth c D cA B b Fin C H locs cells slots ls hl hw hS hz hr1 hr2 hL hst
  have K := k k1 k2 p l e R s m args below meth c D cA B b Fin C H locs cells slots ls hl hw hS hz hr1 hr2 hL (zsc (hL _ (List.mem_of_getElem? h)) hst)
  have C0 := C
  obtain ⟨hx, hb, hml, hown, hname, hts, hnw, hao, hK, hroom, hbud, hBs, hscr, hret⟩ := C0
  subst hp
  show W p l e R s m args below meth c H locs cells slots Fin (F0 m pc ls (st.map (ztr B b)))
  refine lv_iload_n hx hb dg rfl (zlc_at hl h (fun z => by cases z)) ?_
  exact K
theorem z_aload {i : Nat} {x : Nat} (dg : decode M.2.1 pc = .ok (.aload i, 2)) (hp : pc + 2 = pc') (h : L[i]? = some (zR x)) (k : zW M d r1 r2 Q pc' L (zR x :: st) sp me) : zW M d r1 r2 Q pc L (st) sp me := by
  intro k1 k2 p l e R s m args below meth c D cA B b Fin C H locs cells slots ls hl hw hS hz hr1 hr2 hL hst
  have K := k k1 k2 p l e R s m args below meth c D cA B b Fin C H locs cells slots ls hl hw hS hz hr1 hr2 hL (zsc (hL _ (List.mem_of_getElem? h)) hst)
  have C0 := C
  obtain ⟨hx, hb, hml, hown, hname, hts, hnw, hao, hK, hroom, hbud, hBs, hscr, hret⟩ := C0
  subst hp
  show W p l e R s m args below meth c H locs cells slots Fin (F0 m pc ls (st.map (ztr B b)))
  refine lv_aload hx hb dg (zlc_at hl h (fun z => by cases z)) ?_
  exact K
theorem z_aload_n {j : Fin 4} {x : Nat} (dg : decode M.2.1 pc = .ok (.aload_n j, 1)) (hp : pc + 1 = pc') (h : L[(j : Nat)]? = some (zR x)) (k : zW M d r1 r2 Q pc' L (zR x :: st) sp me) : zW M d r1 r2 Q pc L (st) sp me := by
  intro k1 k2 p l e R s m args below meth c D cA B b Fin C H locs cells slots ls hl hw hS hz hr1 hr2 hL hst
  have K := k k1 k2 p l e R s m args below meth c D cA B b Fin C H locs cells slots ls hl hw hS hz hr1 hr2 hL (zsc (hL _ (List.mem_of_getElem? h)) hst)
  have C0 := C
  obtain ⟨hx, hb, hml, hown, hname, hts, hnw, hao, hK, hroom, hbud, hBs, hscr, hret⟩ := C0
  subst hp
  show W p l e R s m args below meth c H locs cells slots Fin (F0 m pc ls (st.map (ztr B b)))
  refine lv_aload_n hx hb dg rfl (zlc_at hl h (fun z => by cases z)) ?_
  exact K
theorem z_dload {i : Nat} {x : UInt64} (dg : decode M.2.1 pc = .ok (.dload i, 2)) (hp : pc + 2 = pc') (h : L[i]? = some (zD x)) (k : zW M d r1 r2 Q pc' L (zD x :: st) sp me) : zW M d r1 r2 Q pc L (st) sp me := by
  intro k1 k2 p l e R s m args below meth c D cA B b Fin C H locs cells slots ls hl hw hS hz hr1 hr2 hL hst
  have K := k k1 k2 p l e R s m args below meth c D cA B b Fin C H locs cells slots ls hl hw hS hz hr1 hr2 hL (zsc (hL _ (List.mem_of_getElem? h)) hst)
  have C0 := C
  obtain ⟨hx, hb, hml, hown, hname, hts, hnw, hao, hK, hroom, hbud, hBs, hscr, hret⟩ := C0
  subst hp
  show W p l e R s m args below meth c H locs cells slots Fin (F0 m pc ls (st.map (ztr B b)))
  refine lv_dload hx hb dg (zlc_at hl h (fun z => by cases z)) ?_
  exact K
theorem z_dload_n {j : Fin 4} {x : UInt64} (dg : decode M.2.1 pc = .ok (.dload_n j, 1)) (hp : pc + 1 = pc') (h : L[(j : Nat)]? = some (zD x)) (k : zW M d r1 r2 Q pc' L (zD x :: st) sp me) : zW M d r1 r2 Q pc L (st) sp me := by
  intro k1 k2 p l e R s m args below meth c D cA B b Fin C H locs cells slots ls hl hw hS hz hr1 hr2 hL hst
  have K := k k1 k2 p l e R s m args below meth c D cA B b Fin C H locs cells slots ls hl hw hS hz hr1 hr2 hL (zsc (hL _ (List.mem_of_getElem? h)) hst)
  have C0 := C
  obtain ⟨hx, hb, hml, hown, hname, hts, hnw, hao, hK, hroom, hbud, hBs, hscr, hret⟩ := C0
  subst hp
  show W p l e R s m args below meth c H locs cells slots Fin (F0 m pc ls (st.map (ztr B b)))
  refine lv_dload_n hx hb dg rfl (zlc_at hl h (fun z => by cases z)) ?_
  exact K
theorem z_iadd {x y : Int} (dg : decode M.2.1 pc = .ok (.iadd, 1)) (hp : pc + 1 = pc') (hr : zin (x + y)) (k : zW M d r1 r2 Q pc' L (zI (x + y) :: st) sp me) : zW M d r1 r2 Q pc L (zI y :: zI x :: st) sp me := by
  intro k1 k2 p l e R s m args below meth c D cA B b Fin C H locs cells slots ls hl hw hS hz hr1 hr2 hL hst
  have K := k k1 k2 p l e R s m args below meth c D cA B b Fin C H locs cells slots ls hl hw hS hz hr1 hr2 hL (zsc (zok_I (hr)) (zs1 (zs1 hst)))
  have C0 := C
  obtain ⟨hx, hb, hml, hown, hname, hts, hnw, hao, hK, hroom, hbud, hBs, hscr, hret⟩ := C0
  subst hp
  have hy : zin y := zs0 hst
  have hxx : zin x := zs0 (zs1 hst)
  show W p l e R s m args below meth c H locs cells slots Fin (F0 m pc ls (.int (Int32.ofInt y) :: .int (Int32.ofInt x) :: st.map (ztr B b)))
  refine lv_iadd hx hb dg ?_
  rw [← Int32.ofInt_add]; exact K
theorem z_isub {x y : Int} (dg : decode M.2.1 pc = .ok (.isub, 1)) (hp : pc + 1 = pc') (hr : zin (x - y)) (k : zW M d r1 r2 Q pc' L (zI (x - y) :: st) sp me) : zW M d r1 r2 Q pc L (zI y :: zI x :: st) sp me := by
  intro k1 k2 p l e R s m args below meth c D cA B b Fin C H locs cells slots ls hl hw hS hz hr1 hr2 hL hst
  have K := k k1 k2 p l e R s m args below meth c D cA B b Fin C H locs cells slots ls hl hw hS hz hr1 hr2 hL (zsc (zok_I (hr)) (zs1 (zs1 hst)))
  have C0 := C
  obtain ⟨hx, hb, hml, hown, hname, hts, hnw, hao, hK, hroom, hbud, hBs, hscr, hret⟩ := C0
  subst hp
  have hy : zin y := zs0 hst
  have hxx : zin x := zs0 (zs1 hst)
  show W p l e R s m args below meth c H locs cells slots Fin (F0 m pc ls (.int (Int32.ofInt y) :: .int (Int32.ofInt x) :: st.map (ztr B b)))
  refine lv_isub hx hb dg ?_
  rw [← Int32.ofInt_sub]; exact K
theorem z_imul {x y : Int} (dg : decode M.2.1 pc = .ok (.imul, 1)) (hp : pc + 1 = pc') (hr : zin (x * y)) (k : zW M d r1 r2 Q pc' L (zI (x * y) :: st) sp me) : zW M d r1 r2 Q pc L (zI y :: zI x :: st) sp me := by
  intro k1 k2 p l e R s m args below meth c D cA B b Fin C H locs cells slots ls hl hw hS hz hr1 hr2 hL hst
  have K := k k1 k2 p l e R s m args below meth c D cA B b Fin C H locs cells slots ls hl hw hS hz hr1 hr2 hL (zsc (zok_I (hr)) (zs1 (zs1 hst)))
  have C0 := C
  obtain ⟨hx, hb, hml, hown, hname, hts, hnw, hao, hK, hroom, hbud, hBs, hscr, hret⟩ := C0
  subst hp
  have hy : zin y := zs0 hst
  have hxx : zin x := zs0 (zs1 hst)
  show W p l e R s m args below meth c H locs cells slots Fin (F0 m pc ls (.int (Int32.ofInt y) :: .int (Int32.ofInt x) :: st.map (ztr B b)))
  refine lv_imul hx hb dg ?_
  rw [← Int32.ofInt_mul]; exact K
theorem z_idiv {x y : Int} (dg : decode M.2.1 pc = .ok (.idiv, 1)) (hp : pc + 1 = pc') (h0 : 0 ≤ x) (h1 : 0 < y) (k : zW M d r1 r2 Q pc' L (zI (x / y) :: st) sp me) : zW M d r1 r2 Q pc L (zI y :: zI x :: st) sp me := by
  intro k1 k2 p l e R s m args below meth c D cA B b Fin C H locs cells slots ls hl hw hS hz hr1 hr2 hL hst
  have K := k k1 k2 p l e R s m args below meth c D cA B b Fin C H locs cells slots ls hl hw hS hz hr1 hr2 hL (zsc (zok_I (zin_div (zs0 (zs1 hst)) h0 y (Int.le_of_lt h1))) (zs1 (zs1 hst)))
  have C0 := C
  obtain ⟨hx, hb, hml, hown, hname, hts, hnw, hao, hK, hroom, hbud, hBs, hscr, hret⟩ := C0
  subst hp
  have hy : zin y := zs0 hst
  have hxx : zin x := zs0 (zs1 hst)
  have hne : ¬ Int32.ofInt y = 0 := by rw [← zi_00, zi_eq hy zin_0]; omega
  show W p l e R s m args below meth c H locs cells slots Fin (F0 m pc ls (.int (Int32.ofInt y) :: .int (Int32.ofInt x) :: st.map (ztr B b)))
  refine lv_idiv hx hb dg hne ?_
  rw [zi_div hxx hy h0 h1]; exact K
theorem z_irem {x y : Int} (dg : decode M.2.1 pc = .ok (.irem, 1)) (hp : pc + 1 = pc') (h0 : 0 ≤ x) (h1 : 0 < y) (k : zW M d r1 r2 Q pc' L (zI (x % y) :: st) sp me) : zW M d r1 r2 Q pc L (zI y :: zI x :: st) sp me := by
  intro k1 k2 p l e R s m args below meth c D cA B b Fin C H locs cells slots ls hl hw hS hz hr1 hr2 hL hst
  have K := k k1 k2 p l e R s m args below meth c D cA B b Fin C H locs cells slots ls hl hw hS hz hr1 hr2 hL (zsc (zok_I (zin_rem (zs0 hst) h1 x)) (zs1 (zs1 hst)))
  have C0 := C
  obtain ⟨hx, hb, hml, hown, hname, hts, hnw, hao, hK, hroom, hbud, hBs, hscr, hret⟩ := C0
  subst hp
  have hy : zin y := zs0 hst
  have hxx : zin x := zs0 (zs1 hst)
  have hne : ¬ Int32.ofInt y = 0 := by rw [← zi_00, zi_eq hy zin_0]; omega
  show W p l e R s m args below meth c H locs cells slots Fin (F0 m pc ls (.int (Int32.ofInt y) :: .int (Int32.ofInt x) :: st.map (ztr B b)))
  refine lv_irem hx hb dg hne ?_
  rw [zi_rem hxx hy h0 h1]; exact K
theorem z_ishl {x y : Int} (dg : decode M.2.1 pc = .ok (.ishl, 1)) (hp : pc + 1 = pc') (h0 : 0 ≤ x) (h1 : 0 ≤ y) (h2 : y < 32) (hr : zin (x * 2 ^ y.toNat)) (k : zW M d r1 r2 Q pc' L (zI (x * 2 ^ y.toNat) :: st) sp me) : zW M d r1 r2 Q pc L (zI y :: zI x :: st) sp me := by
  intro k1 k2 p l e R s m args below meth c D cA B b Fin C H locs cells slots ls hl hw hS hz hr1 hr2 hL hst
  have K := k k1 k2 p l e R s m args below meth c D cA B b Fin C H locs cells slots ls hl hw hS hz hr1 hr2 hL (zsc (zok_I (hr)) (zs1 (zs1 hst)))
  have C0 := C
  obtain ⟨hx, hb, hml, hown, hname, hts, hnw, hao, hK, hroom, hbud, hBs, hscr, hret⟩ := C0
  subst hp
  have hy : zin y := zs0 hst
  have hxx : zin x := zs0 (zs1 hst)
  show W p l e R s m args below meth c H locs cells slots Fin (F0 m pc ls (.int (Int32.ofInt y) :: .int (Int32.ofInt x) :: st.map (ztr B b)))
  refine lv_ishl hx hb dg ?_
  rw [zi_shl hxx h0 h1 h2 hr]; exact K
theorem z_ishr {x y : Int} (dg : decode M.2.1 pc = .ok (.ishr, 1)) (hp : pc + 1 = pc') (h0 : 0 ≤ x) (h1 : 0 ≤ y) (h2 : y < 32) (k : zW M d r1 r2 Q pc' L (zI (x / 2 ^ y.toNat) :: st) sp me) : zW M d r1 r2 Q pc L (zI y :: zI x :: st) sp me := by
  intro k1 k2 p l e R s m args below meth c D cA B b Fin C H locs cells slots ls hl hw hS hz hr1 hr2 hL hst
  have K := k k1 k2 p l e R s m args below meth c D cA B b Fin C H locs cells slots ls hl hw hS hz hr1 hr2 hL (zsc (zok_I (zin_div (zs0 (zs1 hst)) h0 _ (Int.pow_nonneg (by decide)))) (zs1 (zs1 hst)))
  have C0 := C
  obtain ⟨hx, hb, hml, hown, hname, hts, hnw, hao, hK, hroom, hbud, hBs, hscr, hret⟩ := C0
  subst hp
  have hy : zin y := zs0 hst
  have hxx : zin x := zs0 (zs1 hst)
  show W p l e R s m args below meth c H locs cells slots Fin (F0 m pc ls (.int (Int32.ofInt y) :: .int (Int32.ofInt x) :: st.map (ztr B b)))
  refine lv_ishr hx hb dg ?_
  rw [zi_shr hxx h0 h1 h2]; exact K
theorem z_iand {x y : Int} (dg : decode M.2.1 pc = .ok (.iand, 1)) (hp : pc + 1 = pc')  (k : zW M d r1 r2 Q pc' L (zI (zand x y) :: st) sp me) : zW M d r1 r2 Q pc L (zI y :: zI x :: st) sp me := by
  intro k1 k2 p l e R s m args below meth c D cA B b Fin C H locs cells slots ls hl hw hS hz hr1 hr2 hL hst
  have K := k k1 k2 p l e R s m args below meth c D cA B b Fin C H locs cells slots ls hl hw hS hz hr1 hr2 hL (zsc (zok_I (zin_to _)) (zs1 (zs1 hst)))
  have C0 := C
  obtain ⟨hx, hb, hml, hown, hname, hts, hnw, hao, hK, hroom, hbud, hBs, hscr, hret⟩ := C0
  subst hp
  have hy : zin y := zs0 hst
  have hxx : zin x := zs0 (zs1 hst)
  show W p l e R s m args below meth c H locs cells slots Fin (F0 m pc ls (.int (Int32.ofInt y) :: .int (Int32.ofInt x) :: st.map (ztr B b)))
  refine lv_iand hx hb dg ?_
  have e : Int32.ofInt (zand x y) = Int32.ofInt x &&& Int32.ofInt y := Int32.ofInt_toInt _
  rw [← e]; exact K
theorem z_ior {x y : Int} (dg : decode M.2.1 pc = .ok (.ior, 1)) (hp : pc + 1 = pc')  (k : zW M d r1 r2 Q pc' L (zI (zor x y) :: st) sp me) : zW M d r1 r2 Q pc L (zI y :: zI x :: st) sp me := by
  intro k1 k2 p l e R s m args below meth c D cA B b Fin C H locs cells slots ls hl hw hS hz hr1 hr2 hL hst
  have K := k k1 k2 p l e R s m args below meth c D cA B b Fin C H locs cells slots ls hl hw hS hz hr1 hr2 hL (zsc (zok_I (zin_to _)) (zs1 (zs1 hst)))
  have C0 := C
  obtain ⟨hx, hb, hml, hown, hname, hts, hnw, hao, hK, hroom, hbud, hBs, hscr, hret⟩ := C0
  subst hp
  have hy : zin y := zs0 hst
  have hxx : zin x := zs0 (zs1 hst)
  show W p l e R s m args below meth c H locs cells slots Fin (F0 m pc ls (.int (Int32.ofInt y) :: .int (Int32.ofInt x) :: st.map (ztr B b)))
  refine lv_ior hx hb dg ?_
  have e : Int32.ofInt (zor x y) = Int32.ofInt x ||| Int32.ofInt y := Int32.ofInt_toInt _
  rw [← e]; exact K
theorem z_dupI {x : Int} (dg : decode M.2.1 pc = .ok (.dup, 1)) (hp : pc + 1 = pc')  (k : zW M d r1 r2 Q pc' L (zI x :: zI x :: st) sp me) : zW M d r1 r2 Q pc L (zI x :: st) sp me := by
  intro k1 k2 p l e R s m args below meth c D cA B b Fin C H locs cells slots ls hl hw hS hz hr1 hr2 hL hst
  have K := k k1 k2 p l e R s m args below meth c D cA B b Fin C H locs cells slots ls hl hw hS hz hr1 hr2 hL (zsc (zs0 hst) hst)
  have C0 := C
  obtain ⟨hx, hb, hml, hown, hname, hts, hnw, hao, hK, hroom, hbud, hBs, hscr, hret⟩ := C0
  subst hp
  show W p l e R s m args below meth c H locs cells slots Fin (F0 m pc ls (.int (Int32.ofInt x) :: st.map (ztr B b)))
  refine lv_dup hx hb dg rfl ?_
  exact K
theorem z_dupR {x : Nat} (dg : decode M.2.1 pc = .ok (.dup, 1)) (hp : pc + 1 = pc')  (k : zW M d r1 r2 Q pc' L (zR x :: zR x :: st) sp me) : zW M d r1 r2 Q pc L (zR x :: st) sp me := by
  intro k1 k2 p l e R s m args below meth c D cA B b Fin C H locs cells slots ls hl hw hS hz hr1 hr2 hL hst
  have K := k k1 k2 p l e R s m args below meth c D cA B b Fin C H locs cells slots ls hl hw hS hz hr1 hr2 hL (zsc (zs0 hst) hst)
  have C0 := C
  obtain ⟨hx, hb, hml, hown, hname, hts, hnw, hao, hK, hroom, hbud, hBs, hscr, hret⟩ := C0
  subst hp
  show W p l e R s m args below meth c H locs cells slots Fin (F0 m pc ls (.ref (zad B b x) :: st.map (ztr B b)))
  refine lv_dup hx hb dg rfl ?_
  exact K
theorem z_popI {x : Int} (dg : decode M.2.1 pc = .ok (.pop, 1)) (hp : pc + 1 = pc')  (k : zW M d r1 r2 Q pc' L (st) sp me) : zW M d r1 r2 Q pc L (zI x :: st) sp me := by
  intro k1 k2 p l e R s m args below meth c D cA B b Fin C H locs cells slots ls hl hw hS hz hr1 hr2 hL hst
  have K := k k1 k2 p l e R s m args below meth c D cA B b Fin C H locs cells slots ls hl hw hS hz hr1 hr2 hL (zs1 hst)
  have C0 := C
  obtain ⟨hx, hb, hml, hown, hname, hts, hnw, hao, hK, hroom, hbud, hBs, hscr, hret⟩ := C0
  subst hp
  show W p l e R s m args below meth c H locs cells slots Fin (F0 m pc ls (.int (Int32.ofInt x) :: st.map (ztr B b)))
  refine lv_pop hx hb dg rfl ?_
  exact K
theorem z_dup2 {x : Int} {a : Nat} (dg : decode M.2.1 pc = .ok (.dup2, 1)) (hp : pc + 1 = pc')  (k : zW M d r1 r2 Q pc' L (zI x :: zR a :: zI x :: zR a :: st) sp me) : zW M d r1 r2 Q pc L (zI x :: zR a :: st) sp me := by
  intro k1 k2 p l e R s m args below meth c D cA B b Fin C H locs cells slots ls hl hw hS hz hr1 hr2 hL hst
  have K := k k1 k2 p l e R s m args below meth c D cA B b Fin C H locs cells slots ls hl hw hS hz hr1 hr2 hL (zsc (zs0 hst) (zsc (zs0 (zs1 hst)) hst))
  have C0 := C
  obtain ⟨hx, hb, hml, hown, hname, hts, hnw, hao, hK, hroom, hbud, hBs, hscr, hret⟩ := C0
  subst hp
  show W p l e R s m args below meth c H locs cells slots Fin (F0 m pc ls (.int (Int32.ofInt x) :: .ref (zad B b a) :: st.map (ztr B b)))
  refine lv_dup2_11 hx hb dg rfl rfl ?_
  exact K
theorem z_i2d {x : Int} (dg : decode M.2.1 pc = .ok (.i2d, 1)) (hp : pc + 1 = pc')  (k : zW M d r1 r2 Q pc' L (zD (FP.i2d (Int32.ofInt x)) :: st) sp me) : zW M d r1 r2 Q pc L (zI x :: st) sp me := by
  intro k1 k2 p l e R s m args below meth c D cA B b Fin C H locs cells slots ls hl hw hS hz hr1 hr2 hL hst
  have K := k k1 k2 p l e R s m args below meth c D cA B b Fin C H locs cells slots ls hl hw hS hz hr1 hr2 hL (zsc zok_D (zs1 hst))
  have C0 := C
  obtain ⟨hx, hb, hml, hown, hname, hts, hnw, hao, hK, hroom, hbud, hBs, hscr, hret⟩ := C0
  subst hp
  show W p l e R s m args below meth c H locs cells slots Fin (F0 m pc ls (.int (Int32.ofInt x) :: st.map (ztr B b)))
  refine lv_i2d hx hb dg ?_
  exact K
theorem z_ddiv {x y : UInt64} (dg : decode M.2.1 pc = .ok (.ddiv, 1)) (hp : pc + 1 = pc') (hn : vf_n64 (FP.ddiv x y)) (k : zW M d r1 r2 Q pc' L (zD (FP.ddiv x y) :: st) sp me) : zW M d r1 r2 Q pc L (zD y :: zD x :: st) sp me := by
  intro k1 k2 p l e R s m args below meth c D cA B b Fin C H locs cells slots ls hl hw hS hz hr1 hr2 hL hst
  have K := k k1 k2 p l e R s m args below meth c D cA B b Fin C H locs cells slots ls hl hw hS hz hr1 hr2 hL (zsc zok_D (zs1 (zs1 hst)))
  have C0 := C
  obtain ⟨hx, hb, hml, hown, hname, hts, hnw, hao, hK, hroom, hbud, hBs, hscr, hret⟩ := C0
  subst hp
  show W p l e R s m args below meth c H locs cells slots Fin (F0 m pc ls (.double y :: .double x :: st.map (ztr B b)))
  refine lv_ddiv hx hb dg hn ?_
  exact K
theorem z_dcmp {x y : UInt64} {op : CmpOp} (dg : decode M.2.1 pc = .ok (.dcmp op, 1)) (hp : pc + 1 = pc')  (k : zW M d r1 r2 Q pc' L (zI (Op.cmpValue (FP.dcmp x y) op).toInt :: st) sp me) : zW M d r1 r2 Q pc L (zD y :: zD x :: st) sp me := by
  intro k1 k2 p l e R s m args below meth c D cA B b Fin C H locs cells slots ls hl hw hS hz hr1 hr2 hL hst
  have K := k k1 k2 p l e R s m args below meth c D cA B b Fin C H locs cells slots ls hl hw hS hz hr1 hr2 hL (zsc (zok_I (zin_to _)) (zs1 (zs1 hst)))
  have C0 := C
  obtain ⟨hx, hb, hml, hown, hname, hts, hnw, hao, hK, hroom, hbud, hBs, hscr, hret⟩ := C0
  subst hp
  show W p l e R s m args below meth c H locs cells slots Fin (F0 m pc ls (.double y :: .double x :: st.map (ztr B b)))
  refine lv_dcmp hx hb dg ?_
  rw [← Int32.ofInt_toInt (Op.cmpValue (FP.dcmp x y) op)]; exact K
theorem z_ldc2 {idx : Nat} {v : UInt64} (dg : decode M.2.1 pc = .ok (.ldc2_w idx, 3)) (hp : pc + 3 = pc') (hc : Jvm.Cond.constantDouble M.1.cls idx v ∈ zG) (k : zW M d r1 r2 Q pc' L (zD v :: st) sp me) : zW M d r1 r2 Q pc L (st) sp me := by
  intro k1 k2 p l e R s m args below meth c D cA B b Fin C H locs cells slots ls hl hw hS hz hr1 hr2 hL hst
  have K := k k1 k2 p l e R s m args below meth c D cA B b Fin C H locs cells slots ls hl hw hS hz hr1 hr2 hL (zsc zok_D hst)
  have C0 := C
  obtain ⟨hx, hb, hml, hown, hname, hts, hnw, hao, hK, hroom, hbud, hBs, hscr, hret⟩ := C0
  subst hp
  show W p l e R s m args below meth c H locs cells slots Fin (F0 m pc ls (st.map (ztr B b)))
  refine lv_ldc2d hx hb hown (hts _ hc) dg ?_
  exact K
theorem z_goto {off : Int} (dg : decode M.2.1 pc = .ok (.goto off, 3)) (ht : (pc : Int) + off = (tgt : Int)) (k : zW M d r1 r2 Q tgt L st sp me) : zW M d r1 r2 Q pc L st sp me := by
  intro k1 k2 p l e R s m args below meth c D cA B b Fin C H locs cells slots ls hl hw hS hz hr1 hr2 hL hst
  have K := k k1 k2 p l e R s m args below meth c D cA B b Fin C H locs cells slots ls hl hw hS hz hr1 hr2 hL hst
  have C0 := C
  obtain ⟨hx, hb, hml, hown, hname, hts, hnw, hao, hK, hroom, hbud, hBs, hscr, hret⟩ := C0
  exact lv_goto hx hb dg ht K
theorem z_icmp_eq {x y : Int} {off : Int} (dg : decode M.2.1 pc = .ok (.if_icmp .eq off, 3)) (ht : (pc : Int) + off = (tgt : Int)) (hp : pc + 3 = pc') (kt : x = y → zW M d r1 r2 Q tgt L st sp me) (kf : x ≠ y → zW M d r1 r2 Q pc' L st sp me) : zW M d r1 r2 Q pc L (zI y :: zI x :: st) sp me := by
  intro k1 k2 p l e R s m args below meth c D cA B b Fin C H locs cells slots ls hl hw hS hz hr1 hr2 hL hst
  have hy : zin y := zs0 hst
  have hxx : zin x := zs0 (zs1 hst)
  have kt' := fun z : x = y => kt z k1 k2 p l e R s m args below meth c D cA B b Fin C H locs cells slots ls hl hw hS hz hr1 hr2 hL (zs1 (zs1 hst))
  have kf' := fun z : x ≠ y => kf z k1 k2 p l e R s m args below meth c D cA B b Fin C H locs cells slots ls hl hw hS hz hr1 hr2 hL (zs1 (zs1 hst))
  have C0 := C
  obtain ⟨hx, hb, hml, hown, hname, hts, hnw, hao, hK, hroom, hbud, hBs, hscr, hret⟩ := C0
  subst hp
  show W p l e R s m args below meth c H locs cells slots Fin (F0 m pc ls (.int (Int32.ofInt y) :: .int (Int32.ofInt x) :: st.map (ztr B b)))
  exact lv_icmp_eq hx hb dg ht (fun hq => kt' (by exact (zi_eq hxx hy).mp hq)) (fun hq => kf' (by exact fun g => hq ((zi_eq hxx hy).mpr g)))
theorem z_if_eq {x : Int} {off : Int} (dg : decode M.2.1 pc = .ok (.ifCond .eq off, 3)) (ht : (pc : Int) + off = (tgt : Int)) (hp : pc + 3 = pc') (kt : x = 0 → zW M d r1 r2 Q tgt L st sp me) (kf : x ≠ 0 → zW M d r1 r2 Q pc' L st sp me) : zW M d r1 r2 Q pc L (zI x :: st) sp me := by
  intro k1 k2 p l e R s m args below meth c D cA B b Fin C H locs cells slots ls hl hw hS hz hr1 hr2 hL hst
  have hy : zin (0 : Int) := zin_0
  have hxx : zin x := zs0 hst
  have kt' := fun z : x = 0 => kt z k1 k2 p l e R s m args below meth c D cA B b Fin C H locs cells slots ls hl hw hS hz hr1 hr2 hL (zs1 hst)
  have kf' := fun z : x ≠ 0 => kf z k1 k2 p l e R s m args below meth c D cA B b Fin C H locs cells slots ls hl hw hS hz hr1 hr2 hL (zs1 hst)
  have C0 := C
  obtain ⟨hx, hb, hml, hown, hname, hts, hnw, hao, hK, hroom, hbud, hBs, hscr, hret⟩ := C0
  subst hp
  show W p l e R s m args below meth c H locs cells slots Fin (F0 m pc ls (.int (Int32.ofInt x) :: st.map (ztr B b)))
  exact lv_if_eq hx hb dg ht (fun hq => kt' (by rw [← zi_00] at hq; exact (zi_eq hxx hy).mp hq)) (fun hq => kf' (by rw [← zi_00] at hq; exact fun g => hq ((zi_eq hxx hy).mpr g)))
theorem z_icmp_ne {x y : Int} {off : Int} (dg : decode M.2.1 pc = .ok (.if_icmp .ne off, 3)) (ht : (pc : Int) + off = (tgt : Int)) (hp : pc + 3 = pc') (kt : x ≠ y → zW M d r1 r2 Q tgt L st sp me) (kf : x = y → zW M d r1 r2 Q pc' L st sp me) : zW M d r1 r2 Q pc L (zI y :: zI x :: st) sp me := by
  intro k1 k2 p l e R s m args below meth c D cA B b Fin C H locs cells slots ls hl hw hS hz hr1 hr2 hL hst
  have hy : zin y := zs0 hst
  have hxx : zin x := zs0 (zs1 hst)
  have kt' := fun z : x ≠ y => kt z k1 k2 p l e R s m args below meth c D cA B b Fin C H locs cells slots ls hl hw hS hz hr1 hr2 hL (zs1 (zs1 hst))
  have kf' := fun z : x = y => kf z k1 k2 p l e R s m args below meth c D cA B b Fin C H locs cells slots ls hl hw hS hz hr1 hr2 hL (zs1 (zs1 hst))
  have C0 := C
  obtain ⟨hx, hb, hml, hown, hname, hts, hnw, hao, hK, hroom, hbud, hBs, hscr, hret⟩ := C0
  subst hp
  show W p l e R s m args below meth c H locs cells slots Fin (F0 m pc ls (.int (Int32.ofInt y) :: .int (Int32.ofInt x) :: st.map (ztr B b)))
  exact lv_icmp_ne hx hb dg ht (fun hq => kt' (by exact fun g => hq ((zi_eq hxx hy).mpr g))) (fun hq => kf' (by exact (zi_eq hxx hy).mp hq))
theorem z_if_ne {x : Int} {off : Int} (dg : decode M.2.1 pc = .ok (.ifCond .ne off, 3)) (ht : (pc : Int) + off = (tgt : Int)) (hp : pc + 3 = pc') (kt : x ≠ 0 → zW M d r1 r2 Q tgt L st sp me) (kf : x = 0 → zW M d r1 r2 Q pc' L st sp me) : zW M d r1 r2 Q pc L (zI x :: st) sp me := by
  intro k1 k2 p l e R s m args below meth c D cA B b Fin C H locs cells slots ls hl hw hS hz hr1 hr2 hL hst
  have hy : zin (0 : Int) := zin_0
  have hxx : zin x := zs0 hst
  have kt' := fun z : x ≠ 0 => kt z k1 k2 p l e R s m args below meth c D cA B b Fin C H locs cells slots ls hl hw hS hz hr1 hr2 hL (zs1 hst)
  have kf' := fun z : x = 0 => kf z k1 k2 p l e R s m args below meth c D cA B b Fin C H locs cells slots ls hl hw hS hz hr1 hr2 hL (zs1 hst)
  have C0 := C
  obtain ⟨hx, hb, hml, hown, hname, hts, hnw, hao, hK, hroom, hbud, hBs, hscr, hret⟩ := C0
  subst hp
  show W p l e R s m args below meth c H locs cells slots Fin (F0 m pc ls (.int (Int32.ofInt x) :: st.map (ztr B b)))
  exact lv_if_ne hx hb dg ht (fun hq => kt' (by rw [← zi_00] at hq; exact fun g => hq ((zi_eq hxx hy).mpr g))) (fun hq => kf' (by rw [← zi_00] at hq; exact (zi_eq hxx hy).mp hq))
theorem z_icmp_lt {x y : Int} {off : Int} (dg : decode M.2.1 pc = .ok (.if_icmp .lt off, 3)) (ht : (pc : Int) + off = (tgt : Int)) (hp : pc + 3 = pc') (kt : x < y → zW M d r1 r2 Q tgt L st sp me) (kf : y ≤ x → zW M d r1 r2 Q pc' L st sp me) : zW M d r1 r2 Q pc L (zI y :: zI x :: st) sp me := by
  intro k1 k2 p l e R s m args below meth c D cA B b Fin C H locs cells slots ls hl hw hS hz hr1 hr2 hL hst
  have hy : zin y := zs0 hst
  have hxx : zin x := zs0 (zs1 hst)
  have kt' := fun z : x < y => kt z k1 k2 p l e R s m args below meth c D cA B b Fin C H locs cells slots ls hl hw hS hz hr1 hr2 hL (zs1 (zs1 hst))
  have kf' := fun z : y ≤ x => kf z k1 k2 p l e R s m args below meth c D cA B b Fin C H locs cells slots ls hl hw hS hz hr1 hr2 hL (zs1 (zs1 hst))
  have C0 := C
  obtain ⟨hx, hb, hml, hown, hname, hts, hnw, hao, hK, hroom, hbud, hBs, hscr, hret⟩ := C0
  subst hp
  show W p l e R s m args below meth c H locs cells slots Fin (F0 m pc ls (.int (Int32.ofInt y) :: .int (Int32.ofInt x) :: st.map (ztr B b)))
  exact lv_icmp_lt hx hb dg ht (fun hq => kt' (by exact (zi_lt hxx hy).mp hq)) (fun hq => kf' (by exact Int.not_lt.mp (fun g => hq ((zi_lt hxx hy).mpr g))))
theorem z_if_lt {x : Int} {off : Int} (dg : decode M.2.1 pc = .ok (.ifCond .lt off, 3)) (ht : (pc : Int) + off = (tgt : Int)) (hp : pc + 3 = pc') (kt : x < 0 → zW M d r1 r2 Q tgt L st sp me) (kf : 0 ≤ x → zW M d r1 r2 Q pc' L st sp me) : zW M d r1 r2 Q pc L (zI x :: st) sp me := by
  intro k1 k2 p l e R s m args below meth c D cA B b Fin C H locs cells slots ls hl hw hS hz hr1 hr2 hL hst
  have hy : zin (0 : Int) := zin_0
  have hxx : zin x := zs0 hst
  have kt' := fun z : x < 0 => kt z k1 k2 p l e R s m args below meth c D cA B b Fin C H locs cells slots ls hl hw hS hz hr1 hr2 hL (zs1 hst)
  have kf' := fun z : 0 ≤ x => kf z k1 k2 p l e R s m args below meth c D cA B b Fin C H locs cells slots ls hl hw hS hz hr1 hr2 hL (zs1 hst)
  have C0 := C
  obtain ⟨hx, hb, hml, hown, hname, hts, hnw, hao, hK, hroom, hbud, hBs, hscr, hret⟩ := C0
  subst hp
  show W p l e R s m args below meth c H locs cells slots Fin (F0 m pc ls (.int (Int32.ofInt x) :: st.map (ztr B b)))
  exact lv_if_lt hx hb dg ht (fun hq => kt' (by rw [← zi_00] at hq; exact (zi_lt hxx hy).mp hq)) (fun hq => kf' (by rw [← zi_00] at hq; exact Int.not_lt.mp (fun g => hq ((zi_lt hxx hy).mpr g))))
theorem z_icmp_ge {x y : Int} {off : Int} (dg : decode M.2.1 pc = .ok (.if_icmp .ge off, 3)) (ht : (pc : Int) + off = (tgt : Int)) (hp : pc + 3 = pc') (kt : y ≤ x → zW M d r1 r2 Q tgt L st sp me) (kf : x < y → zW M d r1 r2 Q pc' L st sp me) : zW M d r1 r2 Q pc L (zI y :: zI x :: st) sp me := by
  intro k1 k2 p l e R s m args below meth c D cA B b Fin C H locs cells slots ls hl hw hS hz hr1 hr2 hL hst
  have hy : zin y := zs0 hst
  have hxx : zin x := zs0 (zs1 hst)
  have kt' := fun z : y ≤ x => kt z k1 k2 p l e R s m args below meth c D cA B b Fin C H locs cells slots ls hl hw hS hz hr1 hr2 hL (zs1 (zs1 hst))
  have kf' := fun z : x < y => kf z k1 k2 p l e R s m args below meth c D cA B b Fin C H locs cells slots ls hl hw hS hz hr1 hr2 hL (zs1 (zs1 hst))
  have C0 := C
  obtain ⟨hx, hb, hml, hown, hname, hts, hnw, hao, hK, hroom, hbud, hBs, hscr, hret⟩ := C0
  subst hp
  show W p l e R s m args below meth c H locs cells slots Fin (F0 m pc ls (.int (Int32.ofInt y) :: .int (Int32.ofInt x) :: st.map (ztr B b)))
  exact lv_icmp_ge hx hb dg ht (fun hq => kt' (by exact (zi_le hy hxx).mp hq)) (fun hq => kf' (by exact Int.not_le.mp (fun g => hq ((zi_le hy hxx).mpr g))))
theorem z_if_ge {x : Int} {off : Int} (dg : decode M.2.1 pc = .ok (.ifCond .ge off, 3)) (ht : (pc : Int) + off = (tgt : Int)) (hp : pc + 3 = pc') (kt : 0 ≤ x → zW M d r1 r2 Q tgt L st sp me) (kf : x < 0 → zW M d r1 r2 Q pc' L st sp me) : zW M d r1 r2 Q pc L (zI x :: st) sp me := by
  intro k1 k2 p l e R s m args below meth c D cA B b Fin C H locs cells slots ls hl hw hS hz hr1 hr2 hL hst
  have hy : zin (0 : Int) := zin_0
  have hxx : zin x := zs0 hst
  have kt' := fun z : 0 ≤ x => kt z k1 k2 p l e R s m args below meth c D cA B b Fin C H locs cells slots ls hl hw hS hz hr1 hr2 hL (zs1 hst)
  have kf' := fun z : x < 0 => kf z k1 k2 p l e R s m args below meth c D cA B b Fin C H locs cells slots ls hl hw hS hz hr1 hr2 hL (zs1 hst)
  have C0 := C
  obtain ⟨hx, hb, hml, hown, hname, hts, hnw, hao, hK, hroom, hbud, hBs, hscr, hret⟩ := C0
  subst hp
  show W p l e R s m args below meth c H locs cells slots Fin (F0 m pc ls (.int (Int32.ofInt x) :: st.map (ztr B b)))
  exact lv_if_ge hx hb dg ht (fun hq => kt' (by rw [← zi_00] at hq; exact (zi_le hy hxx).mp hq)) (fun hq => kf' (by rw [← zi_00] at hq; exact Int.not_le.mp (fun g => hq ((zi_le hy hxx).mpr g))))
theorem z_icmp_gt {x y : Int} {off : Int} (dg : decode M.2.1 pc = .ok (.if_icmp .gt off, 3)) (ht : (pc : Int) + off = (tgt : Int)) (hp : pc + 3 = pc') (kt : y < x → zW M d r1 r2 Q tgt L st sp me) (kf : x ≤ y → zW M d r1 r2 Q pc' L st sp me) : zW M d r1 r2 Q pc L (zI y :: zI x :: st) sp me := by
  intro k1 k2 p l e R s m args below meth c D cA B b Fin C H locs cells slots ls hl hw hS hz hr1 hr2 hL hst
  have hy : zin y := zs0 hst
  have hxx : zin x := zs0 (zs1 hst)
  have kt' := fun z : y < x => kt z k1 k2 p l e R s m args below meth c D cA B b Fin C H locs cells slots ls hl hw hS hz hr1 hr2 hL (zs1 (zs1 hst))
  have kf' := fun z : x ≤ y => kf z k1 k2 p l e R s m args below meth c D cA B b Fin C H locs cells slots ls hl hw hS hz hr1 hr2 hL (zs1 (zs1 hst))
  have C0 := C
  obtain ⟨hx, hb, hml, hown, hname, hts, hnw, hao, hK, hroom, hbud, hBs, hscr, hret⟩ := C0
  subst hp
  show W p l e R s m args below meth c H locs cells slots Fin (F0 m pc ls (.int (Int32.ofInt y) :: .int (Int32.ofInt x) :: st.map (ztr B b)))
  exact lv_icmp_gt hx hb dg ht (fun hq => kt' (by exact (zi_lt hy hxx).mp hq)) (fun hq => kf' (by exact Int.not_lt.mp (fun g => hq ((zi_lt hy hxx).mpr g))))
theorem z_if_gt {x : Int} {off : Int} (dg : decode M.2.1 pc = .ok (.ifCond .gt off, 3)) (ht : (pc : Int) + off = (tgt : Int)) (hp : pc + 3 = pc') (kt : 0 < x → zW M d r1 r2 Q tgt L st sp me) (kf : x ≤ 0 → zW M d r1 r2 Q pc' L st sp me) : zW M d r1 r2 Q pc L (zI x :: st) sp me := by
  intro k1 k2 p l e R s m args below meth c D cA B b Fin C H locs cells slots ls hl hw hS hz hr1 hr2 hL hst
  have hy : zin (0 : Int) := zin_0
  have hxx : zin x := zs0 hst
  have kt' := fun z : 0 < x => kt z k1 k2 p l e R s m args below meth c D cA B b Fin C H locs cells slots ls hl hw hS hz hr1 hr2 hL (zs1 hst)
  have kf' := fun z : x ≤ 0 => kf z k1 k2 p l e R s m args below meth c D cA B b Fin C H locs cells slots ls hl hw hS hz hr1 hr2 hL (zs1 hst)
  have C0 := C
  obtain ⟨hx, hb, hml, hown, hname, hts, hnw, hao, hK, hroom, hbud, hBs, hscr, hret⟩ := C0
  subst hp
  show W p l e R s m args below meth c H locs cells slots Fin (F0 m pc ls (.int (Int32.ofInt x) :: st.map (ztr B b)))
  exact lv_if_gt hx hb dg ht (fun hq => kt' (by rw [← zi_00] at hq; exact (zi_lt hy hxx).mp hq)) (fun hq => kf' (by rw [← zi_00] at hq; exact Int.not_lt.mp (fun g => hq ((zi_lt hy hxx).mpr g))))
theorem z_icmp_le {x y : Int} {off : Int} (dg : decode M.2.1 pc = .ok (.if_icmp .le off, 3)) (ht : (pc : Int) + off = (tgt : Int)) (hp : pc + 3 = pc') (kt : x ≤ y → zW M d r1 r2 Q tgt L st sp me) (kf : y < x → zW M d r1 r2 Q pc' L st sp me) : zW M d r1 r2 Q pc L (zI y :: zI x :: st) sp me := by
  intro k1 k2 p l e R s m args below meth c D cA B b Fin C H locs cells slots ls hl hw hS hz hr1 hr2 hL hst
  have hy : zin y := zs0 hst
  have hxx : zin x := zs0 (zs1 hst)
  have kt' := fun z : x ≤ y => kt z k1 k2 p l e R s m args below meth c D cA B b Fin C H locs cells slots ls hl hw hS hz hr1 hr2 hL (zs1 (zs1 hst))
  have kf' := fun z : y < x => kf z k1 k2 p l e R s m args below meth c D cA B b Fin C H locs cells slots ls hl hw hS hz hr1 hr2 hL (zs1 (zs1 hst))
  have C0 := C
  obtain ⟨hx, hb, hml, hown, hname, hts, hnw, hao, hK, hroom, hbud, hBs, hscr, hret⟩ := C0
  subst hp
  show W p l e R s m args below meth c H locs cells slots Fin (F0 m pc ls (.int (Int32.ofInt y) :: .int (Int32.ofInt x) :: st.map (ztr B b)))
  exact lv_icmp_le hx hb dg ht (fun hq => kt' (by exact (zi_le hxx hy).mp hq)) (fun hq => kf' (by exact Int.not_le.mp (fun g => hq ((zi_le hxx hy).mpr g))))
theorem z_if_le {x : Int} {off : Int} (dg : decode M.2.1 pc = .ok (.ifCond .le off, 3)) (ht : (pc : Int) + off = (tgt : Int)) (hp : pc + 3 = pc') (kt : x ≤ 0 → zW M d r1 r2 Q tgt L st sp me) (kf : 0 < x → zW M d r1 r2 Q pc' L st sp me) : zW M d r1 r2 Q pc L (zI x :: st) sp me := by
  intro k1 k2 p l e R s m args below meth c D cA B b Fin C H locs cells slots ls hl hw hS hz hr1 hr2 hL hst
  have hy : zin (0 : Int) := zin_0
  have hxx : zin x := zs0 hst
  have kt' := fun z : x ≤ 0 => kt z k1 k2 p l e R s m args below meth c D cA B b Fin C H locs cells slots ls hl hw hS hz hr1 hr2 hL (zs1 hst)
  have kf' := fun z : 0 < x => kf z k1 k2 p l e R s m args below meth c D cA B b Fin C H locs cells slots ls hl hw hS hz hr1 hr2 hL (zs1 hst)
  have C0 := C
  obtain ⟨hx, hb, hml, hown, hname, hts, hnw, hao, hK, hroom, hbud, hBs, hscr, hret⟩ := C0
  subst hp
  show W p l e R s m args below meth c H locs cells slots Fin (F0 m pc ls (.int (Int32.ofInt x) :: st.map (ztr B b)))
  exact lv_if_le hx hb dg ht (fun hq => kt' (by rw [← zi_00] at hq; exact (zi_le hxx hy).mp hq)) (fun hq => kf' (by rw [← zi_00] at hq; exact Int.not_le.mp (fun g => hq ((zi_le hxx hy).mpr g))))
theorem z_tswIn {x dflt lo hi off : Int} {offs : Array Int} {len : Nat} (dg : decode M.2.1 pc = .ok (.tableswitch dflt lo hi offs, len)) (h1 : lo ≤ x) (h2 : x ≤ hi) (ho : offs[(x - lo).toNat]? = some off) (ht : (pc : Int) + off = (tgt : Int)) (k : zW M d r1 r2 Q tgt L st sp me) : zW M d r1 r2 Q pc L (zI x :: st) sp me := by
  intro k1 k2 p l e R s m args below meth c D cA B b Fin C H locs cells slots ls hl hw hS hz hr1 hr2 hL hst
  have hxx : zin x := zs0 hst
  have K := k k1 k2 p l e R s m args below meth c D cA B b Fin C H locs cells slots ls hl hw hS hz hr1 hr2 hL (zs1 hst)
  have C0 := C
  obtain ⟨hx, hb, hml, hown, hname, hts, hnw, hao, hK, hroom, hbud, hBs, hscr, hret⟩ := C0
  show W p l e R s m args below meth c H locs cells slots Fin (F0 m pc ls (.int (Int32.ofInt x) :: st.map (ztr B b)))
  exact lv_tableIn hx hb dg (by rw [zi_to hxx]; omega) (by rw [zi_to hxx]; omega) (by rw [zi_to hxx]; exact ho) ht K
theorem z_tswOut {x dflt lo hi : Int} {offs : Array Int} {len : Nat} (dg : decode M.2.1 pc = .ok (.tableswitch dflt lo hi offs, len)) (h : x < lo ∨ hi < x) (ht : (pc : Int) + dflt = (tgt : Int)) (k : zW M d r1 r2 Q tgt L st sp me) : zW M d r1 r2 Q pc L (zI x :: st) sp me := by
  intro k1 k2 p l e R s m args below meth c D cA B b Fin C H locs cells slots ls hl hw hS hz hr1 hr2 hL hst
  have hxx : zin x := zs0 hst
  have K := k k1 k2 p l e R s m args below meth c D cA B b Fin C H locs cells slots ls hl hw hS hz hr1 hr2 hL (zs1 hst)
  have C0 := C
  obtain ⟨hx, hb, hml, hown, hname, hts, hnw, hao, hK, hroom, hbud, hBs, hscr, hret⟩ := C0
  show W p l e R s m args below meth c H locs cells slots Fin (F0 m pc ls (.int (Int32.ofInt x) :: st.map (ztr B b)))
  exact lv_tableOut hx hb dg (by rw [zi_to hxx]; exact h) ht K
theorem z_istore {i : Nat} {x : Int} (dg : decode M.2.1 pc = .ok (.istore i, 2)) (hp : pc + 2 = pc') (hi : i < L.length) (hd : zndb L i = true) (hL' : L.set i (zI x) = L') (k : zW M d r1 r2 Q pc' L' st sp me) : zW M d r1 r2 Q pc L (zI x :: st) sp me := by
  intro k1 k2 p l e R s m args below meth c D cA B b Fin C H locs cells slots ls hl hw hS hz hr1 hr2 hL hst
  have C0 := C
  obtain ⟨hx, hb, hml, hown, hname, hts, hnw, hao, hK, hroom, hbud, hBs, hscr, hret⟩ := C0
  subst hp
  subst hL'
  show W p l e R s m args below meth c H locs cells slots Fin (F0 m pc ls (.int (Int32.ofInt x) :: st.map (ztr B b)))
  refine lv_istore hx hb dg (zlc_ll hl) (by rw [← hl.2.2.1]; exact hi) rfl (fun ls' hl' => ?_)
  exact k k1 k2 p l e R s m args below meth c D cA B b Fin C H locs cells slots ls' (zlc_set hl.2.2.1 (znd_of hd) hl') hw hS hz hr1 hr2 (fun v hv => by
    rcases List.mem_or_eq_of_mem_set hv with h | h
    · exact hL v h
    · rw [h]; exact zs0 hst) (zs1 hst)
theorem z_istore_n {j : Fin 4} {x : Int} (dg : decode M.2.1 pc = .ok (.istore_n j, 1)) (hp : pc + 1 = pc') (hi : (j : Nat) < L.length) (hd : zndb L (j : Nat) = true) (hL' : L.set (j : Nat) (zI x) = L') (k : zW M d r1 r2 Q pc' L' st sp me) : zW M d r1 r2 Q pc L (zI x :: st) sp me := by
  intro k1 k2 p l e R s m args below meth c D cA B b Fin C H locs cells slots ls hl hw hS hz hr1 hr2 hL hst
  have C0 := C
  obtain ⟨hx, hb, hml, hown, hname, hts, hnw, hao, hK, hroom, hbud, hBs, hscr, hret⟩ := C0
  subst hp
  subst hL'
  show W p l e R s m args below meth c H locs cells slots Fin (F0 m pc ls (.int (Int32.ofInt x) :: st.map (ztr B b)))
  refine lv_istore_n hx hb dg rfl (zlc_ll hl) (by rw [← hl.2.2.1]; exact hi) rfl (fun ls' hl' => ?_)
  exact k k1 k2 p l e R s m args below meth c D cA B b Fin C H locs cells slots ls' (zlc_set hl.2.2.1 (znd_of hd) hl') hw hS hz hr1 hr2 (fun v hv => by
    rcases List.mem_or_eq_of_mem_set hv with h | h
    · exact hL v h
    · rw [h]; exact zs0 hst) (zs1 hst)
theorem z_astore {i : Nat} {x : Nat} (dg : decode M.2.1 pc = .ok (.astore i, 2)) (hp : pc + 2 = pc') (hi : i < L.length) (hd : zndb L i = true) (hL' : L.set i (zR x) = L') (k : zW M d r1 r2 Q pc' L' st sp me) : zW M d r1 r2 Q pc L (zR x :: st) sp me := by
  intro k1 k2 p l e R s m args below meth c D cA B b Fin C H locs cells slots ls hl hw hS hz hr1 hr2 hL hst
  have C0 := C
  obtain ⟨hx, hb, hml, hown, hname, hts, hnw, hao, hK, hroom, hbud, hBs, hscr, hret⟩ := C0
  subst hp
  subst hL'
  show W p l e R s m args below meth c H locs cells slots Fin (F0 m pc ls (.ref (zad B b x) :: st.map (ztr B b)))
  refine lv_astore hx hb dg (zlc_ll hl) (by rw [← hl.2.2.1]; exact hi) rfl (fun ls' hl' => ?_)
  exact k k1 k2 p l e R s m args below meth c D cA B b Fin C H locs cells slots ls' (zlc_set hl.2.2.1 (znd_of hd) hl') hw hS hz hr1 hr2 (fun v hv => by
    rcases List.mem_or_eq_of_mem_set hv with h | h
    · exact hL v h
    · rw [h]; exact zs0 hst) (zs1 hst)
theorem z_astore_n {j : Fin 4} {x : Nat} (dg : decode M.2.1 pc = .ok (.astore_n j, 1)) (hp : pc + 1 = pc') (hi : (j : Nat) < L.length) (hd : zndb L (j : Nat) = true) (hL' : L.set (j : Nat) (zR x) = L') (k : zW M d r1 r2 Q pc' L' st sp me) : zW M d r1 r2 Q pc L (zR x :: st) sp me := by
  intro k1 k2 p l e R s m args below meth c D cA B b Fin C H locs cells slots ls hl hw hS hz hr1 hr2 hL hst
  have C0 := C
  obtain ⟨hx, hb, hml, hown, hname, hts, hnw, hao, hK, hroom, hbud, hBs, hscr, hret⟩ := C0
  subst hp
  subst hL'
  show W p l e R s m args below meth c H locs cells slots Fin (F0 m pc ls (.ref (zad B b x) :: st.map (ztr B b)))
  refine lv_astore_n hx hb dg rfl (zlc_ll hl) (by rw [← hl.2.2.1]; exact hi) rfl (fun ls' hl' => ?_)
  exact k k1 k2 p l e R s m args below meth c D cA B b Fin C H locs cells slots ls' (zlc_set hl.2.2.1 (znd_of hd) hl') hw hS hz hr1 hr2 (fun v hv => by
    rcases List.mem_or_eq_of_mem_set hv with h | h
    · exact hL v h
    · rw [h]; exact zs0 hst) (zs1 hst)
theorem z_dstore {i : Nat} {x : UInt64} (dg : decode M.2.1 pc = .ok (.dstore i, 2)) (hp : pc + 2 = pc') (hi : i + 1 < L.length) (hd : zndb L i = true) (hL' : (L.set i (zD x)).set (i + 1) zU = L') (k : zW M d r1 r2 Q pc' L' st sp me) : zW M d r1 r2 Q pc L (zD x :: st) sp me := by
  intro k1 k2 p l e R s m args below meth c D cA B b Fin C H locs cells slots ls hl hw hS hz hr1 hr2 hL hst
  have C0 := C
  obtain ⟨hx, hb, hml, hown, hname, hts, hnw, hao, hK, hroom, hbud, hBs, hscr, hret⟩ := C0
  subst hp
  subst hL'
  show W p l e R s m args below meth c H locs cells slots Fin (F0 m pc ls (.double x :: st.map (ztr B b)))
  refine lv_dstore hx hb dg (zlc_ll hl) (by rw [← hl.2.2.1]; exact hi) rfl (fun ls' hl' => ?_)
  exact k k1 k2 p l e R s m args below meth c D cA B b Fin C H locs cells slots ls' (zlc_setD hl.2.2.1 (znd_of hd) hl') hw hS hz hr1 hr2 (fun v hv => by
    rcases List.mem_or_eq_of_mem_set hv with h | h
    · rcases List.mem_or_eq_of_mem_set h with h | h
      · exact hL v h
      · rw [h]; exact zs0 hst
    · rw [h]; exact zok_U) (zs1 hst)
theorem z_iinc {i : Nat} {x n : Int} (dg : decode M.2.1 pc = .ok (.iinc i n, 3)) (hp : pc + 3 = pc') (h : L[i]? = some (zI x)) (hr : zin (x + n)) (hd : zndb L i = true) (hL' : L.set i (zI (x + n)) = L') (k : zW M d r1 r2 Q pc' L' st sp me) : zW M d r1 r2 Q pc L st sp me := by
  intro k1 k2 p l e R s m args below meth c D cA B b Fin C H locs cells slots ls hl hw hS hz hr1 hr2 hL hst
  have C0 := C
  obtain ⟨hx, hb, hml, hown, hname, hts, hnw, hao, hK, hroom, hbud, hBs, hscr, hret⟩ := C0
  subst hp
  subst hL'
  have hm : (i, Value.int (Int32.ofInt x)) ∈ zll B b L := zll_mem.mpr ⟨zI x, h, (fun z => by cases z), rfl⟩
  obtain ⟨kx, hkx⟩ := List.getElem?_of_mem hm
  refine lv_iinc (v := Int32.ofInt (x + n)) hx hb dg (zlc_ll hl) hkx (Int32.ofInt_add x n).symm (by rw [← hl.2.2.1]; exact (List.getElem?_eq_some_iff.mp h).1) rfl (fun ls' hl' => ?_)
  exact k k1 k2 p l e R s m args below meth c D cA B b Fin C H locs cells slots ls' (zlc_set (v := zI (x + n)) hl.2.2.1 (znd_of hd) hl') hw hS hz hr1 hr2 (fun v hv => by
    rcases List.mem_or_eq_of_mem_set hv with h | h
    · exact hL v h
    · rw [h]; exact zok_I hr) hst
theorem zcell_obj {cA : Nat → ClassId} {B b a ci : Nat} (h : (sp.1 a).1 = 10 + ci) : zcell cA B b sp me a = .inr (ci, (List.range (zN ci)).map (fun j => if zRef ci j = true then va_rf ((sp.2.1 a (j : Int)).map (zad B b)) else .int (Int32.ofInt (me a (j : Int))))) := by
  unfold zcell
  rw [h]
  split
  · omega
  · omega
  · omega
  · omega
  · rw [Nat.add_sub_cancel_left]
theorem zcell_int {cA : Nat → ClassId} {B b a : Nat} (h : (sp.1 a).1 = 1) : zcell cA B b sp me a = .inl (cA 0, (sp.1 a).2, .inl (fun j => Int32.ofInt (me a (j : Int)))) := by
  unfold zcell
  rw [h]
  rfl
theorem zcell_bool {cA : Nat → ClassId} {B b a : Nat} (h : (sp.1 a).1 = 2) : zcell cA B b sp me a = .inl (cA 1, (sp.1 a).2, .inl (fun j => Int32.ofInt (me a (j : Int)))) := by
  unfold zcell
  rw [h]
  rfl
theorem zcell_rg {cA : Nat → ClassId} {B b a : Nat} (h : (sp.1 a).1 = 3) : zcell cA B b sp me a = .inl (cA 2, (sp.1 a).2, .inr (.inr (.inr (.inr (fun j => (sp.2.1 a (j : Int)).map (zad B b)))))) := by
  unfold zcell
  rw [h]
  rfl
theorem zcell_st {cA : Nat → ClassId} {B b a : Nat} (h : (sp.1 a).1 = 4) : zcell cA B b sp me a = .inl (cA 3, (sp.1 a).2, .inr (.inr (.inr (.inr (fun j => (sp.2.1 a (j : Int)).map (zad B b)))))) := by
  unfold zcell
  rw [h]
  rfl
theorem zfs_set {α : Type} {N k : Nat} {F F' : Nat → α} {v : α} (h1 : F' k = v) (h2 : ∀ j, j ≠ k → F' j = F j) : ((List.range N).map F).set k v = (List.range N).map F' := by
  apply List.ext_getElem?
  intro i
  rw [List.getElem?_set]
  by_cases hi : k = i
  · subst hi
    by_cases hl : k < N
    · simp [hl, h1]
    · simp [hl]
  · rw [if_neg hi]
    by_cases hl : i < N
    · simp [hl, h2 i (fun z => hi z.symm)]
    · simp [hl]
theorem zwf_set {a : Nat} {i x : Int} (h : zwf sp me) (hx : zin x) (hi : ((sp.1 a).1 = 1 ∨ (sp.1 a).1 = 2) → 0 ≤ i ∧ i < ((sp.1 a).2 : Int)) : zwf sp (zset me a (zup (me a) i x)) := by
  obtain ⟨h1, h2, h3, h4⟩ := h
  refine ⟨h1, fun a' j => ?_, fun a' j ha' hj => ?_, h4⟩
  · by_cases e1 : a' = a
    · subst e1
      rw [zset_eq]
      by_cases e2 : j = i
      · subst e2; rw [zup_eq]; exact hx
      · rw [zup_ne _ _ _ e2]; exact h2 a' j
    · rw [zset_ne _ _ _ e1]; exact h2 a' j
  · by_cases e1 : a' = a
    · subst e1
      rw [zset_eq]
      by_cases e2 : j = i
      · subst e2; exact absurd (hi ha') hj
      · rw [zup_ne _ _ _ e2]; exact h3 a' j ha' hj
    · rw [zset_ne _ _ _ e1]; exact h3 a' j ha' hj
def zFl (own : String) (idx ci k : Nat) : Prop := ci < 10 ∧ k < zN ci ∧ (zT ci k).1 = zRn ci ∧ ((Jvm.Cond.fieldLink own idx (zRn ci) (zT ci k).2.1 (zT ci k).2.2.1 ∈ lw_tbl ∧ goodWord (Jvm.Cond.fieldLink own idx (zRn ci) (zT ci k).2.1 (zT ci k).2.2.1) = true) ∨ ∃ host, Jvm.Cond.fieldLinkNest own idx (zRn ci) (zT ci k).2.1 (zT ci k).2.2.1 host ∈ lw_tbl)
def zFp (own : String) (idx ci k : Nat) : Prop := ci < 10 ∧ k < zN ci ∧ (zT ci k).1 = zRn ci ∧ (Jvm.Cond.fieldLink own idx (zRn ci) (zT ci k).2.1 (zT ci k).2.2.1 ∈ lw_tbl ∧ goodWord (Jvm.Cond.fieldLink own idx (zRn ci) (zT ci k).2.1 (zT ci k).2.2.1) = true)
theorem zFp.l {own : String} {idx ci k : Nat} (h : zFp own idx ci k) : zFl own idx ci k := ⟨h.1, h.2.1, h.2.2.1, Or.inl h.2.2.2⟩
theorem z_getI {idx ci a : Nat} {ki : Int} (kn : Nat) (hf : zFl M.1.cls idx ci kn) (hki : (kn : Int) = ki) (hr : zRef ci kn = false) (dg : decode M.2.1 pc = .ok (.getfield idx, 3)) (hp : pc + 3 = pc') (hs : (sp.1 a).1 = 10 + ci) (k : zW M d r1 r2 Q pc' L (zI (me a ki) :: st) sp me) : zW M d r1 r2 Q pc L (zR a :: st) sp me := by
  intro k1 k2 p l e R s m args below meth c D cA B b Fin C H locs cells slots ls hl hw hS hz hr1 hr2 hL hst
  have hw0 := hw
  obtain ⟨hP, hwf⟩ := hw0
  have K := k k1 k2 p l e R s m args below meth c D cA B b Fin C H locs cells slots ls hl hw hS hz hr1 hr2 hL (zsc (zok_I (hwf.2.1 a ki)) (zs1 hst))
  have C0 := C
  obtain ⟨hx, hb, hml, hown, hname, hts, hnw, hao, hK, hroom, hbud, hBs, hscr, hret⟩ := C0
  subst hp
  subst hki
  obtain ⟨hci, hkn, hnm, hlk⟩ := hf
  have ha := hwf.1 a (by rw [hs]; omega)
  have he := zws_get (cA := cA) (B := B) (b := b) (sp := sp) (me := me) ha.1 ha.2
  rw [zcell_obj hs] at he
  have ead : zad B b a = B + a := by unfold zad; rw [if_neg (by omega)]
  show W p l e R s m args below meth c H locs cells slots Fin (F0 m pc ls (.ref (zad B b a) :: st.map (ztr B b)))
  rw [ead]
  have hvv : ((List.range (zN ci)).map (fun j => if zRef ci j = true then va_rf ((sp.2.1 a (j : Int)).map (zad B b)) else .int (Int32.ofInt (me a (j : Int)))))[kn]? = some (.int (Int32.ofInt (me a (kn : Int)))) := by simp [hkn, hr]
  rcases hlk with ⟨hk1, hk2⟩ | ⟨host, hk1⟩
  · exact va_get hx hb hts (zlay hci) hown hK hP (a - 1) he (zcl_at ci hci) kn hkn (hts _ (zG_of hk1 hk2)) (fun x hx => by rw [hnm] at hx; exact hx) hvv dg K
  · exact va_getN hx hb hts (zlay hci) hown hK hP (a - 1) he (zcl_at ci hci) kn hkn (va_Nw.use rfl (hnw _ hk1 rfl)) (fun x hx => by rw [hnm] at hx; exact hx) hvv dg K
theorem z_getR {idx ci a a' : Nat} {ki : Int} (kn : Nat) (hf : zFl M.1.cls idx ci kn) (hki : (kn : Int) = ki) (hr : zRef ci kn = true) (dg : decode M.2.1 pc = .ok (.getfield idx, 3)) (hp : pc + 3 = pc') (hs : (sp.1 a).1 = 10 + ci) (hv : sp.2.1 a ki = some a') (k : zW M d r1 r2 Q pc' L (zR a' :: st) sp me) : zW M d r1 r2 Q pc L (zR a :: st) sp me := by
  intro k1 k2 p l e R s m args below meth c D cA B b Fin C H locs cells slots ls hl hw hS hz hr1 hr2 hL hst
  have hw0 := hw
  obtain ⟨hP, hwf⟩ := hw0
  have K := k k1 k2 p l e R s m args below meth c D cA B b Fin C H locs cells slots ls hl hw hS hz hr1 hr2 hL (zsc zok_R (zs1 hst))
  have C0 := C
  obtain ⟨hx, hb, hml, hown, hname, hts, hnw, hao, hK, hroom, hbud, hBs, hscr, hret⟩ := C0
  subst hp
  subst hki
  obtain ⟨hci, hkn, hnm, hlk⟩ := hf
  have ha := hwf.1 a (by rw [hs]; omega)
  have he := zws_get (cA := cA) (B := B) (b := b) (sp := sp) (me := me) ha.1 ha.2
  rw [zcell_obj hs] at he
  have ead : zad B b a = B + a := by unfold zad; rw [if_neg (by omega)]
  show W p l e R s m args below meth c H locs cells slots Fin (F0 m pc ls (.ref (zad B b a) :: st.map (ztr B b)))
  rw [ead]
  have hvv : ((List.range (zN ci)).map (fun j => if zRef ci j = true then va_rf ((sp.2.1 a (j : Int)).map (zad B b)) else .int (Int32.ofInt (me a (j : Int)))))[kn]? = some (.ref (zad B b a')) := by simp [hkn, hr, hv, va_rf]
  rcases hlk with ⟨hk1, hk2⟩ | ⟨host, hk1⟩
  · exact va_get hx hb hts (zlay hci) hown hK hP (a - 1) he (zcl_at ci hci) kn hkn (hts _ (zG_of hk1 hk2)) (fun x hx => by rw [hnm] at hx; exact hx) hvv dg K
  · exact va_getN hx hb hts (zlay hci) hown hK hP (a - 1) he (zcl_at ci hci) kn hkn (va_Nw.use rfl (hnw _ hk1 rfl)) (fun x hx => by rw [hnm] at hx; exact hx) hvv dg K
/-- a number goes into a field that isn't final: int, or boolean with 0 or 1 -/
theorem z_putI {idx ci a : Nat} {ki x : Int} (kn : Nat) (hf : zFl M.1.cls idx ci kn) (hki : (kn : Int) = ki) (hr : zTy ci kn = .int ∨ (zTy ci kn = .boolean ∧ (x = 0 ∨ x = 1))) (hfin : (zT ci kn).2.2.2 = false) (dg : decode M.2.1 pc = .ok (.putfield idx, 3)) (hp : pc + 3 = pc') (hs : (sp.1 a).1 = 10 + ci) (k : zW M d r1 r2 Q pc' L st sp (zset me a (zup (me a) ki x))) : zW M d r1 r2 Q pc L (zI x :: zR a :: st) sp me := by
  intro k1 k2 p l e R s m args below meth c D cA B b Fin C H locs cells slots ls hl hw hS hz hr1 hr2 hL hst
  have hw0 := hw
  obtain ⟨hP, hwf⟩ := hw0
  have C0 := C
  obtain ⟨hx, hb, hml, hown, hname, hts, hnw, hao, hK, hroom, hbud, hBs, hscr, hret⟩ := C0
  subst hp
  subst hki
  obtain ⟨hci, hkn, hnm, hlk⟩ := hf
  have ha := hwf.1 a (by rw [hs]; omega)
  have he := zws_get (cA := cA) (B := B) (b := b) (sp := sp) (me := me) ha.1 ha.2
  rw [zcell_obj hs] at he
  have ead : zad B b a = B + a := by unfold zad; rw [if_neg (by omega)]
  have hrf : zRef ci kn = false := by
    unfold zRef
    rcases hr with h | ⟨h, -⟩ <;> rw [h]
  have hwf' : zwf sp (zset me a (zup (me a) (kn : Int) x)) := zwf_set hwf (zs0 hst) (fun h => by rw [hs] at h; omega)
  have hset : (zws cA B b sp me).set (a - 1) (B + a, .inr (ci, ((List.range (zN ci)).map (fun j => if zRef ci j = true then va_rf ((sp.2.1 a (j : Int)).map (zad B b)) else .int (Int32.ofInt (me a (j : Int))))).set kn (.int (Int32.ofInt x)))) = zws cA B b sp (zset me a (zup (me a) (kn : Int) x)) := by
    refine zws_set ha.1 ha.2 rfl ?_ ?_
    · rw [zcell_obj hs]
      congr 2
      symm
      apply zfs_set
      · simp [hrf, zset, zup]
      · intro j hj
        have hj2 : ¬ (j : Int) = (kn : Int) := by omega
        simp [zset, zup, hj2]
    · intro a' ha'
      exact zcell_congr rfl rfl (zset_ne _ _ _ ha')
  have hnar : narrow (zTy ci kn) (.int (Int32.ofInt x)) = .int (Int32.ofInt x) := by
    rcases hr with h | ⟨h, h2⟩
    · rw [h]; rfl
    · rw [h]; rcases h2 with rfl | rfl <;> decide
  have hfit : fits (zTy ci kn) (.int (Int32.ofInt x)) = true := by
    rcases hr with h | ⟨h, h2⟩
    · rw [h]; rfl
    · rw [h]; rcases h2 with rfl | rfl <;> decide
  have KK : ∀ (H1 : Heap) (locs1 : List Loc), va_P D zcl ((zws cA B b sp me).set (a - 1) (B + a, .inr (ci, ((List.range (zN ci)).map (fun j => if zRef ci j = true then va_rf ((sp.2.1 a (j : Int)).map (zad B b)) else .int (Int32.ofInt (me a (j : Int))))).set kn (.int (Int32.ofInt x))))) H1 → va_D (zA B) ((zws cA B b sp me).set (a - 1) (B + a, .inr (ci, ((List.range (zN ci)).map (fun j => if zRef ci j = true then va_rf ((sp.2.1 a (j : Int)).map (zad B b)) else .int (Int32.ofInt (me a (j : Int))))).set kn (.int (Int32.ofInt x))))) → va_S (zA B) s.heap H1 locs1 → W p l e R s m args below meth c H1 locs1 cells slots Fin (F0 m (pc + 3) ls (st.map (ztr B b))) := by
    intro H1 locs1 hP1 _ hS1
    rw [hset] at hP1
    exact k k1 k2 p l e R s m args below meth c D cA B b Fin C H1 locs1 cells slots ls hl ⟨hP1, hwf'⟩ hS1 hz hr1 hr2 hL (zs1 (zs1 hst))
  show W p l e R s m args below meth c H locs cells slots Fin (F0 m pc ls (.int (Int32.ofInt x) :: .ref (zad B b a) :: st.map (ztr B b)))
  rw [ead]
  rcases hlk with ⟨hk1, hk2⟩ | ⟨host, hk1⟩
  · exact va_put hx hb hts (zlay hci) (zTy ci) (zty_ok ci hci) (znm_ok ci hci) hown hK hP zws_D hS (a - 1) he (zcl_at ci hci) kn hkn (hts _ (zG_of hk1 hk2)) (fun x hx => by rw [hnm] at hx; exact hx) hfin (zty_ok ci hci kn hkn) hnar hfit (by simp [hkn]) dg KK
  · exact va_putN hx hb hts (zlay hci) (zTy ci) (zty_ok ci hci) (znm_ok ci hci) hown hK hP zws_D hS (a - 1) he (zcl_at ci hci) kn hkn (va_Nw.use rfl (hnw _ hk1 rfl)) (fun x hx => by rw [hnm] at hx; exact hx) hfin (zty_ok ci hci kn hkn) hnar hfit (by simp [hkn]) dg KK
/-- a reference goes into a final field of the object that is being made -/
theorem z_putRF {idx ci a a' : Nat} {ki : Int} (kn : Nat) (hf : zFp M.1.cls idx ci kn) (hki : (kn : Int) = ki) (hr : (∃ n, zTy ci kn = .object n) ∨ ∃ t, zTy ci kn = .array t) (hfin : (zT ci kn).2.2.2 = true) (hin : M.1.name = "<init>") (hdc : zRn ci = M.1.cls) (dg : decode M.2.1 pc = .ok (.putfield idx, 3)) (hp : pc + 3 = pc') (hs : (sp.1 a).1 = 10 + ci) (ha' : a' ≠ 0) (k : zW M d r1 r2 Q pc' L st (sp.1, zset sp.2.1 a (zup (sp.2.1 a) ki (some a')), sp.2.2) me) : zW M d r1 r2 Q pc L (zR a' :: zR a :: st) sp me := by
  intro k1 k2 p l e R s m args below meth c D cA B b Fin C H locs cells slots ls hl hw hS hz hr1 hr2 hL hst
  have hw0 := hw
  obtain ⟨hP, hwf⟩ := hw0
  have C0 := C
  obtain ⟨hx, hb, hml, hown, hname, hts, hnw, hao, hK, hroom, hbud, hBs, hscr, hret⟩ := C0
  subst hp
  subst hki
  obtain ⟨hci, hkn, hnm, hlk⟩ := hf
  have ha := hwf.1 a (by rw [hs]; omega)
  have he := zws_get (cA := cA) (B := B) (b := b) (sp := sp) (me := me) ha.1 ha.2
  rw [zcell_obj hs] at he
  have ead : zad B b a = B + a := by unfold zad; rw [if_neg (by omega)]
  have hrf : zRef ci kn = true := by
    unfold zRef
    rcases hr with ⟨n, h⟩ | ⟨t, h⟩ <;> rw [h]
  have hwf' : zwf (sp.1, zset sp.2.1 a (zup (sp.2.1 a) (kn : Int) (some a')), sp.2.2) me := hwf
  have hset : (zws cA B b sp me).set (a - 1) (B + a, .inr (ci, ((List.range (zN ci)).map (fun j => if zRef ci j = true then va_rf ((sp.2.1 a (j : Int)).map (zad B b)) else .int (Int32.ofInt (me a (j : Int))))).set kn (.ref (zad B b a')))) = zws cA B b (sp.1, zset sp.2.1 a (zup (sp.2.1 a) (kn : Int) (some a')), sp.2.2) me := by
    refine zws_set ha.1 ha.2 rfl ?_ ?_
    · rw [zcell_obj (sp := (sp.1, zset sp.2.1 a (zup (sp.2.1 a) (kn : Int) (some a')), sp.2.2)) hs]
      congr 2
      symm
      apply zfs_set
      · simp [hrf, zset, zup, va_rf]
      · intro j hj
        have hj2 : ¬ (j : Int) = (kn : Int) := by omega
        simp [zset, zup, hj2]
    · intro a2 ha2
      exact zcell_congr rfl (zset_ne _ _ _ ha2) rfl
  have hnf : narrow (zTy ci kn) (.ref (zad B b a')) = .ref (zad B b a') ∧ fits (zTy ci kn) (.ref (zad B b a')) = true := by
    rcases hr with ⟨n, h⟩ | ⟨t, h⟩ <;> rw [h] <;> exact ⟨rfl, rfl⟩
  show W p l e R s m args below meth c H locs cells slots Fin (F0 m pc ls (.ref (zad B b a') :: .ref (zad B b a) :: st.map (ztr B b)))
  rw [ead]
  refine va_putF hx hb hts (zlay hci) (zTy ci) (zty_ok ci hci) (znm_ok ci hci) hown hK hP zws_D hS (a - 1) he (zcl_at ci hci) kn hkn (hts _ (zG_of hlk.1 hlk.2)) (fun x hx => by rw [hnm] at hx; exact hx) hfin (hname.trans hin) (hnm.trans hdc) (zty_ok ci hci kn hkn) hnf.1 hnf.2 (by simp [hkn]) dg (fun H1 locs1 hP1 _ hS1 => ?_)
  rw [hset] at hP1
  exact k k1 k2 p l e R s m args below meth c D cA B b Fin C H1 locs1 cells slots ls hl ⟨hP1, hwf'⟩ hS1 hz hr1 hr2 hL (zs1 (zs1 hst))
theorem zad_1 {B b a : Nat} (h : 1 ≤ a) : zad B b a = B + a := by unfold zad; rw [if_neg (by omega)]
theorem zupd {f : Int → Int} {i x : Int} (h0 : 0 ≤ i) : (fun j : Nat => Int32.ofInt (zup f i x (j : Int))) = upd (fun j : Nat => Int32.ofInt (f (j : Int))) i.toNat (Int32.ofInt x) := by
  funext j
  by_cases hj : (j : Int) = i
  · have h2 : j = i.toNat := by omega
    rw [hj, zup_eq, h2, pk_us]
  · have h2 : j ≠ i.toNat := by omega
    rw [zup_ne _ _ _ hj, pk_un h2]
theorem z_iaload {a : Nat} {i : Int} (dg : decode M.2.1 pc = .ok (.iaload, 1)) (hp : pc + 1 = pc') (hs : (sp.1 a).1 = 1) (h0 : 0 ≤ i) (h1 : i < ((sp.1 a).2 : Int)) (k : zW M d r1 r2 Q pc' L (zI (me a i) :: st) sp me) : zW M d r1 r2 Q pc L (zI i :: zR a :: st) sp me := by
  intro k1 k2 p l e R s m args below meth c D cA B b Fin C H locs cells slots ls hl hw hS hz hr1 hr2 hL hst
  have hw0 := hw
  obtain ⟨hP, hwf⟩ := hw0
  have K := k k1 k2 p l e R s m args below meth c D cA B b Fin C H locs cells slots ls hl hw hS hz hr1 hr2 hL (zsc (zok_I (hwf.2.1 a i)) (zs1 (zs1 hst)))
  have C0 := C
  obtain ⟨hx, hb, hml, hown, hname, hts, hnw, hao, hK, hroom, hbud, hBs, hscr, hret⟩ := C0
  subst hp
  have hi : zin i := zs0 hst
  have ha := hwf.1 a (by rw [hs]; omega)
  have he := zws_get (cA := cA) (B := B) (b := b) (sp := sp) (me := me) ha.1 ha.2
  rw [zcell_int hs] at he
  show W p l e R s m args below meth c H locs cells slots Fin (F0 m pc ls (.int (Int32.ofInt i) :: .ref (zad B b a) :: st.map (ztr B b)))
  rw [zad_1 ha.1]
  refine va_iald hx hb hK hP (a - 1) 0 he rfl (zi_in hi h0 h1) dg ?_
  have e2 : ((i.toNat : Nat) : Int) = i := Int.toNat_of_nonneg h0
  rw [zi_cl hi, e2]
  exact K
theorem z_iastore {a : Nat} {i x : Int} (dg : decode M.2.1 pc = .ok (.iastore, 1)) (hp : pc + 1 = pc') (hs : (sp.1 a).1 = 1) (h0 : 0 ≤ i) (h1 : i < ((sp.1 a).2 : Int)) (k : zW M d r1 r2 Q pc' L st sp (zset me a (zup (me a) i x))) : zW M d r1 r2 Q pc L (zI x :: zI i :: zR a :: st) sp me := by
  intro k1 k2 p l e R s m args below meth c D cA B b Fin C H locs cells slots ls hl hw hS hz hr1 hr2 hL hst
  have hw0 := hw
  obtain ⟨hP, hwf⟩ := hw0
  have C0 := C
  obtain ⟨hx, hb, hml, hown, hname, hts, hnw, hao, hK, hroom, hbud, hBs, hscr, hret⟩ := C0
  subst hp
  have hx0 : zin x := zs0 hst
  have hi : zin i := zs0 (zs1 hst)
  have ha := hwf.1 a (by rw [hs]; omega)
  have he := zws_get (cA := cA) (B := B) (b := b) (sp := sp) (me := me) ha.1 ha.2
  rw [zcell_int hs] at he
  show W p l e R s m args below meth c H locs cells slots Fin (F0 m pc ls (.int (Int32.ofInt x) :: .int (Int32.ofInt i) :: .ref (zad B b a) :: st.map (ztr B b)))
  rw [zad_1 ha.1]
  refine va_iast hx hb hK hP zws_D hS (a - 1) 0 he rfl (zi_in hi h0 h1) dg (fun H1 locs1 hP1 _ hS1 => ?_)
  rw [zws_set (sp' := sp) (me' := zset me a (zup (me a) i x)) ha.1 ha.2 rfl (by rw [zcell_int hs, zset_eq, zi_cl hi, zupd h0]) (fun a' ha' => zcell_congr rfl rfl (zset_ne _ _ _ ha'))] at hP1
  exact k k1 k2 p l e R s m args below meth c D cA B b Fin C H1 locs1 cells slots ls hl ⟨hP1, zwf_set hwf hx0 (fun _ => ⟨h0, h1⟩)⟩ hS1 hz hr1 hr2 hL (zs1 (zs1 (zs1 hst)))
theorem z_aaload {a a' : Nat} {i : Int} (dg : decode M.2.1 pc = .ok (.aaload, 1)) (hp : pc + 1 = pc') (hs : (sp.1 a).1 = 3 ∨ (sp.1 a).1 = 4) (h0 : 0 ≤ i) (h1 : i < ((sp.1 a).2 : Int)) (hv : sp.2.1 a i = some a') (k : zW M d r1 r2 Q pc' L (zR a' :: st) sp me) : zW M d r1 r2 Q pc L (zI i :: zR a :: st) sp me := by
  intro k1 k2 p l e R s m args below meth c D cA B b Fin C H locs cells slots ls hl hw hS hz hr1 hr2 hL hst
  have hw0 := hw
  obtain ⟨hP, hwf⟩ := hw0
  have K := k k1 k2 p l e R s m args below meth c D cA B b Fin C H locs cells slots ls hl hw hS hz hr1 hr2 hL (zsc zok_R (zs1 (zs1 hst)))
  have C0 := C
  obtain ⟨hx, hb, hml, hown, hname, hts, hnw, hao, hK, hroom, hbud, hBs, hscr, hret⟩ := C0
  subst hp
  have hi : zin i := zs0 hst
  have ha := hwf.1 a (by omega)
  have he := zws_get (cA := cA) (B := B) (b := b) (sp := sp) (me := me) ha.1 ha.2
  have e2 : ((i.toNat : Nat) : Int) = i := Int.toNat_of_nonneg h0
  show W p l e R s m args below meth c H locs cells slots Fin (F0 m pc ls (.int (Int32.ofInt i) :: .ref (zad B b a) :: st.map (ztr B b)))
  rw [zad_1 ha.1]
  rcases hs with hs | hs
  · rw [zcell_rg hs] at he
    refine va_aldq hx hb hK hP (a - 1) 2 he rfl (zi_in hi h0 h1) dg ?_
    rw [zi_cl hi, e2, hv]
    exact K
  · rw [zcell_st hs] at he
    refine va_aldq hx hb hK hP (a - 1) 3 he rfl (zi_in hi h0 h1) dg ?_
    rw [zi_cl hi, e2, hv]
    exact K
theorem zaupd {f : Int → Option Nat} {B b a' : Nat} {i : Int} (h0 : 0 ≤ i) : (fun j : Nat => (zup f i (some a') (j : Int)).map (zad B b)) = va_up (fun j : Nat => (f (j : Int)).map (zad B b)) i.toNat (some (zad B b a')) := by
  funext j
  by_cases hj : (j : Int) = i
  · have h2 : j = i.toNat := by omega
    rw [hj, zup_eq, h2]
    simp [va_up]
  · have h2 : j ≠ i.toNat := by omega
    rw [zup_ne _ _ _ hj]
    simp [va_up, h2]
theorem z_aastore {a a' : Nat} {i : Int} (dg : decode M.2.1 pc = .ok (.aastore, 1)) (hp : pc + 1 = pc') (hs : ((sp.1 a).1 = 3 ∧ (sp.1 a').1 = 14) ∨ ((sp.1 a).1 = 4 ∧ (sp.1 a').1 = 17)) (h0 : 0 ≤ i) (h1 : i < ((sp.1 a).2 : Int)) (k : zW M d r1 r2 Q pc' L st (sp.1, zset sp.2.1 a (zup (sp.2.1 a) i (some a')), sp.2.2) me) : zW M d r1 r2 Q pc L (zR a' :: zI i :: zR a :: st) sp me := by
  intro k1 k2 p l e R s m args below meth c D cA B b Fin C H locs cells slots ls hl hw hS hz hr1 hr2 hL hst
  have hw0 := hw
  obtain ⟨hP, hwf⟩ := hw0
  have C0 := C
  obtain ⟨hx, hb, hml, hown, hname, hts, hnw, hao, hK, hroom, hbud, hBs, hscr, hret⟩ := C0
  subst hp
  have hi : zin i := zs0 (zs1 hst)
  have ha := hwf.1 a (by omega)
  have ha' := hwf.1 a' (by omega)
  have he := zws_get (cA := cA) (B := B) (b := b) (sp := sp) (me := me) ha.1 ha.2
  have he' := zws_get (cA := cA) (B := B) (b := b) (sp := sp) (me := me) ha'.1 ha'.2
  have hwf' : zwf (sp.1, zset sp.2.1 a (zup (sp.2.1 a) i (some a')), sp.2.2) me := hwf
  show W p l e R s m args below meth c H locs cells slots Fin (F0 m pc ls (.ref (zad B b a') :: .int (Int32.ofInt i) :: .ref (zad B b a) :: st.map (ztr B b)))
  rw [zad_1 ha.1, zad_1 ha'.1]
  rcases hs with ⟨hs, hs'⟩ | ⟨hs, hs'⟩
  · rw [zcell_rg hs] at he
    rw [zcell_obj (ci := 4) hs'] at he'
    refine va_astq hx hb hK hP zws_D hS (a - 1) 2 (a' - 1) 4 he rfl he' rfl (zi_in hi h0 h1) dg (fun H1 locs1 hP1 _ hS1 => ?_)
    rw [zws_set (sp' := (sp.1, zset sp.2.1 a (zup (sp.2.1 a) i (some a')), sp.2.2)) (me' := me) ha.1 ha.2 rfl (by rw [zcell_rg (sp := (sp.1, zset sp.2.1 a (zup (sp.2.1 a) i (some a')), sp.2.2)) hs]; dsimp only; rw [zset_eq, zi_cl hi, zaupd h0, zad_1 ha'.1]) (fun a2 ha2 => zcell_congr rfl (zset_ne _ _ _ ha2) rfl)] at hP1
    exact k k1 k2 p l e R s m args below meth c D cA B b Fin C H1 locs1 cells slots ls hl ⟨hP1, hwf'⟩ hS1 hz hr1 hr2 hL (zs1 (zs1 (zs1 hst)))
  · rw [zcell_st hs] at he
    rw [zcell_obj (ci := 7) hs'] at he'
    refine va_astq hx hb hK hP zws_D hS (a - 1) 3 (a' - 1) 7 he rfl he' rfl (zi_in hi h0 h1) dg (fun H1 locs1 hP1 _ hS1 => ?_)
    rw [zws_set (sp' := (sp.1, zset sp.2.1 a (zup (sp.2.1 a) i (some a')), sp.2.2)) (me' := me) ha.1 ha.2 rfl (by rw [zcell_st (sp := (sp.1, zset sp.2.1 a (zup (sp.2.1 a) i (some a')), sp.2.2)) hs]; dsimp only; rw [zset_eq, zi_cl hi, zaupd h0, zad_1 ha'.1]) (fun a2 ha2 => zcell_congr rfl (zset_ne _ _ _ ha2) rfl)] at hP1
    exact k k1 k2 p l e R s m args below meth c D cA B b Fin C H1 locs1 cells slots ls hl ⟨hP1, hwf'⟩ hS1 hz hr1 hr2 hL (zs1 (zs1 (zs1 hst)))
theorem z_alen {a : Nat} (dg : decode M.2.1 pc = .ok (.arraylength, 1)) (hp : pc + 1 = pc') (hs : (sp.1 a).1 = 1) (k : zW M d r1 r2 Q pc' L (zI ((sp.1 a).2 : Int) :: st) sp me) : zW M d r1 r2 Q pc L (zR a :: st) sp me := by
  intro k1 k2 p l e R s m args below meth c D cA B b Fin C H locs cells slots ls hl hw hS hz hr1 hr2 hL hst
  have hw0 := hw
  obtain ⟨hP, hwf⟩ := hw0
  have K := k k1 k2 p l e R s m args below meth c D cA B b Fin C H locs cells slots ls hl hw hS hz hr1 hr2 hL (zsc (zok_I (by have := hwf.2.2.2 a; unfold zin; omega)) (zs1 hst))
  have C0 := C
  obtain ⟨hx, hb, hml, hown, hname, hts, hnw, hao, hK, hroom, hbud, hBs, hscr, hret⟩ := C0
  subst hp
  have ha := hwf.1 a (by omega)
  have he := zws_get (cA := cA) (B := B) (b := b) (sp := sp) (me := me) ha.1 ha.2
  rw [zcell_int hs] at he
  show W p l e R s m args below meth c H locs cells slots Fin (F0 m pc ls (.ref (zad B b a) :: st.map (ztr B b)))
  rw [zad_1 ha.1]
  exact va_alen hx hb hK hP (a - 1) 0 he rfl (v := Int32.ofInt ((sp.1 a).2 : Int)) Int32.ofInt_eq_ofNat.symm dg K
/-- the script -/
theorem z_sld {N : Nat} {f : Int → Int} {i : Int} (hsc : M.2.2.2.2 = some (N, f)) (dg : decode M.2.1 pc = .ok (.iaload, 1)) (hp : pc + 1 = pc') (h0 : 0 ≤ i) (h1 : i < (N : Int)) (k : zW M d r1 r2 Q pc' L (zI (f i) :: st) sp me) : zW M d r1 r2 Q pc L (zI i :: zR 0 :: st) sp me := by
  intro k1 k2 p l e R s m args below meth c D cA B b Fin C H locs cells slots ls hl hw hS hz hr1 hr2 hL hst
  have hsb := C.2.2.2.2.2.2.2.2.2.2.2.2.1 N f hsc
  have K := k k1 k2 p l e R s m args below meth c D cA B b Fin C H locs cells slots ls hl hw hS hz hr1 hr2 hL (zsc (zok_I (hsb.2.2.2 i)) (zs1 (zs1 hst)))
  have C0 := C
  obtain ⟨hx, hb, hml, hown, hname, hts, hnw, hao, hK, hroom, hbud, hBs, hscr, hret⟩ := C0
  subst hp
  have hi : zin i := zs0 hst
  show W p l e R s m args below meth c H locs cells slots Fin (F0 m pc ls (.int (Int32.ofInt i) :: .ref b :: st.map (ztr B b)))
  refine va_sld hx hb hsb.1 (by have := hsb.2.1; omega) (Nat.not_lt.mpr hsb.2.1) hS (zi_in hi h0 h1) dg ?_
  have e2 : ((i.toNat : Nat) : Int) = i := Int.toNat_of_nonneg h0
  rw [zi_cl hi, e2]
  exact K
theorem z_slen {N : Nat} {f : Int → Int} (hsc : M.2.2.2.2 = some (N, f)) (dg : decode M.2.1 pc = .ok (.arraylength, 1)) (hp : pc + 1 = pc') (k : zW M d r1 r2 Q pc' L (zI (N : Int) :: st) sp me) : zW M d r1 r2 Q pc L (zR 0 :: st) sp me := by
  intro k1 k2 p l e R s m args below meth c D cA B b Fin C H locs cells slots ls hl hw hS hz hr1 hr2 hL hst
  have hsb := C.2.2.2.2.2.2.2.2.2.2.2.2.1 N f hsc
  have K := k k1 k2 p l e R s m args below meth c D cA B b Fin C H locs cells slots ls hl hw hS hz hr1 hr2 hL (zsc (zok_I (by have := hsb.2.2.1; unfold zin; omega)) (zs1 hst))
  have C0 := C
  obtain ⟨hx, hb, hml, hown, hname, hts, hnw, hao, hK, hroom, hbud, hBs, hscr, hret⟩ := C0
  subst hp
  show W p l e R s m args below meth c H locs cells slots Fin (F0 m pc ls (.ref b :: st.map (ztr B b)))
  refine va_slen hx hb hsb.1 (by have := hsb.2.1; omega) (Nat.not_lt.mpr hsb.2.1) hS dg ?_
  rw [← Int32.ofInt_eq_ofNat]
  exact K
/-- the heap's size, from the record of the walk -/
theorem zsize {k1 k2 : Nat} {p : Program} {l : Launch} {e : Env} {R : Room} {s : State} {m : MethodId} {args : Array Value} {below : List Frame} {meth : Method} {c : Code} {D : va_G} {cA : Nat → ClassId} {B b : Nat} {Fin : State → Prop} (C : zC M d k1 k2 Q p l e R s m args below meth c D cA B b Fin) {H : Heap} {locs : List Loc} {cells slots : Nat} (hw : zwd D cA B b sp me H) (hS : va_S (zA B) s.heap H locs) (hz : B + sp.2.2 + 1 = s.heap.size + cells) {T : State} (hT : T.heap = H) (X : Stand p l e R s m args below meth c T locs cells slots) : H.size = B + sp.2.2 + 1 := by
  have h1 := X.heapSize
  rw [hT] at h1
  have h2 : B < s.heap.size := C.2.2.2.2.2.2.2.2.2.2.2.1
  have h3 := hS.1
  by_cases hn : sp.2.2 = 0
  · omega
  · have h4 := (hw.1 _ _ (zws_get (cA := cA) (B := B) (b := b) (sp := sp) (me := me) (a := sp.2.2) (by omega) (Nat.le_refl _))).lt
    have h5 : B + sp.2.2 < H.size := h4
    omega
/-- the next place -/
theorem znext {D : va_G} {cA : Nat → ClassId} {B b q : Nat} {E : va_E} {H1 : Heap} {cells : Nat} {n0 : Nat} (hz : B + sp.2.2 + 1 = n0 + cells) (hP1 : va_P D zcl (zws cA B b sp me ++ [(q, E)]) H1) (hD1 : va_D (zA B) (zws cA B b sp me ++ [(q, E)])) (hs : H1.size ≤ n0 + (cells + 1)) : q = B + (sp.2.2 + 1) := by
  have hl : (zws cA B b sp me).length = sp.2.2 := by unfold zws; simp
  have hq : (zws cA B b sp me ++ [(q, E)])[sp.2.2]? = some (q, E) := by
    rw [List.getElem?_append_right (by omega), hl]
    simp
  have h1 := (hP1 _ _ hq).lt
  have h1 : q < H1.size := h1
  have h2 : B < q := hD1.2 _ _ hq
  by_cases h3 : q = B + (sp.2.2 + 1)
  · exact h3
  · have h4 : 1 ≤ q - B := by omega
    have h5 : q - B ≤ sp.2.2 := by omega
    have h6 := zws_get (cA := cA) (B := B) (b := b) (sp := sp) (me := me) h4 h5
    have h7 : (zws cA B b sp me ++ [(q, E)])[q - B - 1]? = some (B + (q - B), zcell cA B b sp me (q - B)) := by
      rw [List.getElem?_append_left (by omega)]
      exact h6
    have h8 := hD1.1 _ _ _ _ h7 hq (by show B + (q - B) = q; omega)
    omega
theorem zwf_new {kd n : Nat} (h : zwf sp me) (hk : n < 100000) : zwf (zset sp.1 (sp.2.2 + 1) (kd, n), zset sp.2.1 (sp.2.2 + 1) (fun _ => none), sp.2.2 + 1) (zset me (sp.2.2 + 1) (fun _ => 0)) := by
  obtain ⟨h1, h2, h3, h4⟩ := h
  refine ⟨fun a ha => ?_, fun a i => ?_, fun a i ha hi => ?_, fun a => ?_⟩
  · by_cases e1 : a = sp.2.2 + 1
    · subst e1; exact ⟨by omega, Nat.le_refl _⟩
    · have ha : (zset sp.1 (sp.2.2 + 1) (kd, n) a).1 ≠ 0 := ha
      rw [zset_ne _ _ _ e1] at ha
      have := h1 a ha
      exact ⟨this.1, by show a ≤ sp.2.2 + 1; omega⟩
  · by_cases e1 : a = sp.2.2 + 1
    · subst e1; rw [zset_eq]; exact zin_0
    · rw [zset_ne _ _ _ e1]; exact h2 a i
  · by_cases e1 : a = sp.2.2 + 1
    · subst e1; rw [zset_eq]
    · rw [zset_ne _ _ _ e1]
      have ha : (zset sp.1 (sp.2.2 + 1) (kd, n) a).1 = 1 ∨ (zset sp.1 (sp.2.2 + 1) (kd, n) a).1 = 2 := ha
      have hi : ¬ (0 ≤ i ∧ i < ((zset sp.1 (sp.2.2 + 1) (kd, n) a).2 : Int)) := hi
      rw [zset_ne _ _ _ e1] at ha hi
      exact h3 a i ha hi
  · show (zset sp.1 (sp.2.2 + 1) (kd, n) a).2 < 100000
    by_cases e1 : a = sp.2.2 + 1
    · subst e1; rw [zset_eq]; exact hk
    · rw [zset_ne _ _ _ e1]; exact h4 a
def zLn (own : String) (idx ci : Nat) : Prop := ci < 10 ∧ Jvm.Cond.classLink own idx (zRn ci) ∈ zG ∧ Jvm.Cond.instantiable (zRn ci) (zN ci) ∈ zG ∧ Jvm.Cond.initialized (zRn ci) ∈ zG
theorem zN_lt : ∀ ci, ci < 10 → zN ci < 100000 := zc_10 (by decide) (by decide) (by decide) (by decide) (by decide) (by decide) (by decide) (by decide) (by decide) (by decide)
theorem zdef : ∀ ci, ci < 10 → ∀ j, j < zN ci → defaultValue (zTy ci j) = (if zRef ci j = true then (.null : Value) else .int 0) :=
  zc_10 (by decide +kernel) (by decide +kernel) (by decide +kernel) (by decide +kernel) (by decide +kernel) (by decide +kernel) (by decide +kernel) (by decide +kernel) (by decide +kernel) (by decide +kernel)
theorem z_new {idx ci : Nat} (hf : zLn M.1.cls idx ci) (dg : decode M.2.1 pc = .ok (.new idx, 3)) (hp : pc + 3 = pc') (h1 : 1 ≤ r1) (h2 : zN ci ≤ r2) (k : zW M d (r1 - 1) (r2 - zN ci) Q pc' L (zR (sp.2.2 + 1) :: st) (zset sp.1 (sp.2.2 + 1) (10 + ci, zN ci), zset sp.2.1 (sp.2.2 + 1) (fun _ => none), sp.2.2 + 1) (zset me (sp.2.2 + 1) (fun _ => 0))) : zW M d r1 r2 Q pc L st sp me := by
  intro k1 k2 p l e R s m args below meth c D cA B b Fin C H locs cells slots ls hl hw hS hz hr1 hr2 hL hst
  have hw0 := hw
  obtain ⟨hP, hwf⟩ := hw0
  have C0 := C
  obtain ⟨hx, hb, hml, hown, hname, hts, hnw, hao, hK, hroom, hbud, hBs, hscr, hret⟩ := C0
  subst hp
  obtain ⟨hci, hf1, hf2, hf3⟩ := hf
  have hn100 : zN ci < 100000 := zN_lt ci hci
  have hA : ∀ q, s.heap.size ≤ q → zA B q := fun q hq => Nat.lt_of_lt_of_le hBs hq
  refine va_new hx hb hts (zlay hci) (zTy ci) (zty_ok ci hci) hown (hts _ hf1) (hts _ hf2) (hts _ hf3) hK hP zws_D hS hA (zcl_at ci hci) (fs := (List.range (zN ci)).map (fun j => if zRef ci j = true then (.null : Value) else .int 0)) (fun j hj => by rw [zdef ci hci j hj]; simp [vp_V, hj]) (by omega) (by omega) dg (fun q H1 hP1 hD1 hS1 => ?_)
  intro T1 hT1 X1
  have hs1 := X1.heapSize
  rw [hT1] at hs1
  have hq := znext hz hP1 hD1 hs1
  subst hq
  have hsp := zws_push (cA := cA) (B := B) (b := b) (sp := sp) (sp' := (zset sp.1 (sp.2.2 + 1) (10 + ci, zN ci), zset sp.2.1 (sp.2.2 + 1) (fun _ => none), sp.2.2 + 1)) (me := me) (me' := zset me (sp.2.2 + 1) (fun _ => 0)) (E := .inr (ci, (List.range (zN ci)).map (fun j => if zRef ci j = true then (.null : Value) else .int 0))) rfl (by
    rw [zcell_obj (ci := ci) (by dsimp only; rw [zset_eq])]
    congr 2
    apply List.map_congr_left
    intro j _
    dsimp only
    rw [zset_eq, zset_eq]
    rfl) (fun a' ha' => zcell_congr (zset_ne _ _ _ ha') (zset_ne _ _ _ ha') (zset_ne _ _ _ ha'))
  rw [hsp] at hP1
  have K := k k1 k2 p l e R s m args below meth c D cA B b Fin C H1 locs (cells + 1) (slots + zN ci) ls hl ⟨hP1, zwf_new hwf hn100⟩ hS1 (by dsimp only; omega) (by omega) (by omega) hL (zsc zok_R hst)
  have e1 : ztr B b (zR (sp.2.2 + 1)) = .ref (B + (sp.2.2 + 1)) := by
    show Value.ref (zad B b (sp.2.2 + 1)) = _
    rw [zad_1 (by omega)]
  rw [List.map_cons, e1] at K
  exact K T1 hT1 X1
theorem z_newarray {n : Int} (bo : Bool) (dg : decode M.2.1 pc = .ok (.newarray .int, 2)) (hp : pc + 2 = pc') (h0 : 0 ≤ n) (h100 : n < 100000) (h1 : 1 ≤ r1) (h2 : n.toNat ≤ r2) (k : zW M d (r1 - 1) (r2 - n.toNat) Q pc' L (zR (sp.2.2 + 1) :: st) (zset sp.1 (sp.2.2 + 1) (if bo = true then 2 else 1, n.toNat), zset sp.2.1 (sp.2.2 + 1) (fun _ => none), sp.2.2 + 1) (zset me (sp.2.2 + 1) (fun _ => 0))) : zW M d r1 r2 Q pc L (zI n :: st) sp me := by
  intro k1 k2 p l e R s m args below meth c D cA B b Fin C H locs cells slots ls hl hw hS hz hr1 hr2 hL hst
  have hw0 := hw
  obtain ⟨hP, hwf⟩ := hw0
  have C0 := C
  obtain ⟨hx, hb, hml, hown, hname, hts, hnw, hao, hK, hroom, hbud, hBs, hscr, hret⟩ := C0
  subst hp
  have hn : zin n := zs0 hst
  have hA : ∀ q, s.heap.size ≤ q → zA B q := fun q hq => Nat.lt_of_lt_of_le hBs hq
  have harr : (Jvm.Cond.arrayClass (newarray.typeOf .int)).before args s = true := by
    cases bo
    · exact hts _ (zG_of (List.mem_of_getElem? (i := 62) (by decide +kernel)) rfl)
    · exact hts _ (zG_of (List.mem_of_getElem? (i := 62) (by decide +kernel)) rfl)
  show W p l e R s m args below meth c H locs cells slots Fin (F0 m pc ls (.int (Int32.ofInt n) :: st.map (ztr B b)))
  refine va_newa (atype := .int) hx hb harr (ty := .int) (by cases bo <;> rfl) hK hP zws_D hS hA (N' := n.toNat) (a0 := (n.toNat, .inl (fun _ => 0))) (fun cA => by cases bo <;> rfl) (by rw [← zi_00, zi_lt hn zin_0]; omega) (zi_cl hn) (by simp [componentBytes] <;> omega) (by omega) (by omega) dg (fun q cN H1 hK1 hP1 hD1 hS1 => ?_)
  intro T1 hT1 X1
  have hs1 := X1.heapSize
  rw [hT1] at hs1
  have hq := znext hz hP1 hD1 hs1
  subst hq
  have hcA : cN = cA (if bo = true then 1 else 0) := by
    have h5 := (hK1.2 4 (cN, .int) rfl).2
    cases bo
    · have h6 := (hK.2 0 (cA 0, .int) rfl).2
      exact Option.some.inj (h5.symm.trans h6)
    · have h6 := (hK.2 1 (cA 1, .int) rfl).2
      exact Option.some.inj (h5.symm.trans h6)
  have hsp := zws_push (cA := cA) (B := B) (b := b) (sp := sp) (sp' := (zset sp.1 (sp.2.2 + 1) (if bo = true then 2 else 1, n.toNat), zset sp.2.1 (sp.2.2 + 1) (fun _ => none), sp.2.2 + 1)) (me := me) (me' := zset me (sp.2.2 + 1) (fun _ => 0)) (E := .inl (cN, n.toNat, .inl (fun _ => 0))) rfl (by
    cases bo
    · rw [zcell_int (by dsimp only; rw [zset_eq]; rfl)]
      dsimp only
      rw [zset_eq, zset_eq, hcA]
      rfl
    · rw [zcell_bool (by dsimp only; rw [zset_eq]; rfl)]
      dsimp only
      rw [zset_eq, zset_eq, hcA]
      rfl) (fun a' ha' => zcell_congr (zset_ne _ _ _ ha') (zset_ne _ _ _ ha') (zset_ne _ _ _ ha'))
  rw [hsp] at hP1
  have K := k k1 k2 p l e R s m args below meth c D cA B b Fin C H1 locs (cells + 1) (slots + n.toNat) ls hl ⟨hP1, zwf_new hwf (by omega)⟩ hS1 (by dsimp only; omega) (by omega) (by omega) hL (zsc zok_R (zs1 hst))
  have e1 : ztr B b (zR (sp.2.2 + 1)) = .ref (B + (sp.2.2 + 1)) := by
    show Value.ref (zad B b (sp.2.2 + 1)) = _
    rw [zad_1 (by omega)]
  rw [List.map_cons, e1] at K
  exact K T1 hT1 X1
/-- a row of rings (false) or of states (true) -/
theorem z_anew {idx : Nat} {n : Int} (bo : Bool) (hlk : Jvm.Cond.classLink M.1.cls idx (if bo = true then RX7 else RX4) ∈ zG) (dg : decode M.2.1 pc = .ok (.anewarray idx, 3)) (hp : pc + 3 = pc') (h0 : 0 ≤ n) (h100 : n < 100000) (h1 : 1 ≤ r1) (h2 : n.toNat ≤ r2) (k : zW M d (r1 - 1) (r2 - n.toNat) Q pc' L (zR (sp.2.2 + 1) :: st) (zset sp.1 (sp.2.2 + 1) (if bo = true then 4 else 3, n.toNat), zset sp.2.1 (sp.2.2 + 1) (fun _ => none), sp.2.2 + 1) (zset me (sp.2.2 + 1) (fun _ => 0))) : zW M d r1 r2 Q pc L (zI n :: st) sp me := by
  intro k1 k2 p l e R s m args below meth c D cA B b Fin C H locs cells slots ls hl hw hS hz hr1 hr2 hL hst
  have hw0 := hw
  obtain ⟨hP, hwf⟩ := hw0
  have C0 := C
  obtain ⟨hx, hb, hml, hown, hname, hts, hnw, hao, hK, hroom, hbud, hBs, hscr, hret⟩ := C0
  subst hp
  have hn : zin n := zs0 hst
  have hA : ∀ q, s.heap.size ≤ q → zA B q := fun q hq => Nat.lt_of_lt_of_le hBs hq
  show W p l e R s m args below meth c H locs cells slots Fin (F0 m pc ls (.int (Int32.ofInt n) :: st.map (ztr B b)))
  refine va_newq (C := if bo = true then RX7 else RX4) hx hb hown (hts _ hlk) (hao _ (by cases bo <;> simp [zAO])) hK hP zws_D hS hA (N' := n.toNat) (by rw [← zi_00, zi_lt hn zin_0]; omega) (zi_cl hn) (by omega) (by omega) (by omega) dg (fun q cN H1 hK1 hP1 hD1 hS1 => ?_)
  intro T1 hT1 X1
  have hs1 := X1.heapSize
  rw [hT1] at hs1
  have hq := znext hz hP1 hD1 hs1
  subst hq
  have hcA : cN = cA (if bo = true then 3 else 2) := by
    cases bo
    · obtain ⟨-, -, -, -, -, h5⟩ := (hK1.2 4 (cN, .object RX4) rfl).2
      obtain ⟨-, -, -, -, -, h6⟩ := (hK.2 2 (cA 2, .object RX4) rfl).2
      exact Option.some.inj (h5.symm.trans h6)
    · obtain ⟨-, -, -, -, -, h5⟩ := (hK1.2 4 (cN, .object RX7) rfl).2
      obtain ⟨-, -, -, -, -, h6⟩ := (hK.2 3 (cA 3, .object RX7) rfl).2
      exact Option.some.inj (h5.symm.trans h6)
  have hsp := zws_push (cA := cA) (B := B) (b := b) (sp := sp) (sp' := (zset sp.1 (sp.2.2 + 1) (if bo = true then 4 else 3, n.toNat), zset sp.2.1 (sp.2.2 + 1) (fun _ => none), sp.2.2 + 1)) (me := me) (me' := zset me (sp.2.2 + 1) (fun _ => 0)) (E := .inl (cN, n.toNat, .inr (.inr (.inr (.inr (fun _ => none)))))) rfl (by
    cases bo
    · rw [zcell_rg (by dsimp only; rw [zset_eq]; rfl)]
      dsimp only
      rw [zset_eq, zset_eq, hcA]
      rfl
    · rw [zcell_st (by dsimp only; rw [zset_eq]; rfl)]
      dsimp only
      rw [zset_eq, zset_eq, hcA]
      rfl) (fun a' ha' => zcell_congr (zset_ne _ _ _ ha') (zset_ne _ _ _ ha') (zset_ne _ _ _ ha'))
  rw [hsp] at hP1
  have K := k k1 k2 p l e R s m args below meth c D cA B b Fin C H1 locs (cells + 1) (slots + n.toNat) ls hl ⟨hP1, zwf_new hwf (by omega)⟩ hS1 (by dsimp only; omega) (by omega) (by omega) hL (zsc zok_R (zs1 hst))
  have e1 : ztr B b (zR (sp.2.2 + 1)) = .ref (B + (sp.2.2 + 1)) := by
    show Value.ref (zad B b (sp.2.2 + 1)) = _
    rw [zad_1 (by omega)]
  rw [List.map_cons, e1] at K
  exact K T1 hT1 X1
/-- Object's own making -/
def zLo (own : String) (idx : Nat) : Prop := Jvm.Cond.methodLink own idx Lib.objectInit ∈ zG ∧ Jvm.Cond.instanceMethod Lib.objectInit ∈ zG ∧ Jvm.Cond.code Lib.objectInit ⟨#[0xb1]⟩ 1 none ∈ zG
theorem zsum (B b : Nat) (st : List zV) : (((st.map (ztr B b)).map fun v => v.category)).sum ≤ 2 * st.length := by
  induction st with
  | nil => exact Nat.le_refl _
  | cons a t ih =>
    have h : (ztr B b a).category ≤ 2 := by rcases a with i | (_ | a) | x <;> simp [ztr, Value.category]
    simp only [List.map_cons, List.sum_cons, List.length_cons]
    omega
theorem z_objinit {idx a : Nat} (hf : zLo M.1.cls idx) (dg : decode M.2.1 pc = .ok (.invokespecial idx, 3)) (hp : pc + 3 = pc') (hd : 1 ≤ d) (hlen : st.length ≤ 4) (k : zW M d r1 r2 Q pc' L st sp me) : zW M d r1 r2 Q pc L (zR a :: st) sp me := by
  intro k1 k2 p l e R s m args below meth c D cA B b Fin C H locs cells slots ls hl hw hS hz hr1 hr2 hL hst
  have K := k k1 k2 p l e R s m args below meth c D cA B b Fin C H locs cells slots ls hl hw hS hz hr1 hr2 hL (zs1 hst)
  have C0 := C
  obtain ⟨hx, hb, hml, hown, hname, hts, hnw, hao, hK, hroom, hbud, hBs, hscr, hret⟩ := C0
  subst hp
  have h8 := zsum B b st
  exact W.objInit hx hb hown (hts _ hf.1) (hts _ hf.2.1) (hts _ hf.2.2) rfl (hl.1.trans hml.symm) rfl dg (by omega) (by show 2 * 0 + _ + 12 ≤ _; omega) K
def zLm (own : String) (idx : Nat) (y : MethodName) : Prop := Jvm.Cond.methodLink own idx y ∈ zG ∧ Jvm.Cond.static y ∈ zG ∧ Jvm.Cond.initialized "java/lang/Math" ∈ zG
theorem z_min {idx : Nat} {x y : Int} (hf : zLm M.1.cls idx Lib.Math.min.name ∧ Jvm.Cond.code Lib.Math.min.name Lib.Math.min.code 2 (some .int) ∈ zG) (dg : decode M.2.1 pc = .ok (.invokestatic idx, 3)) (hp : pc + 3 = pc') (hd : 1 ≤ d) (hlen : st.length ≤ 4) (k : zW M d r1 r2 Q pc' L (zI (if y < x then y else x) :: st) sp me) : zW M d r1 r2 Q pc L (zI y :: zI x :: st) sp me := by
  intro k1 k2 p l e R s m args below meth c D cA B b Fin C H locs cells slots ls hl hw hS hz hr1 hr2 hL hst
  have hy : zin y := zs0 hst
  have hxx : zin x := zs0 (zs1 hst)
  have K := k k1 k2 p l e R s m args below meth c D cA B b Fin C H locs cells slots ls hl hw hS hz hr1 hr2 hL (zsc (zok_I (by split; exact hy; exact hxx)) (zs1 (zs1 hst)))
  have C0 := C
  obtain ⟨hx, hb, hml, hown, hname, hts, hnw, hao, hK, hroom, hbud, hBs, hscr, hret⟩ := C0
  subst hp
  have h8 := zsum B b st
  show W p l e R s m args below meth c H locs cells slots Fin (F0 m pc ls (.int (Int32.ofInt y) :: .int (Int32.ofInt x) :: st.map (ztr B b)))
  refine va_mmin hx hb (hml.trans hl.1.symm) hown (hts _ hf.1.1) (hts _ hf.1.2.1) (hts _ hf.1.2.2) (hts _ hf.2) (by omega) (by omega) (by omega) (by omega) dg ?_
  have e2 : (if Int32.ofInt y < Int32.ofInt x then Int32.ofInt y else Int32.ofInt x) = Int32.ofInt (if y < x then y else x) := by
    by_cases h : y < x
    · rw [if_pos h, if_pos ((zi_lt hy hxx).mpr h)]
    · rw [if_neg h, if_neg (fun g => h ((zi_lt hy hxx).mp g))]
  rw [e2]
  exact K
theorem z_abs {idx : Nat} {x : Int} (hf : zLm M.1.cls idx Lib.Math.abs.name ∧ Jvm.Cond.code Lib.Math.abs.name Lib.Math.abs.code 1 (some .int) ∈ zG) (dg : decode M.2.1 pc = .ok (.invokestatic idx, 3)) (hp : pc + 3 = pc') (hd : 1 ≤ d) (hlen : st.length ≤ 4) (hr : zin (-x)) (k : zW M d r1 r2 Q pc' L (zI (if 0 ≤ x then x else -x) :: st) sp me) : zW M d r1 r2 Q pc L (zI x :: st) sp me := by
  intro k1 k2 p l e R s m args below meth c D cA B b Fin C H locs cells slots ls hl hw hS hz hr1 hr2 hL hst
  have hxx : zin x := zs0 hst
  have K := k k1 k2 p l e R s m args below meth c D cA B b Fin C H locs cells slots ls hl hw hS hz hr1 hr2 hL (zsc (zok_I (by split; exact hxx; exact hr)) (zs1 hst))
  have C0 := C
  obtain ⟨hx, hb, hml, hown, hname, hts, hnw, hao, hK, hroom, hbud, hBs, hscr, hret⟩ := C0
  subst hp
  have h8 := zsum B b st
  show W p l e R s m args below meth c H locs cells slots Fin (F0 m pc ls (.int (Int32.ofInt x) :: st.map (ztr B b)))
  refine va_mabs hx hb (hml.trans hl.1.symm) hown (hts _ hf.1.1) (hts _ hf.1.2.1) (hts _ hf.1.2.2) (hts _ hf.2) (by omega) (by omega) (by omega) (by omega) dg ?_
  have e2 : (if (0 : Int32) ≤ Int32.ofInt x then Int32.ofInt x else 0 - Int32.ofInt x) = Int32.ofInt (if 0 ≤ x then x else -x) := by
    by_cases h : 0 ≤ x
    · rw [if_pos h, if_pos (by rw [← zi_00]; exact (zi_le zin_0 hxx).mpr h)]
    · rw [if_neg h, if_neg (by rw [← zi_00]; exact fun g => h ((zi_le zin_0 hxx).mp g)), ← zi_00, ← Int32.ofInt_sub]
      congr 1
      omega
  rw [e2]
  exact K
def zLc (own : String) (idx : Nat) : Prop := Jvm.Cond.methodLink own idx arraycopyName ∈ zG ∧ Jvm.Cond.native arraycopyName ∈ zG ∧ Jvm.Cond.static arraycopyName ∈ zG ∧ Jvm.Cond.initialized "java/lang/System" ∈ zG
/-- a whole row of numbers is copied over another of its length -/
theorem z_copy {idx a0 a1 n : Nat} (hf : zLc M.1.cls idx) (dg : decode M.2.1 pc = .ok (.invokestatic idx, 3)) (hp : pc + 3 = pc') (hd : 1 ≤ d) (hlen : st.length = 0) (hs0 : sp.1 a0 = (1, n)) (hs1 : sp.1 a1 = (1, n)) (k : zW M d r1 r2 Q pc' L st sp (zset me a1 (me a0))) : zW M d r1 r2 Q pc L (zI (n : Int) :: zI 0 :: zR a1 :: zI 0 :: zR a0 :: st) sp me := by
  intro k1 k2 p l e R s m args below meth c D cA B b Fin C H locs cells slots ls hl hw hS hz hr1 hr2 hL hst
  have hw0 := hw
  obtain ⟨hP, hwf⟩ := hw0
  have C0 := C
  obtain ⟨hx, hb, hml, hown, hname, hts, hnw, hao, hK, hroom, hbud, hBs, hscr, hret⟩ := C0
  subst hp
  have hn : zin (n : Int) := zs0 hst
  have hn2 : n < 100000 := by have := hwf.2.2.2 a0; rw [hs0] at this; exact this
  have ha0 := hwf.1 a0 (by rw [hs0]; exact Nat.one_ne_zero)
  have ha1 := hwf.1 a1 (by rw [hs1]; exact Nat.one_ne_zero)
  have he0 := zws_get (cA := cA) (B := B) (b := b) (sp := sp) (me := me) ha0.1 ha0.2
  have he1 := zws_get (cA := cA) (B := B) (b := b) (sp := sp) (me := me) ha1.1 ha1.2
  rw [zcell_int (by rw [hs0])] at he0
  rw [zcell_int (by rw [hs1])] at he1
  rw [hs0] at he0
  rw [hs1] at he1
  have hst0 : st = [] := List.eq_nil_of_length_eq_zero hlen
  subst hst0
  have hnn : (Int32.ofInt (n : Int)).toNatClampNeg = n := by rw [zi_cl hn]; rfl
  have h00 : (Int32.ofInt 0).toNatClampNeg = 0 := by decide
  show W p l e R s m args below meth c H locs cells slots Fin (F0 m pc ls (.int (Int32.ofInt (n : Int)) :: .int (Int32.ofInt 0) :: .ref (zad B b a1) :: .int (Int32.ofInt 0) :: .ref (zad B b a0) :: []))
  rw [zad_1 ha0.1, zad_1 ha1.1]
  refine va_copyi hx hb (hml.trans hl.1.symm) hown (hts _ hf.1) (hts _ hf.2.1) (hts _ hf.2.2.1) (hts _ hf.2.2.2) hK hP zws_D hS (a0 - 1) (a1 - 1) 0 0 he0 he1 rfl rfl rfl (by decide) (by decide) (by rw [← zi_00, zi_lt hn zin_0]; omega) (by rw [hnn, h00]; dsimp only; omega) (by rw [hnn, h00]; dsimp only; omega) (fun i _ => rfl) (by omega) (Nat.le_trans (m := 60) (by decide +kernel) (by omega)) dg (fun H1 locs1 hP1 _ hS1 => ?_)
  rw [zws_set (sp' := sp) (me' := zset me a1 (me a0)) ha1.1 ha1.2 rfl (by
    rw [zcell_int (by rw [hs1]), zset_eq, hs1, hnn, h00]
    dsimp only
    refine congrArg (fun f => (Sum.inl (cA 0, n, Sum.inl f) : va_E)) ?_
    funext j
    by_cases hj : j < n
    · rw [pk_cpy_in (Nat.zero_le _) (by omega), show 0 + (j - 0) = j by omega]
    · rw [pk_cpy_out (Or.inr (by omega))]
      have z0 := hwf.2.2.1 a0 (j : Int) (Or.inl (by rw [hs0])) (by rw [hs0]; dsimp only; omega)
      have z1 := hwf.2.2.1 a1 (j : Int) (Or.inl (by rw [hs1])) (by rw [hs1]; dsimp only; omega)
      rw [z0, z1]) (fun a' ha' => zcell_congr rfl rfl (zset_ne _ _ _ ha'))] at hP1
  have hwf' : zwf sp (zset me a1 (me a0)) := by
    obtain ⟨w1, w2, w3, w4⟩ := hwf
    refine ⟨w1, fun a' j => ?_, fun a' j ha' hj => ?_, w4⟩
    · by_cases e1 : a' = a1
      · subst e1; rw [zset_eq]; exact w2 a0 j
      · rw [zset_ne _ _ _ e1]; exact w2 a' j
    · by_cases e1 : a' = a1
      · subst e1
        rw [zset_eq]
        rw [hs1] at hj
        exact w3 a0 j (Or.inl (by rw [hs0])) (by rw [hs0]; exact hj)
      · rw [zset_ne _ _ _ e1]; exact w3 a' j ha' hj
  exact k k1 k2 p l e R s m args below meth c D cA B b Fin C H1 locs1 cells slots ls hl ⟨hP1, hwf'⟩ hS1 hz hr1 hr2 hL (fun v hv => absurd hv List.not_mem_nil)
/-- the facts of the record are at hand -/
theorem z_wf (k : zwf sp me → zW M d r1 r2 Q pc L st sp me) : zW M d r1 r2 Q pc L st sp me := by
  intro k1 k2 p l e R s m args below meth c D cA B b Fin C H locs cells slots ls hl hw hS hz hr1 hr2 hL hst
  exact k hw.2 k1 k2 p l e R s m args below meth c D cA B b Fin C H locs cells slots ls hl hw hS hz hr1 hr2 hL hst
/-! returns -/
theorem z_ret {v : Option zV} {ins : Instr} (hr0 : r1 = 0) (hrt : zRet M.2.2.2.1 ins v) (dg : decode M.2.1 pc = .ok (ins, 1)) (hv : v.toList = st) (hq : Q v sp me) : zW M d r1 r2 Q pc L st sp me := by
  intro k1 k2 p l e R s m args below meth c D cA B b Fin C H locs cells slots ls hl hw hS hz hr1 hr2 hL hst
  have C0 := C
  obtain ⟨hx, hb, hml, hown, hname, hts, hnw, hao, hK, hroom, hbud, hBs, hscr, hret⟩ := C0
  subst hv
  have e1 : (v.toList).map (ztr B b) = (v.map (ztr B b)).toList := by cases v <;> rfl
  rw [e1]
  exact hret v sp me H locs cells slots ls pc ins hq hw hS hz (by omega) (by omega) hrt dg (fun x hx => by subst hx; exact hst x (by simp))
theorem z_ireturn {x : Int} (hr0 : r1 = 0) (hrt : M.2.2.2.1 = some .int) (dg : decode M.2.1 pc = .ok (.ireturn, 1)) (hq : Q (some (zI x)) sp me) : zW M d r1 r2 Q pc L [zI x] sp me := z_ret hr0 (Or.inr (Or.inl ⟨hrt, rfl, x, rfl⟩)) dg rfl hq
theorem z_zreturn {x : Int} (hr0 : r1 = 0) (hrt : M.2.2.2.1 = some .boolean) (dg : decode M.2.1 pc = .ok (.ireturn, 1)) (h01 : x = 0 ∨ x = 1) (hq : Q (some (zI x)) sp me) : zW M d r1 r2 Q pc L [zI x] sp me := z_ret hr0 (Or.inr (Or.inr (Or.inl ⟨hrt, rfl, x, rfl, h01⟩))) dg rfl hq
theorem z_dreturn {x : UInt64} (hr0 : r1 = 0) (hrt : M.2.2.2.1 = some .double) (dg : decode M.2.1 pc = .ok (.dreturn, 1)) (hq : Q (some (zD x)) sp me) : zW M d r1 r2 Q pc L [zD x] sp me := z_ret hr0 (Or.inr (Or.inr (Or.inr (Or.inl ⟨hrt, rfl, x, rfl⟩)))) dg rfl hq
theorem z_areturn {x : Nat} {C : String} (hr0 : r1 = 0) (hrt : M.2.2.2.1 = some (.object C)) (dg : decode M.2.1 pc = .ok (.areturn, 1)) (hq : Q (some (zR x)) sp me) : zW M d r1 r2 Q pc L [zR x] sp me := z_ret hr0 (Or.inr (Or.inr (Or.inr (Or.inr ⟨⟨C, hrt⟩, rfl, x, rfl⟩)))) dg rfl hq
theorem z_return (hr0 : r1 = 0) (hrt : M.2.2.2.1 = none) (dg : decode M.2.1 pc = .ok (.return_, 1)) (hq : Q none sp me) : zW M d r1 r2 Q pc L [] sp me := z_ret hr0 (Or.inl ⟨hrt, rfl, rfl⟩) dg rfl hq
end ZROWS
/-! contracts -/
def zrm (d mc ms : Nat) : Room := { frames := d, cells := mc, slots := ms, locals := 64 * d + 64 }
def zwo (M : zMd) : List Jvm.Cond := Jvm.Cond.code M.1 M.2.1 M.2.2.1 M.2.2.2.1 :: zG
def zPc (D : va_G) (cA : Nat → ClassId) (B b : Nat) (as : List zV) (sp : zSP) (me : zMe) : Array Value → State → Prop := fun v U =>
  v = (as.map (ztr B b)).toArray ∧ zwd D cA B b sp me U.heap ∧ U.heap.size = B + sp.2.2 + 1 ∧ va_K D zcl (ztys cA) U ∧ (∀ w ∈ lw_tbl, zNest w = true → va_Nw w U) ∧ (∀ C ∈ zAO, va_AO C U) ∧ (∀ v ∈ as, zok v)
def zQc (D : va_G) (cA : Nat → ClassId) (B b n : Nat) (Q : zQ) : Array Value → State → Outcome → State → Prop := fun _ st oc t =>
  (∃ (v : Option zV) (sp : zSP) (me : zMe), oc = .returned (v.map (ztr B b)) ∧ Q v sp me ∧ zwd D cA B b sp me t.heap ∧ sp.2.2 = n ∧ ∀ x, v = some x → zok x) ∧ va_F (zA B) st t
def zCall (M : zMd) (d mc ms : Nat) (as : List zV) (sp : zSP) (me : zMe) (Q : zQ) : Prop := ∀ (l : Launch) (D : va_G) (cA : Nat → ClassId) (B b : Nat), Met l M.1 (zwo M) (zrm d mc ms) (zPc D cA B b as sp me) (zQc D cA B b (sp.2.2 + mc) Q) mc ms (zA B)
def zen (as : List zV) (nL : Nat) : List zV := as ++ List.replicate (nL - as.length) zU
theorem zargs (B b : Nat) : ∀ (as : List zV) (k : Nat), (∀ v ∈ as, ∀ x, v ≠ zD x) → ∀ (i : Nat) (v : zV), as[i]? = some v → (k + i, ztr B b v) ∈ lv_args k (as.map (ztr B b))
  | [], _, _, i, v, h => by simp at h
  | a :: t, k, hn, i, v, h => by
    have hc : ¬ (ztr B b a).category = 2 := fun z => by
      obtain ⟨x, hx⟩ := (zcat B b a).mp z
      exact hn a List.mem_cons_self x hx
    rw [List.map_cons]
    show (k + i, ztr B b v) ∈ (k, ztr B b a) :: lv_args (if (ztr B b a).category = 2 then k + 2 else k + 1) (t.map (ztr B b))
    rw [if_neg hc]
    cases i with
    | zero =>
      rw [List.getElem?_cons_zero] at h
      cases h
      exact List.mem_cons_self
    | succ i =>
      rw [List.getElem?_cons_succ] at h
      have h5 := zargs B b t (k + 1) (fun v hv => hn v (List.mem_cons_of_mem _ hv)) i v h
      rw [show k + (i + 1) = k + 1 + i by omega]
      exact List.mem_cons_of_mem _ h5
theorem zlen (B b : Nat) : ∀ (as : List zV), (∀ v ∈ as, ∀ x, v ≠ zD x) → (lg_sl (as.map (ztr B b))).length = as.length
  | [], _ => rfl
  | a :: t, hn => by
    have hc : ¬ (ztr B b a).category = 2 := fun z => by
      obtain ⟨x, hx⟩ := (zcat B b a).mp z
      exact hn a List.mem_cons_self x hx
    have h5 := zlen B b t (fun v hv => hn v (List.mem_cons_of_mem _ hv))
    unfold lg_sl at h5 ⊢
    rw [List.map_cons, List.flatMap_cons, if_neg hc, List.length_append, h5]
    simp
    omega
theorem zentry {B b nL : Nat} {as : List zV} (hn : ∀ v ∈ as, ∀ x, v ≠ zD x) (hle : as.length ≤ nL) : zlc B b ((lg_sl (as.map (ztr B b)) ++ List.replicate (nL - (lg_sl (as.map (ztr B b))).length) Slot.unset).toArray) nL (zen as nL) := by
  have h1 := lv_entry (as.map (ztr B b)) (n := nL) (by rw [zlen B b as hn]; exact hle)
  refine ⟨h1.1, h1.2.1, by unfold zen; simp; omega, fun i v hi hv => ?_⟩
  unfold zen at hi
  by_cases hl : i < as.length
  · rw [List.getElem?_append_left hl] at hi
    have h2 := zargs B b as 0 hn i v hi
    rw [Nat.zero_add] at h2
    exact h1.2.2 _ h2
  · rw [List.getElem?_append_right (by omega)] at hi
    have h3 := List.eq_of_mem_replicate (List.mem_of_getElem? hi)
    exact absurd h3 hv
/-- which methods may be read so -/
def zMok (M : zMd) (n : Nat) : Prop := plainName M.1.cls = true ∧ M.2.2.1 ≤ 40 ∧ M.2.2.2.2 = none ∧ (Jvm.Cond.code M.1 M.2.1 M.2.2.1 M.2.2.2.1 ∈ zG) ∧ (M.1.cls ≠ "java/lang/invoke/MethodHandle" ∧ M.1.cls ≠ "java/lang/invoke/VarHandle" ∧ (parseMethodDescriptor M.1.desc).map (fun d => d.parameters.length) = some n)
theorem z_met {M : zMd} {d mc ms n : Nat} {as : List zV} {sp : zSP} {me : zMe} {Q : zQ} (hM : zMok M n) (hn : ∀ v ∈ as, ∀ x, v ≠ zD x) (hle : as.length ≤ M.2.2.1) (k : zW M d mc ms Q 0 (zen as M.2.2.1) [] sp me) : zCall M d mc ms as sp me Q := by
  intro l D cA B b
  refine Met.ofW (cc := M.2.1) (maxL := M.2.2.1) (ret := M.2.2.2.1) hM.1 rfl ?_
  intro p e s m args below meth c s₁ BL hml hv
  obtain ⟨rfl, hw, hsz, hK, hnw, hao, hok⟩ := hv
  have hts0 := atoms_spec (ws := zwo M) BL.pre
  have hts : ∀ w ∈ zG, w.before (as.map (ztr B b)).toArray s = true := fun w h => hts0 w (List.mem_cons_of_mem _ h)
  have hown : s.vm.findClass M.1.cls = some m.cls := findClass_of_methodNamed BL.named
  have hname : meth.name = M.1.name := (name_of_methodNamed BL.named BL.method).1
  have hlocks := BL.notSynchronized
  have hbl : ∀ q, s.heap.size ≤ q → zA B q := fun q hq => by show B < q; omega
  rw [lg_entry_eq]
  refine k mc ms p l e (headSpec (zwo M) (zrm d mc ms)).room s m _ below meth c D cA B b _ ?_ s.heap [] 0 0 _ (zentry hn hle) hw va_S.rf (by omega) (by omega) (by omega) ?_ (fun v hv => absurd hv List.not_mem_nil)
  · refine ⟨BL.exec, BL.bytes, hml, hown, hname, hts, hnw, hao, hK, ⟨Nat.le_refl _, Nat.le_refl _⟩, ⟨Nat.le_refl _, Nat.le_refl _⟩, by omega, fun N f hs => ?_, ?_⟩
    · rw [hM.2.2.1] at hs; cases hs
    · intro v sp' me' H locs cells slots ls pc ins hq hw' hS hz hc1 hc2 hrt dg hvok
      subst hc1
      refine W.widen (k := cells) (n := ms) (Nat.le_refl _) hc2 ?_
      have hF : ∀ t : State, t.heap = H → va_F (zA B) s t := fun t ht => hS.F ht
      have hn2 : sp'.2.2 = sp.2.2 + cells := by omega
      have hPost : ∀ t : State, t.heap = H → s.WarmedH t.vm → zQc D cA B b (sp.2.2 + cells) Q (as.map (ztr B b)).toArray s (.returned (v.map (ztr B b))) t := fun t ht _ => ⟨⟨v, sp', me', rfl, hq, by rw [ht]; exact hw', hn2, hvok⟩, hF t ht⟩
      have hr := BL.returns
      rcases hrt with ⟨h1, rfl, rfl⟩ | ⟨h1, rfl, i, rfl⟩ | ⟨h1, rfl, i, rfl, h01⟩ | ⟨h1, rfl, x, rfl⟩ | ⟨⟨C, h1⟩, rfl, a, rfl⟩
      · exact W.vret BL.exec BL.bytes (hr.trans h1) hPost hS.2.2 dg
      · exact W.iret BL.exec BL.bytes (hr.trans h1) hPost hS.2.2 dg
      · exact W.zret BL.exec BL.bytes (hr.trans h1) (by rcases h01 with rfl | rfl <;> decide) hPost hS.2.2 dg
      · exact W.dret BL.exec BL.bytes (hr.trans h1) hPost hS.2.2 dg
      · exact W.aret BL.exec BL.bytes (hr.trans h1) (Or.inl ⟨C, rfl⟩) (Or.inr ⟨_, rfl⟩) hPost hS.2.2 dg
  · intro v hv
    unfold zen at hv
    rcases List.mem_append.mp hv with h | h
    · exact hok v h
    · rw [List.eq_of_mem_replicate h]; exact zok_U




