section ZAFTER
variable {p : Program} {l : Launch} {e : Env} {R : Room} {s : State} {m : MethodId} {args : Array Value} {below : List Frame} {meth : Method} {c : Code} {H : Heap} {locs : List Loc} {cells slots : Nat} {D : va_G} {cA : Nat → ClassId} {B b : Nat} {Fin : State → Prop}
theorem z_after {pc n mc ms : Nat} {ls : Array Slot} {st0 rest : List Value} {a : Array Value} {Q' : zQ} (hr : va_Run p l e R s m args below meth c H locs cells slots mc ms (F0 m pc ls st0) rest (zQc D cA B b n Q' a) (zA B)) (hS : va_S (zA B) s.heap H locs)
    (kk : ∀ (v : Option zV) (sp' : zSP) (me' : zMe) (H1 : Heap) (locs1 : List Loc), Q' v sp' me' → zwd D cA B b sp' me' H1 → sp'.2.2 = n → (∀ x, v = some x → zok x) → va_S (zA B) s.heap H1 locs1 → W p l e R s m args below meth c H1 locs1 (cells + mc) (slots + ms) Fin (F0 m (pc + 3) ls ((v.map (ztr B b)).toList ++ rest))) : W p l e R s m args below meth c H locs cells slots Fin (F0 m pc ls st0) := by
  intro T hT X
  obtain ⟨v, st₀, t, T', L, h0, X', hL, e1, e2, ⟨⟨r, sp', me', hv, hq, hb, hn, hok⟩, hz, hk⟩, st⟩ := hr T hT X
  cases hv
  rw [h0] at hz hk
  obtain ⟨t2, a1, b1⟩ := kk r sp' me' T'.heap (locs ++ L) hq (by rw [e1]; exact hb) hn hok ⟨Nat.le_trans hS.1 (by rw [e1]; exact hz), fun q h1 h2 => by rw [e1, hk q (Nat.lt_of_lt_of_le h1 hS.1) h2]; exact hS.2.1 q h1 h2, fun q hq => by
    rcases List.mem_append.mp hq with h | h
    · exact hS.2.2 q h
    · exact hL q h⟩ T' rfl X'
  exact ⟨t2, st t2 a1, b1⟩
theorem zPc_blind {as : List zV} {sp : zSP} {me : zMe} : FrameBlind (zPc D cA B b as sp me) := by
  intro a U g mk ⟨h1, h2, h3, h4, h5, h6, h7⟩
  exact ⟨h1, h2, h3, va_K.moved (u := U) (U := U.calling g mk a) (Vm.Alike.refl U.vm) h4, fun w hw hn => va_Nw.same (u := U) (U := U.calling g mk a) (zNest_on hn) rfl (h5 w hw hn), fun C hC => va_AO.moved (u := U) (U := U.calling g mk a) (Vm.Alike.refl U.vm) (h6 C hC), h7⟩
end ZAFTER
def zLv (own : String) (idx : Nat) (y : MethodName) : Prop := Jvm.Cond.instanceMethod y ∈ zG ∧ Jvm.Cond.selects y.cls y y ∈ zG ∧ Jvm.Cond.initialized y.cls ∈ zG ∧ (Jvm.Cond.methodLink own idx y ∈ zG ∨ ∃ h, Jvm.Cond.methodLinkNest own idx y h ∈ lw_tbl)
def zLs (own : String) (idx : Nat) (y : MethodName) : Prop := Jvm.Cond.static y ∈ zG ∧ Jvm.Cond.initialized y.cls ∈ zG ∧ (Jvm.Cond.methodLink own idx y ∈ zG ∨ ∃ h, Jvm.Cond.methodLinkNest own idx y h ∈ lw_tbl)
def zLi (own : String) (idx : Nat) (y : MethodName) : Prop := Jvm.Cond.instanceMethod y ∈ zG ∧ y.name = "<init>" ∧ Jvm.Cond.initialized y.cls ∈ zG ∧ (Jvm.Cond.methodLink own idx y ∈ zG ∨ ∃ h, Jvm.Cond.methodLinkNest own idx y h ∈ lw_tbl)
theorem zgood {ws : List Jvm.Cond} (h : ∀ w ∈ ws, w ∈ zG) : GoodIn zG ws := fun w hw => zG_good w (h w hw)
theorem zwo_in {M : zMd} {n : Nat} (h : zMok M n) : ∀ w ∈ zwo M, w ∈ zG := fun w hw => by
  unfold zwo at hw
  rcases List.mem_cons.mp hw with rfl | hw
  · exact h.2.2.2.1
  · exact hw
section ZCALLS
variable {M M' : zMd} {d d' r1 r2 mc ms n : Nat} {Q Q' : zQ} {pc pc' idx : Nat} {L st rest As : List zV} {sp : zSP} {me : zMe}

theorem z_V {a ci : Nat} (hM : zMok M' n) (hlk : zLv M.1.cls idx M'.1) (dg : decode M.2.1 pc = .ok (.invokevirtual idx, 3)) (hp : pc + 3 = pc') (hn : As.length = n) (hd : d' + 1 ≤ d) (hlen : rest.length ≤ 4) (h1 : mc ≤ r1) (h2 : ms ≤ r2) (hci : ci < 10) (hcl : zRn ci = M'.1.cls) (hrecv : (sp.1 a).1 = 10 + ci) (hst0 : As.reverse ++ zR a :: rest = st) (hcall : zCall M' d' mc ms (zR a :: As) sp me Q') (hQ : ∀ v sp' me', Q' v sp' me' → zW M d (r1 - mc) (r2 - ms) Q pc' L (v.toList ++ rest) sp' me') : zW M d r1 r2 Q pc L st sp me := by
  intro k1 k2 p l e R s m args below meth c D cA B b Fin C H locs cells slots ls hl hw hS hz hr1 hr2 hL hst
  have C0 := C
  obtain ⟨hx, hb, hml, hown, hname, hts, hnw, hao, hK, hroom, hbud, hBs, hscr, hret⟩ := C0
  subst hp
  subst hst0
  intro T hT X
  have hsz := zsize C hw hS hz hT X
  have hM1 := hcall l D cA B b
  have h8 := zsum B b rest
  have hmaxL := hM.2.1
  have hrr : (zrm d' mc ms).frames + 1 ≤ R.frames ∧ 8 + (M'.2.2.1 + 11) + (zrm d' mc ms).locals ≤ R.locals := ⟨by show d' + 1 ≤ _; omega, by show 8 + (M'.2.2.1 + 11) + (64 * d' + 64) ≤ _; omega⟩
  have hbd : cells + mc ≤ R.cells ∧ slots + ms ≤ R.slots := ⟨by omega, by omega⟩
  have ha := hw.2.1 a (by rw [hrecv]; omega)
  have hrc : ∃ cellB : Cell, H[zad B b a]? = some cellB ∧ cellB.vm.isStatics = false ∧ s.vm.findClass M'.1.cls = some cellB.cls := by
    have he := zws_get (cA := cA) (B := B) (b := b) (sp := sp) (me := me) ha.1 ha.2
    rw [zcell_obj hrecv] at he
    have := va_recv hK hw.1 (zcl_at ci hci) he
    rw [zad_1 ha.1, ← hcl]
    exact this
  have PV : PreV s H M'.1.cls (zad B b a) (zPc D cA B b (zR a :: As) sp me) (As.map (ztr B b)) := ⟨zPc_blind, hrc, fun U hU hW => ⟨rfl, by rw [hU]; exact hw, by rw [hU]; exact hsz, va_K.moved hW.alike hK, fun w hw1 hn1 => zNest_warm hn1 hW (hnw w hw1 hn1), fun C hC => va_AO.moved hW.alike (hao C hC), fun v hv => hst v (by
    rcases List.mem_cons.mp hv with rfl | hv
    · simp
    · simp [hv])⟩⟩
  have hstk : (F0 m pc ls ((As.reverse ++ zR a :: rest).map (ztr B b))).stack = (As.map (ztr B b)).reverse ++ .ref (zad B b a) :: rest.map (ztr B b) := by
    show (As.reverse ++ zR a :: rest).map (ztr B b) = _
    rw [List.map_append, List.map_reverse]
    rfl
  have hd4 := hM.2.2.2.2
  rcases hlk.2.2.2 with hk | ⟨host, hk⟩
  · refine z_after (va_runV (Ts := zG) (C := M'.1.cls) ⟨hx, hb, hml, hown, hts⟩ hM1 (cwV n hts (zgood (fun w hw1 => ?_)) rfl rfl rfl ⟨rfl, hd4⟩ hrr) PV rfl (by rw [List.length_map]; exact hn) hl.1 hstk (lv_room (by omega)) dg hbd) hS (fun v sp' me' H1 locs1 hq hw1 hn1 hvok hS1 => by
    have e1 : (v.map (ztr B b)).toList ++ rest.map (ztr B b) = (v.toList ++ rest).map (ztr B b) := by cases v <;> rfl
    rw [e1]
    exact hQ v sp' me' hq k1 k2 p l e R s m args below meth c D cA B b Fin C H1 locs1 (cells + mc) (slots + ms) ls hl hw1 hS1 (by omega) (by omega) (by omega) hL (fun x hx2 => by
      rcases List.mem_append.mp hx2 with h | h
      · exact hvok x (by cases v <;> simp at h; rw [h])
      · exact hst x (by simp [h]))) T hT X
    unfold wsV at hw1
    rcases List.mem_append.mp hw1 with h | h
    · simp only [List.mem_cons, List.not_mem_nil, or_false] at h
      rcases h with rfl | rfl | rfl | rfl
      · exact hk
      · exact hlk.1
      · exact hlk.2.1
      · exact hlk.2.2.1
    · exact zwo_in hM w h
  · exact z_after (va_runVN (Ts := zG) (C := M'.1.cls) ⟨hx, hb, hml, hown, hts⟩ hM1 ⟨va_cnB n hts (zgood (zwo_in hM)) rfl rfl rfl (hnw _ hk rfl) (hts _ hlk.2.2.1) hd4 hrr, hts _ hlk.1, hts _ hlk.2.1⟩ PV rfl (by rw [List.length_map]; exact hn) hl.1 hstk (lv_room (by omega)) dg hbd) hS (fun v sp' me' H1 locs1 hq hw1 hn1 hvok hS1 => by
    have e1 : (v.map (ztr B b)).toList ++ rest.map (ztr B b) = (v.toList ++ rest).map (ztr B b) := by cases v <;> rfl
    rw [e1]
    exact hQ v sp' me' hq k1 k2 p l e R s m args below meth c D cA B b Fin C H1 locs1 (cells + mc) (slots + ms) ls hl hw1 hS1 (by omega) (by omega) (by omega) hL (fun x hx2 => by
      rcases List.mem_append.mp hx2 with h | h
      · exact hvok x (by cases v <;> simp at h; rw [h])
      · exact hst x (by simp [h]))) T hT X
theorem z_S (hM : zMok M' n) (hlk : zLs M.1.cls idx M'.1) (dg : decode M.2.1 pc = .ok (.invokestatic idx, 3)) (hp : pc + 3 = pc') (hn : As.length = n) (hd : d' + 1 ≤ d) (hlen : rest.length ≤ 4) (h1 : mc ≤ r1) (h2 : ms ≤ r2) (hst0 : As.reverse ++ rest = st) (hcall : zCall M' d' mc ms As sp me Q') (hQ : ∀ v sp' me', Q' v sp' me' → zW M d (r1 - mc) (r2 - ms) Q pc' L (v.toList ++ rest) sp' me') : zW M d r1 r2 Q pc L st sp me := by
  intro k1 k2 p l e R s m args below meth c D cA B b Fin C H locs cells slots ls hl hw hS hz hr1 hr2 hL hst
  have C0 := C
  obtain ⟨hx, hb, hml, hown, hname, hts, hnw, hao, hK, hroom, hbud, hBs, hscr, hret⟩ := C0
  subst hp
  subst hst0
  intro T hT X
  have hsz := zsize C hw hS hz hT X
  have hM1 := hcall l D cA B b
  have h8 := zsum B b rest
  have hmaxL := hM.2.1
  have hrr : (zrm d' mc ms).frames + 1 ≤ R.frames ∧ 8 + (M'.2.2.1 + 11) + (zrm d' mc ms).locals ≤ R.locals := ⟨by show d' + 1 ≤ _; omega, by show 8 + (M'.2.2.1 + 11) + (64 * d' + 64) ≤ _; omega⟩
  have hbd : cells + mc ≤ R.cells ∧ slots + ms ≤ R.slots := ⟨by omega, by omega⟩
  have PS : PreS s H (zPc D cA B b As sp me) (As.map (ztr B b)) := ⟨zPc_blind, fun U hU hW => ⟨rfl, by rw [hU]; exact hw, by rw [hU]; exact hsz, va_K.moved hW.alike hK, fun w hw1 hn1 => zNest_warm hn1 hW (hnw w hw1 hn1), fun C hC => va_AO.moved hW.alike (hao C hC), fun v hv => hst v (by simp [hv])⟩⟩
  have hstk : (F0 m pc ls ((As.reverse ++ rest).map (ztr B b))).stack = (As.map (ztr B b)).reverse ++ rest.map (ztr B b) := by
    show (As.reverse ++ rest).map (ztr B b) = _
    rw [List.map_append, List.map_reverse]
  have hd4 := hM.2.2.2.2
  rcases hlk.2.2 with hk | ⟨host, hk⟩
  · exact z_after (va_runS (Ts := zG) ⟨hx, hb, hml, hown, hts⟩ hM1 ⟨callB_of n hts (zgood (zwo_in hM)) rfl rfl rfl (hts _ hlk.2.1) (hts _ hk) hd4 hrr, hts _ hlk.1⟩ PS rfl (by rw [List.length_map]; exact hn) hl.1 hstk (lv_room (by omega)) dg hbd) hS (fun v sp' me' H1 locs1 hq hw1 hn1 hvok hS1 => by
    have e1 : (v.map (ztr B b)).toList ++ rest.map (ztr B b) = (v.toList ++ rest).map (ztr B b) := by cases v <;> rfl
    rw [e1]
    exact hQ v sp' me' hq k1 k2 p l e R s m args below meth c D cA B b Fin C H1 locs1 (cells + mc) (slots + ms) ls hl hw1 hS1 (by omega) (by omega) (by omega) hL (fun x hx2 => by
      rcases List.mem_append.mp hx2 with h | h
      · exact hvok x (by cases v <;> simp at h; rw [h])
      · exact hst x (by simp [h]))) T hT X
  · exact z_after (va_runSN (Ts := zG) ⟨hx, hb, hml, hown, hts⟩ hM1 ⟨va_cnB n hts (zgood (zwo_in hM)) rfl rfl rfl (hnw _ hk rfl) (hts _ hlk.2.1) hd4 hrr, hts _ hlk.1, trivial⟩ PS rfl (by rw [List.length_map]; exact hn) hl.1 hstk (lv_room (by omega)) dg hbd) hS (fun v sp' me' H1 locs1 hq hw1 hn1 hvok hS1 => by
    have e1 : (v.map (ztr B b)).toList ++ rest.map (ztr B b) = (v.toList ++ rest).map (ztr B b) := by cases v <;> rfl
    rw [e1]
    exact hQ v sp' me' hq k1 k2 p l e R s m args below meth c D cA B b Fin C H1 locs1 (cells + mc) (slots + ms) ls hl hw1 hS1 (by omega) (by omega) (by omega) hL (fun x hx2 => by
      rcases List.mem_append.mp hx2 with h | h
      · exact hvok x (by cases v <;> simp at h; rw [h])
      · exact hst x (by simp [h]))) T hT X
theorem z_I {a : Nat} (hM : zMok M' n) (hret0 : M'.2.2.2.1 = none) (hlk : zLi M.1.cls idx M'.1) (dg : decode M.2.1 pc = .ok (.invokespecial idx, 3)) (hp : pc + 3 = pc') (hn : As.length = n) (hd : d' + 1 ≤ d) (hlen : rest.length ≤ 4) (h1 : mc ≤ r1) (h2 : ms ≤ r2) (hst0 : As.reverse ++ zR a :: rest = st) (hcall : zCall M' d' mc ms (zR a :: As) sp me Q') (hQ : ∀ v sp' me', Q' v sp' me' → zW M d (r1 - mc) (r2 - ms) Q pc' L (v.toList ++ rest) sp' me') : zW M d r1 r2 Q pc L st sp me := by
  intro k1 k2 p l e R s m args below meth c D cA B b Fin C H locs cells slots ls hl hw hS hz hr1 hr2 hL hst
  have C0 := C
  obtain ⟨hx, hb, hml, hown, hname, hts, hnw, hao, hK, hroom, hbud, hBs, hscr, hret⟩ := C0
  subst hp
  subst hst0
  intro T hT X
  have hsz := zsize C hw hS hz hT X
  have hM1 := hcall l D cA B b
  have h8 := zsum B b rest
  have hmaxL := hM.2.1
  have hrr : (zrm d' mc ms).frames + 1 ≤ R.frames ∧ 8 + (M'.2.2.1 + 11) + (zrm d' mc ms).locals ≤ R.locals := ⟨by show d' + 1 ≤ _; omega, by show 8 + (M'.2.2.1 + 11) + (64 * d' + 64) ≤ _; omega⟩
  have hbd : cells + mc ≤ R.cells ∧ slots + ms ≤ R.slots := ⟨by omega, by omega⟩
  have PS : PreS s H (zPc D cA B b (zR a :: As) sp me) (.ref (zad B b a) :: As.map (ztr B b)) := ⟨zPc_blind, fun U hU hW => ⟨rfl, by rw [hU]; exact hw, by rw [hU]; exact hsz, va_K.moved hW.alike hK, fun w hw1 hn1 => zNest_warm hn1 hW (hnw w hw1 hn1), fun C hC => va_AO.moved hW.alike (hao C hC), fun v hv => hst v (by
    rcases List.mem_cons.mp hv with rfl | hv
    · simp
    · simp [hv])⟩⟩
  have hstk : (F0 m pc ls ((As.reverse ++ zR a :: rest).map (ztr B b))).stack = (As.map (ztr B b)).reverse ++ .ref (zad B b a) :: rest.map (ztr B b) := by
    show (As.reverse ++ zR a :: rest).map (ztr B b) = _
    rw [List.map_append, List.map_reverse]
    rfl
  have hd4 := hM.2.2.2.2
  rcases hlk.2.2.2 with hk | ⟨host, hk⟩
  · have cb := callB_of (R := R) (own := M.1.cls) (index := idx) (mc := mc) (ms := ms) (rm := zrm d' mc ms) (ws := zwo M') (ret := M'.2.2.2.1) (bytes := M'.2.1) n hts (zgood (zwo_in hM)) rfl rfl rfl (hts _ hlk.2.2.1) (hts _ hk) hd4 hrr
    rw [hret0] at cb
    exact z_after (va_runI (Ts := zG) ⟨hx, hb, hml, hown, hts⟩ hM1 ⟨cb, hlk.2.1, hts _ hlk.1⟩ PS rfl (by rw [List.length_map]; exact hn) hl.1 hstk (lv_room (by omega)) dg hbd) hS (fun v sp' me' H1 locs1 hq hw1 hn1 hvok hS1 => by
    have e1 : (v.map (ztr B b)).toList ++ rest.map (ztr B b) = (v.toList ++ rest).map (ztr B b) := by cases v <;> rfl
    rw [e1]
    exact hQ v sp' me' hq k1 k2 p l e R s m args below meth c D cA B b Fin C H1 locs1 (cells + mc) (slots + ms) ls hl hw1 hS1 (by omega) (by omega) (by omega) hL (fun x hx2 => by
      rcases List.mem_append.mp hx2 with h | h
      · exact hvok x (by cases v <;> simp at h; rw [h])
      · exact hst x (by simp [h]))) T hT X
  · have cb := va_cnB (R := R) (own := M.1.cls) (index := idx) (host := host) (mc := mc) (ms := ms) (rm := zrm d' mc ms) (ws := zwo M') (ret := M'.2.2.2.1) (bytes := M'.2.1) n hts (zgood (zwo_in hM)) rfl rfl rfl (hnw _ hk rfl) (hts _ hlk.2.2.1) hd4 hrr
    rw [hret0] at cb
    exact z_after (va_runIN (Ts := zG) ⟨hx, hb, hml, hown, hts⟩ hM1 ⟨cb, hlk.2.1, hts _ hlk.1⟩ PS rfl (by rw [List.length_map]; exact hn) hl.1 hstk (lv_room (by omega)) dg hbd) hS (fun v sp' me' H1 locs1 hq hw1 hn1 hvok hS1 => by
    have e1 : (v.map (ztr B b)).toList ++ rest.map (ztr B b) = (v.toList ++ rest).map (ztr B b) := by cases v <;> rfl
    rw [e1]
    exact hQ v sp' me' hq k1 k2 p l e R s m args below meth c D cA B b Fin C H1 locs1 (cells + mc) (slots + ms) ls hl hw1 hS1 (by omega) (by omega) (by omega) hL (fun x hx2 => by
      rcases List.mem_append.mp hx2 with h | h
      · exact hvok x (by cases v <;> simp at h; rw [h])
      · exact hst x (by simp [h]))) T hT X
/-- behind a call: with an answer, without one -/
def zKv (M : zMd) (d r1 r2 : Nat) (Q : zQ) (pc : Nat) (L st : List zV) : zQ := fun v sp me => ∃ x, v = some x ∧ zW M d r1 r2 Q pc L (x :: st) sp me
def zK0 (M : zMd) (d r1 r2 : Nat) (Q : zQ) (pc : Nat) (L st : List zV) : zQ := fun v sp me => v = none ∧ zW M d r1 r2 Q pc L st sp me
theorem zKv_i {x : zV} (h : zW M d r1 r2 Q pc L (x :: st) sp me) : zKv M d r1 r2 Q pc L st (some x) sp me := ⟨x, rfl, h⟩
theorem zK0_i (h : zW M d r1 r2 Q pc L st sp me) : zK0 M d r1 r2 Q pc L st none sp me := ⟨rfl, h⟩
theorem zKv_q : ∀ v sp' me', zKv M d r1 r2 Q pc' L rest v sp' me' → zW M d (r1 - 0) (r2 - 0) Q pc' L (v.toList ++ rest) sp' me' := fun v sp' me' ⟨x, hv, h⟩ => by subst hv; exact h
theorem zK0_q : ∀ v sp' me', zK0 M d r1 r2 Q pc' L rest v sp' me' → zW M d (r1 - 0) (r2 - 0) Q pc' L (v.toList ++ rest) sp' me' := fun v sp' me' ⟨hv, h⟩ => by subst hv; exact h

theorem z_V0v {a ci : Nat}  (hM : zMok M' 0) (hlk : zLv M.1.cls idx M'.1) (dg : decode M.2.1 pc = .ok (.invokevirtual idx, 3)) (hp : pc + 3 = pc') (hd : 1 ≤ d) (hlen : st.length ≤ 4) (hci : ci < 10) (hcl : zRn ci = M'.1.cls) (hrecv : (sp.1 a).1 = 10 + ci) (hcall : zCall M' (d - 1) 0 0 (zR a :: []) sp me (zKv M d r1 r2 Q pc' L st)) : zW M d r1 r2 Q pc L (zR a :: st) sp me := z_V (As := []) (rest := st) hM hlk dg hp rfl (by omega) hlen (Nat.zero_le _) (Nat.zero_le _) hci hcl hrecv rfl hcall zKv_q
theorem z_V00 {a ci : Nat}  (hM : zMok M' 0) (hlk : zLv M.1.cls idx M'.1) (dg : decode M.2.1 pc = .ok (.invokevirtual idx, 3)) (hp : pc + 3 = pc') (hd : 1 ≤ d) (hlen : st.length ≤ 4) (hci : ci < 10) (hcl : zRn ci = M'.1.cls) (hrecv : (sp.1 a).1 = 10 + ci) (hcall : zCall M' (d - 1) 0 0 (zR a :: []) sp me (zK0 M d r1 r2 Q pc' L st)) : zW M d r1 r2 Q pc L (zR a :: st) sp me := z_V (As := []) (rest := st) hM hlk dg hp rfl (by omega) hlen (Nat.zero_le _) (Nat.zero_le _) hci hcl hrecv rfl hcall zK0_q
theorem z_V1v {a ci : Nat} {x0 : zV} (hM : zMok M' 1) (hlk : zLv M.1.cls idx M'.1) (dg : decode M.2.1 pc = .ok (.invokevirtual idx, 3)) (hp : pc + 3 = pc') (hd : 1 ≤ d) (hlen : st.length ≤ 4) (hci : ci < 10) (hcl : zRn ci = M'.1.cls) (hrecv : (sp.1 a).1 = 10 + ci) (hcall : zCall M' (d - 1) 0 0 (zR a :: [x0]) sp me (zKv M d r1 r2 Q pc' L st)) : zW M d r1 r2 Q pc L (x0 :: zR a :: st) sp me := z_V (As := [x0]) (rest := st) hM hlk dg hp rfl (by omega) hlen (Nat.zero_le _) (Nat.zero_le _) hci hcl hrecv rfl hcall zKv_q
theorem z_S1v {x0 : zV} (hM : zMok M' 1) (hlk : zLs M.1.cls idx M'.1) (dg : decode M.2.1 pc = .ok (.invokestatic idx, 3)) (hp : pc + 3 = pc') (hd : 1 ≤ d) (hlen : st.length ≤ 4) (hcall : zCall M' (d - 1) 0 0 [x0] sp me (zKv M d r1 r2 Q pc' L st)) : zW M d r1 r2 Q pc L (x0 :: st) sp me := z_S (As := [x0]) (rest := st) hM hlk dg hp rfl (by omega) hlen (Nat.zero_le _) (Nat.zero_le _) rfl hcall zKv_q
theorem z_V10 {a ci : Nat} {x0 : zV} (hM : zMok M' 1) (hlk : zLv M.1.cls idx M'.1) (dg : decode M.2.1 pc = .ok (.invokevirtual idx, 3)) (hp : pc + 3 = pc') (hd : 1 ≤ d) (hlen : st.length ≤ 4) (hci : ci < 10) (hcl : zRn ci = M'.1.cls) (hrecv : (sp.1 a).1 = 10 + ci) (hcall : zCall M' (d - 1) 0 0 (zR a :: [x0]) sp me (zK0 M d r1 r2 Q pc' L st)) : zW M d r1 r2 Q pc L (x0 :: zR a :: st) sp me := z_V (As := [x0]) (rest := st) hM hlk dg hp rfl (by omega) hlen (Nat.zero_le _) (Nat.zero_le _) hci hcl hrecv rfl hcall zK0_q
theorem z_S10 {x0 : zV} (hM : zMok M' 1) (hlk : zLs M.1.cls idx M'.1) (dg : decode M.2.1 pc = .ok (.invokestatic idx, 3)) (hp : pc + 3 = pc') (hd : 1 ≤ d) (hlen : st.length ≤ 4) (hcall : zCall M' (d - 1) 0 0 [x0] sp me (zK0 M d r1 r2 Q pc' L st)) : zW M d r1 r2 Q pc L (x0 :: st) sp me := z_S (As := [x0]) (rest := st) hM hlk dg hp rfl (by omega) hlen (Nat.zero_le _) (Nat.zero_le _) rfl hcall zK0_q
theorem z_V2v {a ci : Nat} {x0 x1 : zV} (hM : zMok M' 2) (hlk : zLv M.1.cls idx M'.1) (dg : decode M.2.1 pc = .ok (.invokevirtual idx, 3)) (hp : pc + 3 = pc') (hd : 1 ≤ d) (hlen : st.length ≤ 4) (hci : ci < 10) (hcl : zRn ci = M'.1.cls) (hrecv : (sp.1 a).1 = 10 + ci) (hcall : zCall M' (d - 1) 0 0 (zR a :: [x0, x1]) sp me (zKv M d r1 r2 Q pc' L st)) : zW M d r1 r2 Q pc L (x1 :: x0 :: zR a :: st) sp me := z_V (As := [x0, x1]) (rest := st) hM hlk dg hp rfl (by omega) hlen (Nat.zero_le _) (Nat.zero_le _) hci hcl hrecv rfl hcall zKv_q
theorem z_S2v {x0 x1 : zV} (hM : zMok M' 2) (hlk : zLs M.1.cls idx M'.1) (dg : decode M.2.1 pc = .ok (.invokestatic idx, 3)) (hp : pc + 3 = pc') (hd : 1 ≤ d) (hlen : st.length ≤ 4) (hcall : zCall M' (d - 1) 0 0 [x0, x1] sp me (zKv M d r1 r2 Q pc' L st)) : zW M d r1 r2 Q pc L (x1 :: x0 :: st) sp me := z_S (As := [x0, x1]) (rest := st) hM hlk dg hp rfl (by omega) hlen (Nat.zero_le _) (Nat.zero_le _) rfl hcall zKv_q
theorem z_V20 {a ci : Nat} {x0 x1 : zV} (hM : zMok M' 2) (hlk : zLv M.1.cls idx M'.1) (dg : decode M.2.1 pc = .ok (.invokevirtual idx, 3)) (hp : pc + 3 = pc') (hd : 1 ≤ d) (hlen : st.length ≤ 4) (hci : ci < 10) (hcl : zRn ci = M'.1.cls) (hrecv : (sp.1 a).1 = 10 + ci) (hcall : zCall M' (d - 1) 0 0 (zR a :: [x0, x1]) sp me (zK0 M d r1 r2 Q pc' L st)) : zW M d r1 r2 Q pc L (x1 :: x0 :: zR a :: st) sp me := z_V (As := [x0, x1]) (rest := st) hM hlk dg hp rfl (by omega) hlen (Nat.zero_le _) (Nat.zero_le _) hci hcl hrecv rfl hcall zK0_q
theorem z_S20 {x0 x1 : zV} (hM : zMok M' 2) (hlk : zLs M.1.cls idx M'.1) (dg : decode M.2.1 pc = .ok (.invokestatic idx, 3)) (hp : pc + 3 = pc') (hd : 1 ≤ d) (hlen : st.length ≤ 4) (hcall : zCall M' (d - 1) 0 0 [x0, x1] sp me (zK0 M d r1 r2 Q pc' L st)) : zW M d r1 r2 Q pc L (x1 :: x0 :: st) sp me := z_S (As := [x0, x1]) (rest := st) hM hlk dg hp rfl (by omega) hlen (Nat.zero_le _) (Nat.zero_le _) rfl hcall zK0_q
theorem z_V3v {a ci : Nat} {x0 x1 x2 : zV} (hM : zMok M' 3) (hlk : zLv M.1.cls idx M'.1) (dg : decode M.2.1 pc = .ok (.invokevirtual idx, 3)) (hp : pc + 3 = pc') (hd : 1 ≤ d) (hlen : st.length ≤ 4) (hci : ci < 10) (hcl : zRn ci = M'.1.cls) (hrecv : (sp.1 a).1 = 10 + ci) (hcall : zCall M' (d - 1) 0 0 (zR a :: [x0, x1, x2]) sp me (zKv M d r1 r2 Q pc' L st)) : zW M d r1 r2 Q pc L (x2 :: x1 :: x0 :: zR a :: st) sp me := z_V (As := [x0, x1, x2]) (rest := st) hM hlk dg hp rfl (by omega) hlen (Nat.zero_le _) (Nat.zero_le _) hci hcl hrecv rfl hcall zKv_q
theorem z_S3v {x0 x1 x2 : zV} (hM : zMok M' 3) (hlk : zLs M.1.cls idx M'.1) (dg : decode M.2.1 pc = .ok (.invokestatic idx, 3)) (hp : pc + 3 = pc') (hd : 1 ≤ d) (hlen : st.length ≤ 4) (hcall : zCall M' (d - 1) 0 0 [x0, x1, x2] sp me (zKv M d r1 r2 Q pc' L st)) : zW M d r1 r2 Q pc L (x2 :: x1 :: x0 :: st) sp me := z_S (As := [x0, x1, x2]) (rest := st) hM hlk dg hp rfl (by omega) hlen (Nat.zero_le _) (Nat.zero_le _) rfl hcall zKv_q
theorem z_V30 {a ci : Nat} {x0 x1 x2 : zV} (hM : zMok M' 3) (hlk : zLv M.1.cls idx M'.1) (dg : decode M.2.1 pc = .ok (.invokevirtual idx, 3)) (hp : pc + 3 = pc') (hd : 1 ≤ d) (hlen : st.length ≤ 4) (hci : ci < 10) (hcl : zRn ci = M'.1.cls) (hrecv : (sp.1 a).1 = 10 + ci) (hcall : zCall M' (d - 1) 0 0 (zR a :: [x0, x1, x2]) sp me (zK0 M d r1 r2 Q pc' L st)) : zW M d r1 r2 Q pc L (x2 :: x1 :: x0 :: zR a :: st) sp me := z_V (As := [x0, x1, x2]) (rest := st) hM hlk dg hp rfl (by omega) hlen (Nat.zero_le _) (Nat.zero_le _) hci hcl hrecv rfl hcall zK0_q
theorem z_S30 {x0 x1 x2 : zV} (hM : zMok M' 3) (hlk : zLs M.1.cls idx M'.1) (dg : decode M.2.1 pc = .ok (.invokestatic idx, 3)) (hp : pc + 3 = pc') (hd : 1 ≤ d) (hlen : st.length ≤ 4) (hcall : zCall M' (d - 1) 0 0 [x0, x1, x2] sp me (zK0 M d r1 r2 Q pc' L st)) : zW M d r1 r2 Q pc L (x2 :: x1 :: x0 :: st) sp me := z_S (As := [x0, x1, x2]) (rest := st) hM hlk dg hp rfl (by omega) hlen (Nat.zero_le _) (Nat.zero_le _) rfl hcall zK0_q
theorem z_V4v {a ci : Nat} {x0 x1 x2 x3 : zV} (hM : zMok M' 4) (hlk : zLv M.1.cls idx M'.1) (dg : decode M.2.1 pc = .ok (.invokevirtual idx, 3)) (hp : pc + 3 = pc') (hd : 1 ≤ d) (hlen : st.length ≤ 4) (hci : ci < 10) (hcl : zRn ci = M'.1.cls) (hrecv : (sp.1 a).1 = 10 + ci) (hcall : zCall M' (d - 1) 0 0 (zR a :: [x0, x1, x2, x3]) sp me (zKv M d r1 r2 Q pc' L st)) : zW M d r1 r2 Q pc L (x3 :: x2 :: x1 :: x0 :: zR a :: st) sp me := z_V (As := [x0, x1, x2, x3]) (rest := st) hM hlk dg hp rfl (by omega) hlen (Nat.zero_le _) (Nat.zero_le _) hci hcl hrecv rfl hcall zKv_q
theorem z_S4v {x0 x1 x2 x3 : zV} (hM : zMok M' 4) (hlk : zLs M.1.cls idx M'.1) (dg : decode M.2.1 pc = .ok (.invokestatic idx, 3)) (hp : pc + 3 = pc') (hd : 1 ≤ d) (hlen : st.length ≤ 4) (hcall : zCall M' (d - 1) 0 0 [x0, x1, x2, x3] sp me (zKv M d r1 r2 Q pc' L st)) : zW M d r1 r2 Q pc L (x3 :: x2 :: x1 :: x0 :: st) sp me := z_S (As := [x0, x1, x2, x3]) (rest := st) hM hlk dg hp rfl (by omega) hlen (Nat.zero_le _) (Nat.zero_le _) rfl hcall zKv_q
theorem z_V40 {a ci : Nat} {x0 x1 x2 x3 : zV} (hM : zMok M' 4) (hlk : zLv M.1.cls idx M'.1) (dg : decode M.2.1 pc = .ok (.invokevirtual idx, 3)) (hp : pc + 3 = pc') (hd : 1 ≤ d) (hlen : st.length ≤ 4) (hci : ci < 10) (hcl : zRn ci = M'.1.cls) (hrecv : (sp.1 a).1 = 10 + ci) (hcall : zCall M' (d - 1) 0 0 (zR a :: [x0, x1, x2, x3]) sp me (zK0 M d r1 r2 Q pc' L st)) : zW M d r1 r2 Q pc L (x3 :: x2 :: x1 :: x0 :: zR a :: st) sp me := z_V (As := [x0, x1, x2, x3]) (rest := st) hM hlk dg hp rfl (by omega) hlen (Nat.zero_le _) (Nat.zero_le _) hci hcl hrecv rfl hcall zK0_q
theorem z_S40 {x0 x1 x2 x3 : zV} (hM : zMok M' 4) (hlk : zLs M.1.cls idx M'.1) (dg : decode M.2.1 pc = .ok (.invokestatic idx, 3)) (hp : pc + 3 = pc') (hd : 1 ≤ d) (hlen : st.length ≤ 4) (hcall : zCall M' (d - 1) 0 0 [x0, x1, x2, x3] sp me (zK0 M d r1 r2 Q pc' L st)) : zW M d r1 r2 Q pc L (x3 :: x2 :: x1 :: x0 :: st) sp me := z_S (As := [x0, x1, x2, x3]) (rest := st) hM hlk dg hp rfl (by omega) hlen (Nat.zero_le _) (Nat.zero_le _) rfl hcall zK0_q
theorem z_V5v {a ci : Nat} {x0 x1 x2 x3 x4 : zV} (hM : zMok M' 5) (hlk : zLv M.1.cls idx M'.1) (dg : decode M.2.1 pc = .ok (.invokevirtual idx, 3)) (hp : pc + 3 = pc') (hd : 1 ≤ d) (hlen : st.length ≤ 4) (hci : ci < 10) (hcl : zRn ci = M'.1.cls) (hrecv : (sp.1 a).1 = 10 + ci) (hcall : zCall M' (d - 1) 0 0 (zR a :: [x0, x1, x2, x3, x4]) sp me (zKv M d r1 r2 Q pc' L st)) : zW M d r1 r2 Q pc L (x4 :: x3 :: x2 :: x1 :: x0 :: zR a :: st) sp me := z_V (As := [x0, x1, x2, x3, x4]) (rest := st) hM hlk dg hp rfl (by omega) hlen (Nat.zero_le _) (Nat.zero_le _) hci hcl hrecv rfl hcall zKv_q
theorem z_S5v {x0 x1 x2 x3 x4 : zV} (hM : zMok M' 5) (hlk : zLs M.1.cls idx M'.1) (dg : decode M.2.1 pc = .ok (.invokestatic idx, 3)) (hp : pc + 3 = pc') (hd : 1 ≤ d) (hlen : st.length ≤ 4) (hcall : zCall M' (d - 1) 0 0 [x0, x1, x2, x3, x4] sp me (zKv M d r1 r2 Q pc' L st)) : zW M d r1 r2 Q pc L (x4 :: x3 :: x2 :: x1 :: x0 :: st) sp me := z_S (As := [x0, x1, x2, x3, x4]) (rest := st) hM hlk dg hp rfl (by omega) hlen (Nat.zero_le _) (Nat.zero_le _) rfl hcall zKv_q
theorem z_V50 {a ci : Nat} {x0 x1 x2 x3 x4 : zV} (hM : zMok M' 5) (hlk : zLv M.1.cls idx M'.1) (dg : decode M.2.1 pc = .ok (.invokevirtual idx, 3)) (hp : pc + 3 = pc') (hd : 1 ≤ d) (hlen : st.length ≤ 4) (hci : ci < 10) (hcl : zRn ci = M'.1.cls) (hrecv : (sp.1 a).1 = 10 + ci) (hcall : zCall M' (d - 1) 0 0 (zR a :: [x0, x1, x2, x3, x4]) sp me (zK0 M d r1 r2 Q pc' L st)) : zW M d r1 r2 Q pc L (x4 :: x3 :: x2 :: x1 :: x0 :: zR a :: st) sp me := z_V (As := [x0, x1, x2, x3, x4]) (rest := st) hM hlk dg hp rfl (by omega) hlen (Nat.zero_le _) (Nat.zero_le _) hci hcl hrecv rfl hcall zK0_q
theorem z_S50 {x0 x1 x2 x3 x4 : zV} (hM : zMok M' 5) (hlk : zLs M.1.cls idx M'.1) (dg : decode M.2.1 pc = .ok (.invokestatic idx, 3)) (hp : pc + 3 = pc') (hd : 1 ≤ d) (hlen : st.length ≤ 4) (hcall : zCall M' (d - 1) 0 0 [x0, x1, x2, x3, x4] sp me (zK0 M d r1 r2 Q pc' L st)) : zW M d r1 r2 Q pc L (x4 :: x3 :: x2 :: x1 :: x0 :: st) sp me := z_S (As := [x0, x1, x2, x3, x4]) (rest := st) hM hlk dg hp rfl (by omega) hlen (Nat.zero_le _) (Nat.zero_le _) rfl hcall zK0_q
theorem z_S6v {x0 x1 x2 x3 x4 x5 : zV} (hM : zMok M' 6) (hlk : zLs M.1.cls idx M'.1) (dg : decode M.2.1 pc = .ok (.invokestatic idx, 3)) (hp : pc + 3 = pc') (hd : 1 ≤ d) (hlen : st.length ≤ 4) (hcall : zCall M' (d - 1) 0 0 [x0, x1, x2, x3, x4, x5] sp me (zKv M d r1 r2 Q pc' L st)) : zW M d r1 r2 Q pc L (x5 :: x4 :: x3 :: x2 :: x1 :: x0 :: st) sp me := z_S (As := [x0, x1, x2, x3, x4, x5]) (rest := st) hM hlk dg hp rfl (by omega) hlen (Nat.zero_le _) (Nat.zero_le _) rfl hcall zKv_q
theorem z_S60 {x0 x1 x2 x3 x4 x5 : zV} (hM : zMok M' 6) (hlk : zLs M.1.cls idx M'.1) (dg : decode M.2.1 pc = .ok (.invokestatic idx, 3)) (hp : pc + 3 = pc') (hd : 1 ≤ d) (hlen : st.length ≤ 4) (hcall : zCall M' (d - 1) 0 0 [x0, x1, x2, x3, x4, x5] sp me (zK0 M d r1 r2 Q pc' L st)) : zW M d r1 r2 Q pc L (x5 :: x4 :: x3 :: x2 :: x1 :: x0 :: st) sp me := z_S (As := [x0, x1, x2, x3, x4, x5]) (rest := st) hM hlk dg hp rfl (by omega) hlen (Nat.zero_le _) (Nat.zero_le _) rfl hcall zK0_q
theorem z_S7v {x0 x1 x2 x3 x4 x5 x6 : zV} (hM : zMok M' 7) (hlk : zLs M.1.cls idx M'.1) (dg : decode M.2.1 pc = .ok (.invokestatic idx, 3)) (hp : pc + 3 = pc') (hd : 1 ≤ d) (hlen : st.length ≤ 4) (hcall : zCall M' (d - 1) 0 0 [x0, x1, x2, x3, x4, x5, x6] sp me (zKv M d r1 r2 Q pc' L st)) : zW M d r1 r2 Q pc L (x6 :: x5 :: x4 :: x3 :: x2 :: x1 :: x0 :: st) sp me := z_S (As := [x0, x1, x2, x3, x4, x5, x6]) (rest := st) hM hlk dg hp rfl (by omega) hlen (Nat.zero_le _) (Nat.zero_le _) rfl hcall zKv_q
theorem z_S70 {x0 x1 x2 x3 x4 x5 x6 : zV} (hM : zMok M' 7) (hlk : zLs M.1.cls idx M'.1) (dg : decode M.2.1 pc = .ok (.invokestatic idx, 3)) (hp : pc + 3 = pc') (hd : 1 ≤ d) (hlen : st.length ≤ 4) (hcall : zCall M' (d - 1) 0 0 [x0, x1, x2, x3, x4, x5, x6] sp me (zK0 M d r1 r2 Q pc' L st)) : zW M d r1 r2 Q pc L (x6 :: x5 :: x4 :: x3 :: x2 :: x1 :: x0 :: st) sp me := z_S (As := [x0, x1, x2, x3, x4, x5, x6]) (rest := st) hM hlk dg hp rfl (by omega) hlen (Nat.zero_le _) (Nat.zero_le _) rfl hcall zK0_q
theorem z_S8v {x0 x1 x2 x3 x4 x5 x6 x7 : zV} (hM : zMok M' 8) (hlk : zLs M.1.cls idx M'.1) (dg : decode M.2.1 pc = .ok (.invokestatic idx, 3)) (hp : pc + 3 = pc') (hd : 1 ≤ d) (hlen : st.length ≤ 4) (hcall : zCall M' (d - 1) 0 0 [x0, x1, x2, x3, x4, x5, x6, x7] sp me (zKv M d r1 r2 Q pc' L st)) : zW M d r1 r2 Q pc L (x7 :: x6 :: x5 :: x4 :: x3 :: x2 :: x1 :: x0 :: st) sp me := z_S (As := [x0, x1, x2, x3, x4, x5, x6, x7]) (rest := st) hM hlk dg hp rfl (by omega) hlen (Nat.zero_le _) (Nat.zero_le _) rfl hcall zKv_q
theorem z_S80 {x0 x1 x2 x3 x4 x5 x6 x7 : zV} (hM : zMok M' 8) (hlk : zLs M.1.cls idx M'.1) (dg : decode M.2.1 pc = .ok (.invokestatic idx, 3)) (hp : pc + 3 = pc') (hd : 1 ≤ d) (hlen : st.length ≤ 4) (hcall : zCall M' (d - 1) 0 0 [x0, x1, x2, x3, x4, x5, x6, x7] sp me (zK0 M d r1 r2 Q pc' L st)) : zW M d r1 r2 Q pc L (x7 :: x6 :: x5 :: x4 :: x3 :: x2 :: x1 :: x0 :: st) sp me := z_S (As := [x0, x1, x2, x3, x4, x5, x6, x7]) (rest := st) hM hlk dg hp rfl (by omega) hlen (Nat.zero_le _) (Nat.zero_le _) rfl hcall zK0_q
theorem z_S9v {x0 x1 x2 x3 x4 x5 x6 x7 x8 : zV} (hM : zMok M' 9) (hlk : zLs M.1.cls idx M'.1) (dg : decode M.2.1 pc = .ok (.invokestatic idx, 3)) (hp : pc + 3 = pc') (hd : 1 ≤ d) (hlen : st.length ≤ 4) (hcall : zCall M' (d - 1) 0 0 [x0, x1, x2, x3, x4, x5, x6, x7, x8] sp me (zKv M d r1 r2 Q pc' L st)) : zW M d r1 r2 Q pc L (x8 :: x7 :: x6 :: x5 :: x4 :: x3 :: x2 :: x1 :: x0 :: st) sp me := z_S (As := [x0, x1, x2, x3, x4, x5, x6, x7, x8]) (rest := st) hM hlk dg hp rfl (by omega) hlen (Nat.zero_le _) (Nat.zero_le _) rfl hcall zKv_q
theorem z_S90 {x0 x1 x2 x3 x4 x5 x6 x7 x8 : zV} (hM : zMok M' 9) (hlk : zLs M.1.cls idx M'.1) (dg : decode M.2.1 pc = .ok (.invokestatic idx, 3)) (hp : pc + 3 = pc') (hd : 1 ≤ d) (hlen : st.length ≤ 4) (hcall : zCall M' (d - 1) 0 0 [x0, x1, x2, x3, x4, x5, x6, x7, x8] sp me (zK0 M d r1 r2 Q pc' L st)) : zW M d r1 r2 Q pc L (x8 :: x7 :: x6 :: x5 :: x4 :: x3 :: x2 :: x1 :: x0 :: st) sp me := z_S (As := [x0, x1, x2, x3, x4, x5, x6, x7, x8]) (rest := st) hM hlk dg hp rfl (by omega) hlen (Nat.zero_le _) (Nat.zero_le _) rfl hcall zK0_q
theorem z_T1v {r1' r2' : Nat} {x0 : zV} (hM : zMok M' 1) (hlk : zLs M.1.cls idx M'.1) (dg : decode M.2.1 pc = .ok (.invokestatic idx, 3)) (hp : pc + 3 = pc') (hd : 1 ≤ d) (hlen : st.length ≤ 4) (h1 : r1' + mc = r1) (h2 : r2' + ms = r2) (hcall : zCall M' (d - 1) mc ms [x0] sp me (zKv M d r1' r2' Q pc' L st)) : zW M d r1 r2 Q pc L (x0 :: st) sp me := z_S (As := [x0]) (rest := st) hM hlk dg hp rfl (by omega) hlen (by omega) (by omega) rfl hcall (fun v sp' me' ⟨x, hv, h⟩ => by subst hv; rw [show r1 - mc = r1' by omega, show r2 - ms = r2' by omega]; exact h)
theorem z_T10 {r1' r2' : Nat} {x0 : zV} (hM : zMok M' 1) (hlk : zLs M.1.cls idx M'.1) (dg : decode M.2.1 pc = .ok (.invokestatic idx, 3)) (hp : pc + 3 = pc') (hd : 1 ≤ d) (hlen : st.length ≤ 4) (h1 : r1' + mc = r1) (h2 : r2' + ms = r2) (hcall : zCall M' (d - 1) mc ms [x0] sp me (zK0 M d r1' r2' Q pc' L st)) : zW M d r1 r2 Q pc L (x0 :: st) sp me := z_S (As := [x0]) (rest := st) hM hlk dg hp rfl (by omega) hlen (by omega) (by omega) rfl hcall (fun v sp' me' ⟨hv, h⟩ => by subst hv; rw [show r1 - mc = r1' by omega, show r2 - ms = r2' by omega]; exact h)
theorem z_T2v {r1' r2' : Nat} {x0 x1 : zV} (hM : zMok M' 2) (hlk : zLs M.1.cls idx M'.1) (dg : decode M.2.1 pc = .ok (.invokestatic idx, 3)) (hp : pc + 3 = pc') (hd : 1 ≤ d) (hlen : st.length ≤ 4) (h1 : r1' + mc = r1) (h2 : r2' + ms = r2) (hcall : zCall M' (d - 1) mc ms [x0, x1] sp me (zKv M d r1' r2' Q pc' L st)) : zW M d r1 r2 Q pc L (x1 :: x0 :: st) sp me := z_S (As := [x0, x1]) (rest := st) hM hlk dg hp rfl (by omega) hlen (by omega) (by omega) rfl hcall (fun v sp' me' ⟨x, hv, h⟩ => by subst hv; rw [show r1 - mc = r1' by omega, show r2 - ms = r2' by omega]; exact h)
theorem z_T20 {r1' r2' : Nat} {x0 x1 : zV} (hM : zMok M' 2) (hlk : zLs M.1.cls idx M'.1) (dg : decode M.2.1 pc = .ok (.invokestatic idx, 3)) (hp : pc + 3 = pc') (hd : 1 ≤ d) (hlen : st.length ≤ 4) (h1 : r1' + mc = r1) (h2 : r2' + ms = r2) (hcall : zCall M' (d - 1) mc ms [x0, x1] sp me (zK0 M d r1' r2' Q pc' L st)) : zW M d r1 r2 Q pc L (x1 :: x0 :: st) sp me := z_S (As := [x0, x1]) (rest := st) hM hlk dg hp rfl (by omega) hlen (by omega) (by omega) rfl hcall (fun v sp' me' ⟨hv, h⟩ => by subst hv; rw [show r1 - mc = r1' by omega, show r2 - ms = r2' by omega]; exact h)
theorem z_T3v {r1' r2' : Nat} {x0 x1 x2 : zV} (hM : zMok M' 3) (hlk : zLs M.1.cls idx M'.1) (dg : decode M.2.1 pc = .ok (.invokestatic idx, 3)) (hp : pc + 3 = pc') (hd : 1 ≤ d) (hlen : st.length ≤ 4) (h1 : r1' + mc = r1) (h2 : r2' + ms = r2) (hcall : zCall M' (d - 1) mc ms [x0, x1, x2] sp me (zKv M d r1' r2' Q pc' L st)) : zW M d r1 r2 Q pc L (x2 :: x1 :: x0 :: st) sp me := z_S (As := [x0, x1, x2]) (rest := st) hM hlk dg hp rfl (by omega) hlen (by omega) (by omega) rfl hcall (fun v sp' me' ⟨x, hv, h⟩ => by subst hv; rw [show r1 - mc = r1' by omega, show r2 - ms = r2' by omega]; exact h)
theorem z_T30 {r1' r2' : Nat} {x0 x1 x2 : zV} (hM : zMok M' 3) (hlk : zLs M.1.cls idx M'.1) (dg : decode M.2.1 pc = .ok (.invokestatic idx, 3)) (hp : pc + 3 = pc') (hd : 1 ≤ d) (hlen : st.length ≤ 4) (h1 : r1' + mc = r1) (h2 : r2' + ms = r2) (hcall : zCall M' (d - 1) mc ms [x0, x1, x2] sp me (zK0 M d r1' r2' Q pc' L st)) : zW M d r1 r2 Q pc L (x2 :: x1 :: x0 :: st) sp me := z_S (As := [x0, x1, x2]) (rest := st) hM hlk dg hp rfl (by omega) hlen (by omega) (by omega) rfl hcall (fun v sp' me' ⟨hv, h⟩ => by subst hv; rw [show r1 - mc = r1' by omega, show r2 - ms = r2' by omega]; exact h)
theorem z_T4v {r1' r2' : Nat} {x0 x1 x2 x3 : zV} (hM : zMok M' 4) (hlk : zLs M.1.cls idx M'.1) (dg : decode M.2.1 pc = .ok (.invokestatic idx, 3)) (hp : pc + 3 = pc') (hd : 1 ≤ d) (hlen : st.length ≤ 4) (h1 : r1' + mc = r1) (h2 : r2' + ms = r2) (hcall : zCall M' (d - 1) mc ms [x0, x1, x2, x3] sp me (zKv M d r1' r2' Q pc' L st)) : zW M d r1 r2 Q pc L (x3 :: x2 :: x1 :: x0 :: st) sp me := z_S (As := [x0, x1, x2, x3]) (rest := st) hM hlk dg hp rfl (by omega) hlen (by omega) (by omega) rfl hcall (fun v sp' me' ⟨x, hv, h⟩ => by subst hv; rw [show r1 - mc = r1' by omega, show r2 - ms = r2' by omega]; exact h)
theorem z_T40 {r1' r2' : Nat} {x0 x1 x2 x3 : zV} (hM : zMok M' 4) (hlk : zLs M.1.cls idx M'.1) (dg : decode M.2.1 pc = .ok (.invokestatic idx, 3)) (hp : pc + 3 = pc') (hd : 1 ≤ d) (hlen : st.length ≤ 4) (h1 : r1' + mc = r1) (h2 : r2' + ms = r2) (hcall : zCall M' (d - 1) mc ms [x0, x1, x2, x3] sp me (zK0 M d r1' r2' Q pc' L st)) : zW M d r1 r2 Q pc L (x3 :: x2 :: x1 :: x0 :: st) sp me := z_S (As := [x0, x1, x2, x3]) (rest := st) hM hlk dg hp rfl (by omega) hlen (by omega) (by omega) rfl hcall (fun v sp' me' ⟨hv, h⟩ => by subst hv; rw [show r1 - mc = r1' by omega, show r2 - ms = r2' by omega]; exact h)
theorem z_T5v {r1' r2' : Nat} {x0 x1 x2 x3 x4 : zV} (hM : zMok M' 5) (hlk : zLs M.1.cls idx M'.1) (dg : decode M.2.1 pc = .ok (.invokestatic idx, 3)) (hp : pc + 3 = pc') (hd : 1 ≤ d) (hlen : st.length ≤ 4) (h1 : r1' + mc = r1) (h2 : r2' + ms = r2) (hcall : zCall M' (d - 1) mc ms [x0, x1, x2, x3, x4] sp me (zKv M d r1' r2' Q pc' L st)) : zW M d r1 r2 Q pc L (x4 :: x3 :: x2 :: x1 :: x0 :: st) sp me := z_S (As := [x0, x1, x2, x3, x4]) (rest := st) hM hlk dg hp rfl (by omega) hlen (by omega) (by omega) rfl hcall (fun v sp' me' ⟨x, hv, h⟩ => by subst hv; rw [show r1 - mc = r1' by omega, show r2 - ms = r2' by omega]; exact h)
theorem z_T50 {r1' r2' : Nat} {x0 x1 x2 x3 x4 : zV} (hM : zMok M' 5) (hlk : zLs M.1.cls idx M'.1) (dg : decode M.2.1 pc = .ok (.invokestatic idx, 3)) (hp : pc + 3 = pc') (hd : 1 ≤ d) (hlen : st.length ≤ 4) (h1 : r1' + mc = r1) (h2 : r2' + ms = r2) (hcall : zCall M' (d - 1) mc ms [x0, x1, x2, x3, x4] sp me (zK0 M d r1' r2' Q pc' L st)) : zW M d r1 r2 Q pc L (x4 :: x3 :: x2 :: x1 :: x0 :: st) sp me := z_S (As := [x0, x1, x2, x3, x4]) (rest := st) hM hlk dg hp rfl (by omega) hlen (by omega) (by omega) rfl hcall (fun v sp' me' ⟨hv, h⟩ => by subst hv; rw [show r1 - mc = r1' by omega, show r2 - ms = r2' by omega]; exact h)
theorem z_T6v {r1' r2' : Nat} {x0 x1 x2 x3 x4 x5 : zV} (hM : zMok M' 6) (hlk : zLs M.1.cls idx M'.1) (dg : decode M.2.1 pc = .ok (.invokestatic idx, 3)) (hp : pc + 3 = pc') (hd : 1 ≤ d) (hlen : st.length ≤ 4) (h1 : r1' + mc = r1) (h2 : r2' + ms = r2) (hcall : zCall M' (d - 1) mc ms [x0, x1, x2, x3, x4, x5] sp me (zKv M d r1' r2' Q pc' L st)) : zW M d r1 r2 Q pc L (x5 :: x4 :: x3 :: x2 :: x1 :: x0 :: st) sp me := z_S (As := [x0, x1, x2, x3, x4, x5]) (rest := st) hM hlk dg hp rfl (by omega) hlen (by omega) (by omega) rfl hcall (fun v sp' me' ⟨x, hv, h⟩ => by subst hv; rw [show r1 - mc = r1' by omega, show r2 - ms = r2' by omega]; exact h)
theorem z_T60 {r1' r2' : Nat} {x0 x1 x2 x3 x4 x5 : zV} (hM : zMok M' 6) (hlk : zLs M.1.cls idx M'.1) (dg : decode M.2.1 pc = .ok (.invokestatic idx, 3)) (hp : pc + 3 = pc') (hd : 1 ≤ d) (hlen : st.length ≤ 4) (h1 : r1' + mc = r1) (h2 : r2' + ms = r2) (hcall : zCall M' (d - 1) mc ms [x0, x1, x2, x3, x4, x5] sp me (zK0 M d r1' r2' Q pc' L st)) : zW M d r1 r2 Q pc L (x5 :: x4 :: x3 :: x2 :: x1 :: x0 :: st) sp me := z_S (As := [x0, x1, x2, x3, x4, x5]) (rest := st) hM hlk dg hp rfl (by omega) hlen (by omega) (by omega) rfl hcall (fun v sp' me' ⟨hv, h⟩ => by subst hv; rw [show r1 - mc = r1' by omega, show r2 - ms = r2' by omega]; exact h)
theorem z_T7v {r1' r2' : Nat} {x0 x1 x2 x3 x4 x5 x6 : zV} (hM : zMok M' 7) (hlk : zLs M.1.cls idx M'.1) (dg : decode M.2.1 pc = .ok (.invokestatic idx, 3)) (hp : pc + 3 = pc') (hd : 1 ≤ d) (hlen : st.length ≤ 4) (h1 : r1' + mc = r1) (h2 : r2' + ms = r2) (hcall : zCall M' (d - 1) mc ms [x0, x1, x2, x3, x4, x5, x6] sp me (zKv M d r1' r2' Q pc' L st)) : zW M d r1 r2 Q pc L (x6 :: x5 :: x4 :: x3 :: x2 :: x1 :: x0 :: st) sp me := z_S (As := [x0, x1, x2, x3, x4, x5, x6]) (rest := st) hM hlk dg hp rfl (by omega) hlen (by omega) (by omega) rfl hcall (fun v sp' me' ⟨x, hv, h⟩ => by subst hv; rw [show r1 - mc = r1' by omega, show r2 - ms = r2' by omega]; exact h)
theorem z_T70 {r1' r2' : Nat} {x0 x1 x2 x3 x4 x5 x6 : zV} (hM : zMok M' 7) (hlk : zLs M.1.cls idx M'.1) (dg : decode M.2.1 pc = .ok (.invokestatic idx, 3)) (hp : pc + 3 = pc') (hd : 1 ≤ d) (hlen : st.length ≤ 4) (h1 : r1' + mc = r1) (h2 : r2' + ms = r2) (hcall : zCall M' (d - 1) mc ms [x0, x1, x2, x3, x4, x5, x6] sp me (zK0 M d r1' r2' Q pc' L st)) : zW M d r1 r2 Q pc L (x6 :: x5 :: x4 :: x3 :: x2 :: x1 :: x0 :: st) sp me := z_S (As := [x0, x1, x2, x3, x4, x5, x6]) (rest := st) hM hlk dg hp rfl (by omega) hlen (by omega) (by omega) rfl hcall (fun v sp' me' ⟨hv, h⟩ => by subst hv; rw [show r1 - mc = r1' by omega, show r2 - ms = r2' by omega]; exact h)
theorem z_T8v {r1' r2' : Nat} {x0 x1 x2 x3 x4 x5 x6 x7 : zV} (hM : zMok M' 8) (hlk : zLs M.1.cls idx M'.1) (dg : decode M.2.1 pc = .ok (.invokestatic idx, 3)) (hp : pc + 3 = pc') (hd : 1 ≤ d) (hlen : st.length ≤ 4) (h1 : r1' + mc = r1) (h2 : r2' + ms = r2) (hcall : zCall M' (d - 1) mc ms [x0, x1, x2, x3, x4, x5, x6, x7] sp me (zKv M d r1' r2' Q pc' L st)) : zW M d r1 r2 Q pc L (x7 :: x6 :: x5 :: x4 :: x3 :: x2 :: x1 :: x0 :: st) sp me := z_S (As := [x0, x1, x2, x3, x4, x5, x6, x7]) (rest := st) hM hlk dg hp rfl (by omega) hlen (by omega) (by omega) rfl hcall (fun v sp' me' ⟨x, hv, h⟩ => by subst hv; rw [show r1 - mc = r1' by omega, show r2 - ms = r2' by omega]; exact h)
theorem z_T80 {r1' r2' : Nat} {x0 x1 x2 x3 x4 x5 x6 x7 : zV} (hM : zMok M' 8) (hlk : zLs M.1.cls idx M'.1) (dg : decode M.2.1 pc = .ok (.invokestatic idx, 3)) (hp : pc + 3 = pc') (hd : 1 ≤ d) (hlen : st.length ≤ 4) (h1 : r1' + mc = r1) (h2 : r2' + ms = r2) (hcall : zCall M' (d - 1) mc ms [x0, x1, x2, x3, x4, x5, x6, x7] sp me (zK0 M d r1' r2' Q pc' L st)) : zW M d r1 r2 Q pc L (x7 :: x6 :: x5 :: x4 :: x3 :: x2 :: x1 :: x0 :: st) sp me := z_S (As := [x0, x1, x2, x3, x4, x5, x6, x7]) (rest := st) hM hlk dg hp rfl (by omega) hlen (by omega) (by omega) rfl hcall (fun v sp' me' ⟨hv, h⟩ => by subst hv; rw [show r1 - mc = r1' by omega, show r2 - ms = r2' by omega]; exact h)
theorem z_T9v {r1' r2' : Nat} {x0 x1 x2 x3 x4 x5 x6 x7 x8 : zV} (hM : zMok M' 9) (hlk : zLs M.1.cls idx M'.1) (dg : decode M.2.1 pc = .ok (.invokestatic idx, 3)) (hp : pc + 3 = pc') (hd : 1 ≤ d) (hlen : st.length ≤ 4) (h1 : r1' + mc = r1) (h2 : r2' + ms = r2) (hcall : zCall M' (d - 1) mc ms [x0, x1, x2, x3, x4, x5, x6, x7, x8] sp me (zKv M d r1' r2' Q pc' L st)) : zW M d r1 r2 Q pc L (x8 :: x7 :: x6 :: x5 :: x4 :: x3 :: x2 :: x1 :: x0 :: st) sp me := z_S (As := [x0, x1, x2, x3, x4, x5, x6, x7, x8]) (rest := st) hM hlk dg hp rfl (by omega) hlen (by omega) (by omega) rfl hcall (fun v sp' me' ⟨x, hv, h⟩ => by subst hv; rw [show r1 - mc = r1' by omega, show r2 - ms = r2' by omega]; exact h)
theorem z_T90 {r1' r2' : Nat} {x0 x1 x2 x3 x4 x5 x6 x7 x8 : zV} (hM : zMok M' 9) (hlk : zLs M.1.cls idx M'.1) (dg : decode M.2.1 pc = .ok (.invokestatic idx, 3)) (hp : pc + 3 = pc') (hd : 1 ≤ d) (hlen : st.length ≤ 4) (h1 : r1' + mc = r1) (h2 : r2' + ms = r2) (hcall : zCall M' (d - 1) mc ms [x0, x1, x2, x3, x4, x5, x6, x7, x8] sp me (zK0 M d r1' r2' Q pc' L st)) : zW M d r1 r2 Q pc L (x8 :: x7 :: x6 :: x5 :: x4 :: x3 :: x2 :: x1 :: x0 :: st) sp me := z_S (As := [x0, x1, x2, x3, x4, x5, x6, x7, x8]) (rest := st) hM hlk dg hp rfl (by omega) hlen (by omega) (by omega) rfl hcall (fun v sp' me' ⟨hv, h⟩ => by subst hv; rw [show r1 - mc = r1' by omega, show r2 - ms = r2' by omega]; exact h)
theorem z_I0 {a r1' r2' : Nat} (hM : zMok M' 0) (hret0 : M'.2.2.2.1 = none) (hlk : zLi M.1.cls idx M'.1) (dg : decode M.2.1 pc = .ok (.invokespecial idx, 3)) (hp : pc + 3 = pc') (hd : 1 ≤ d) (hlen : st.length ≤ 4) (h1 : r1' + mc = r1) (h2 : r2' + ms = r2) (hcall : zCall M' (d - 1) mc ms [zR a] sp me (zK0 M d r1' r2' Q pc' L st)) : zW M d r1 r2 Q pc L (zR a :: st) sp me := z_I (As := []) (rest := st) hM hret0 hlk dg hp rfl (by omega) hlen (by omega) (by omega) rfl hcall (fun v sp' me' ⟨hv, h⟩ => by
  subst hv
  rw [show r1 - mc = r1' by omega, show r2 - ms = r2' by omega]
  exact h)
end ZCALLS
