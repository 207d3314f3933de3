abbrev hG : Type := Nat → Option va_E
/-- what is fixed over a whole run: the first own address, classes' numbers and slots, array classes' numbers (int, boolean, Moment, Person), addresses of the string constants and of their bytes -/
abbrev xE : Type := Nat × va_G × (Nat → ClassId) × (Nat → Nat) × (Nat → Nat)
/-- what is fixed in a method's body -/
abbrev xC : Type := Program × Launch × Env × Room × State × MethodId × Array Value × List Frame × Method × Code × (State → Prop)
def xtys (E : xE) : List (ClassId × FieldType) := [(E.2.2.1 0, .int), (E.2.2.1 1, .boolean), (E.2.2.1 2, .object "BanisterWord$Moment"), (E.2.2.1 3, .object "BanisterWord$Person")]
/-- cells: objects, int arrays, boolean arrays, arrays of Moment, of Person -/
def oc (k : Nat) (fs : List Value) : va_E := .inr (k, fs)
/-- what a row of n places shows of f -/
def tr {α : Type} (d : α) (n : Nat) (f : Nat → α) : Nat → α := fun k => if k < n then f k else d
theorem tr_in {α : Type} {d : α} {n j : Nat} (f : Nat → α) (h : j < n) : tr d n f j = f j := if_pos h
theorem tr_upd {α : Type} {d : α} {n j : Nat} (f : Nat → α) (x : α) (h : j < n) (q : Nat) : tr d n (fun k => if k = j then x else f k) q = if q = j then x else tr d n f q := by
  by_cases e : q = j
  · subst e; simp [tr, h]
  · simp [tr, e]
theorem tr_congr {α : Type} {d : α} {n : Nat} {f f' : Nat → α} (h : ∀ k, k < n → f k = f' k) : tr d n f = tr d n f' := by
  funext k
  by_cases e : k < n
  · simp [tr, e, h k e]
  · simp [tr, e]
def ic (E : xE) (n : Nat) (f : Nat → Int32) : va_E := .inl (E.2.2.1 0, n, .inl (tr 0 n f))
def zc (E : xE) (n : Nat) (f : Nat → Int32) : va_E := .inl (E.2.2.1 1, n, .inl (tr 0 n f))
def qc (E : xE) (k n : Nat) (f : Nat → Option Nat) : va_E := .inl (E.2.2.1 k, n, .inr (.inr (.inr (.inr (tr none n f)))))
theorem ic_congr {E : xE} {n : Nat} {f f' : Nat → Int32} (h : ∀ k, k < n → f k = f' k) : ic E n f = ic E n f' := by unfold ic; rw [tr_congr h]
theorem zc_congr {E : xE} {n : Nat} {f f' : Nat → Int32} (h : ∀ k, k < n → f k = f' k) : zc E n f = zc E n f' := by unfold zc; rw [tr_congr h]
theorem qc_congr {E : xE} {k n : Nat} {f f' : Nat → Option Nat} (h : ∀ k, k < n → f k = f' k) : qc E k n f = qc E k n f' := by unfold qc; rw [tr_congr h]
def hu (g : hG) (a : Nat) (e : va_E) : hG := fun q => if q = a then some e else g q
theorem hu_eq (g : hG) (a : Nat) (e : va_E) : hu g a e a = some e := if_pos rfl
theorem hu_ne (g : hG) {a b : Nat} (e : va_E) (h : b ≠ a) : hu g a e b = g b := if_neg h
def hp (E : xE) (g : hG) (H : Heap) : Prop := ∀ (a : Nat) (e : va_E), g a = some e → E.1 ≤ a ∧ va_at E.2.1 vwCl (a, e) H
def xA (E : xE) : Nat → Prop := fun q => E.1 ≤ q
def xlen : List Nat := [5, 5, 6, 4, 5, 4, 5]
def xbyt : List (List Int32) := [[103, 117, 101, 115, 116], [99, 104, 105, 108, 100], [103, 108, 111, 118, 101, 100], [109, 97, 105, 100], [115, 116, 97, 105, 114], [119, 111, 114, 100], [99, 108, 101, 97, 110]]
def xtx (i : Nat) : String := if i = 0 then "guest" else if i = 1 then "child" else if i = 2 then "gloved" else if i = 3 then "maid" else if i = 4 then "stair" else if i = 5 then "word" else "clean"
/-- words that are no part of a method's own list: nest mates, abstract methods, casts, arrays of references -/
def xN (U : State) : Prop := va_Nw (.methodLinkNest "BanisterWord$Past" 17 yX4_init "BanisterWord") U ∧ va_Nw (.methodLinkNest "BanisterWord$Moment" 11 yX7_init "BanisterWord") U ∧ va_Nw (.methodLinkNest "BanisterWord" 56 yX8_init "BanisterWord") U ∧ va_Nw (.methodLinkNest "BanisterWord" 34 yX4_init "BanisterWord") U ∧ va_Nw (.methodLinkNest "BanisterWord" 24 yX7_init "BanisterWord") U ∧ va_Nw (.methodLinkNest "BanisterWord" 11 yX9_init "BanisterWord") U ∧ va_Nw (.declares ⟨"BanisterWord$Person", "kindNumber", "()I"⟩) U ∧ va_Nw (.declares ⟨"BanisterWord$Person", "firmness", "()I"⟩) U ∧ va_Nw (.declares ⟨"BanisterWord$Person", "feels", "()Z"⟩) U ∧ va_Nw (.castable "BanisterWord$Child" "BanisterWord$Person") U ∧ va_Nw (.castable "BanisterWord$Gloved" "BanisterWord$Person") U ∧ va_Nw (.castable "BanisterWord$Guest" "BanisterWord$Person") U ∧ va_Nw (.castable "BanisterWord$Maid" "BanisterWord$Person") U ∧ va_Nw (.castable "BanisterWord$Child" "BanisterWord$Guest") U ∧ va_Nw (.castable "BanisterWord$Gloved" "BanisterWord$Guest") U ∧ va_Nc "BanisterWord$Maid" "BanisterWord$Guest" U ∧ va_Nc "BanisterWord$Guest" "BanisterWord$Child" U ∧ va_Nc "BanisterWord$Gloved" "BanisterWord$Child" U ∧ va_Nc "BanisterWord$Maid" "BanisterWord$Child" U ∧ va_Nc "BanisterWord$Guest" "BanisterWord$Gloved" U ∧ va_Nc "BanisterWord$Child" "BanisterWord$Gloved" U ∧ va_Nc "BanisterWord$Maid" "BanisterWord$Gloved" U ∧ va_Nc "BanisterWord$Guest" "BanisterWord$Maid" U ∧ va_Nc "BanisterWord$Child" "BanisterWord$Maid" U ∧ va_Nc "BanisterWord$Gloved" "BanisterWord$Maid" U ∧ va_AO "BanisterWord$Moment" U ∧ va_AO "BanisterWord$Person" U
theorem xN.warm {s U : State} (hW : s.WarmedH U.vm) (h : xN s) : xN U := by
  obtain ⟨h0, h1, h2, h3, h4, h5, h6, h7, h8, h9, h10, h11, h12, h13, h14, h15, h16, h17, h18, h19, h20, h21, h22, h23, h24, h25, h26⟩ := h
  exact ⟨va_Nw.warmM hW h0, va_Nw.warmM hW h1, va_Nw.warmM hW h2, va_Nw.warmM hW h3, va_Nw.warmM hW h4, va_Nw.warmM hW h5, va_Nw.warmD hW h6, va_Nw.warmD hW h7, va_Nw.warmD hW h8, va_Nw.warmC hW h9, va_Nw.warmC hW h10, va_Nw.warmC hW h11, va_Nw.warmC hW h12, va_Nw.warmC hW h13, va_Nw.warmC hW h14, h15.moved hW.alike, h16.moved hW.alike, h17.moved hW.alike, h18.moved hW.alike, h19.moved hW.alike, h20.moved hW.alike, h21.moved hW.alike, h22.moved hW.alike, h23.moved hW.alike, h24.moved hW.alike, h25.moved hW.alike, h26.moved hW.alike⟩
theorem xN.N0 {U : State} (h : xN U) : va_Nw (.methodLinkNest "BanisterWord$Past" 17 yX4_init "BanisterWord") U := h.1
theorem xN.N1 {U : State} (h : xN U) : va_Nw (.methodLinkNest "BanisterWord$Moment" 11 yX7_init "BanisterWord") U := h.2.1
theorem xN.N2 {U : State} (h : xN U) : va_Nw (.methodLinkNest "BanisterWord" 56 yX8_init "BanisterWord") U := h.2.2.1
theorem xN.N3 {U : State} (h : xN U) : va_Nw (.methodLinkNest "BanisterWord" 34 yX4_init "BanisterWord") U := h.2.2.2.1
theorem xN.N4 {U : State} (h : xN U) : va_Nw (.methodLinkNest "BanisterWord" 24 yX7_init "BanisterWord") U := h.2.2.2.2.1
theorem xN.N5 {U : State} (h : xN U) : va_Nw (.methodLinkNest "BanisterWord" 11 yX9_init "BanisterWord") U := h.2.2.2.2.2.1
theorem xN.D0 {U : State} (h : xN U) : va_Nw (.declares ⟨"BanisterWord$Person", "kindNumber", "()I"⟩) U := h.2.2.2.2.2.2.1
theorem xN.D1 {U : State} (h : xN U) : va_Nw (.declares ⟨"BanisterWord$Person", "firmness", "()I"⟩) U := h.2.2.2.2.2.2.2.1
theorem xN.D2 {U : State} (h : xN U) : va_Nw (.declares ⟨"BanisterWord$Person", "feels", "()Z"⟩) U := h.2.2.2.2.2.2.2.2.1
theorem xN.CChildPerson {U : State} (h : xN U) : va_Nw (.castable "BanisterWord$Child" "BanisterWord$Person") U := h.2.2.2.2.2.2.2.2.2.1
theorem xN.CGlovedPerson {U : State} (h : xN U) : va_Nw (.castable "BanisterWord$Gloved" "BanisterWord$Person") U := h.2.2.2.2.2.2.2.2.2.2.1
theorem xN.CGuestPerson {U : State} (h : xN U) : va_Nw (.castable "BanisterWord$Guest" "BanisterWord$Person") U := h.2.2.2.2.2.2.2.2.2.2.2.1
theorem xN.CMaidPerson {U : State} (h : xN U) : va_Nw (.castable "BanisterWord$Maid" "BanisterWord$Person") U := h.2.2.2.2.2.2.2.2.2.2.2.2.1
theorem xN.CChildGuest {U : State} (h : xN U) : va_Nw (.castable "BanisterWord$Child" "BanisterWord$Guest") U := h.2.2.2.2.2.2.2.2.2.2.2.2.2.1
theorem xN.CGlovedGuest {U : State} (h : xN U) : va_Nw (.castable "BanisterWord$Gloved" "BanisterWord$Guest") U := h.2.2.2.2.2.2.2.2.2.2.2.2.2.2.1
theorem xN.FMaidGuest {U : State} (h : xN U) : va_Nc "BanisterWord$Maid" "BanisterWord$Guest" U := h.2.2.2.2.2.2.2.2.2.2.2.2.2.2.2.1
theorem xN.FGuestChild {U : State} (h : xN U) : va_Nc "BanisterWord$Guest" "BanisterWord$Child" U := h.2.2.2.2.2.2.2.2.2.2.2.2.2.2.2.2.1
theorem xN.FGlovedChild {U : State} (h : xN U) : va_Nc "BanisterWord$Gloved" "BanisterWord$Child" U := h.2.2.2.2.2.2.2.2.2.2.2.2.2.2.2.2.2.1
theorem xN.FMaidChild {U : State} (h : xN U) : va_Nc "BanisterWord$Maid" "BanisterWord$Child" U := h.2.2.2.2.2.2.2.2.2.2.2.2.2.2.2.2.2.2.1
theorem xN.FGuestGloved {U : State} (h : xN U) : va_Nc "BanisterWord$Guest" "BanisterWord$Gloved" U := h.2.2.2.2.2.2.2.2.2.2.2.2.2.2.2.2.2.2.2.1
theorem xN.FChildGloved {U : State} (h : xN U) : va_Nc "BanisterWord$Child" "BanisterWord$Gloved" U := h.2.2.2.2.2.2.2.2.2.2.2.2.2.2.2.2.2.2.2.2.1
theorem xN.FMaidGloved {U : State} (h : xN U) : va_Nc "BanisterWord$Maid" "BanisterWord$Gloved" U := h.2.2.2.2.2.2.2.2.2.2.2.2.2.2.2.2.2.2.2.2.2.1
theorem xN.FGuestMaid {U : State} (h : xN U) : va_Nc "BanisterWord$Guest" "BanisterWord$Maid" U := h.2.2.2.2.2.2.2.2.2.2.2.2.2.2.2.2.2.2.2.2.2.2.1
theorem xN.FChildMaid {U : State} (h : xN U) : va_Nc "BanisterWord$Child" "BanisterWord$Maid" U := h.2.2.2.2.2.2.2.2.2.2.2.2.2.2.2.2.2.2.2.2.2.2.2.1
theorem xN.FGlovedMaid {U : State} (h : xN U) : va_Nc "BanisterWord$Gloved" "BanisterWord$Maid" U := h.2.2.2.2.2.2.2.2.2.2.2.2.2.2.2.2.2.2.2.2.2.2.2.2.1
theorem xN.AM {U : State} (h : xN U) : va_AO "BanisterWord$Moment" U := h.2.2.2.2.2.2.2.2.2.2.2.2.2.2.2.2.2.2.2.2.2.2.2.2.2.1
theorem xN.AP {U : State} (h : xN U) : va_AO "BanisterWord$Person" U := h.2.2.2.2.2.2.2.2.2.2.2.2.2.2.2.2.2.2.2.2.2.2.2.2.2.2
def xStr (E : xE) (U : State) : Prop := (∀ i : Nat, i < 7 → vk_R "BanisterWord$Text" (82 + 2 * i) (xtx i) (E.2.2.2.1 i) U) ∧ vk_S 7 xlen xbyt E.2.2.2.1 E.2.2.2.2 (xA E) U U.heap
/-- statics of the JDK -/
def xZ (E : xE) (U : State) : Prop := va_Z "java/lang/String" "COMPACT_STRINGS" "Z" (.int 1) (xA E) U U.heap ∧ va_Zq "jdk/internal/util/Preconditions" "SIOOBE_FORMATTER" "Ljava/util/function/BiFunction;" (xA E) U U.heap
/-- all that the tables and the old cells say -/
def Xs (E : xE) (U : State) : Prop := va_K E.2.1 vwCl (xtys E) U ∧ xN U ∧ xStr E U ∧ xZ E U
theorem Xs.warm {E : xE} {s U : State} (hW : s.WarmedH U.vm) (h : Xs E s) (hz : s.heap.size ≤ U.heap.size) (hq : ∀ a : Nat, a < s.heap.size → ¬ xA E a → U.heap[a]? = s.heap[a]?) : Xs E U :=
  ⟨va_K.moved hW.alike h.1, h.2.1.warm hW, ⟨fun i hi => (h.2.2.1.1 i hi).warm hW, (vk_S.moved hW.alike h.2.2.1.2).kept hq⟩, (h.2.2.2.1.moved hW.alike).kept hq, (h.2.2.2.2.moved hW.alike).kept hq⟩
/-- locals, by their places -/
def lo (la : Array Slot) (ls : List (Option Value)) : Prop := la.size = ls.length ∧ lv_wf la ∧ ∀ (i : Nat) (v : Value), ls[i]? = some (some v) → la[i]? = some (.val v) ∧ v.category = 1
def al (ls : List (Option Value)) : List (Nat × Value) := (List.range ls.length).filterMap (fun i => (ls[i]?.join).map (fun v => (i, v)))
theorem al_mem {ls : List (Option Value)} {i : Nat} {v : Value} : (i, v) ∈ al ls ↔ ls[i]? = some (some v) := by
  simp only [al, List.mem_filterMap, List.mem_range, Option.map_eq_some_iff, Prod.mk.injEq, Option.join_eq_some_iff]
  constructor
  · rintro ⟨a, h1, w, h2, rfl, rfl⟩
    exact h2
  · intro h
    exact ⟨i, (List.getElem?_eq_some_iff.mp h).1, v, h, rfl, rfl⟩
theorem lo.has {la : Array Slot} {ls : List (Option Value)} (h : lo la ls) : lv_has la ls.length (al ls) := ⟨h.1, h.2.1, fun q hq => (h.2.2 q.1 q.2 (al_mem.mp hq)).1⟩
theorem lo.st {la la' : Array Slot} {ls : List (Option Value)} {i : Nat} {x : Value} (h : lo la ls) (hx : x.category = 1) (h' : lv_has la' ls.length ((i, x) :: (al ls).filter (fun q => !(q.1 == i) && !(q.1 + 1 == i && q.2.category == 2)))) : lo la' (ls.set i (some x)) := by
  refine ⟨by rw [List.length_set]; exact h'.1, h'.2.1, fun j v hj => ?_⟩
  by_cases e : j = i
  · subst e
    have hl : j < ls.length := by have := (List.getElem?_eq_some_iff.mp hj).1; simpa using this
    rw [List.getElem?_set_self hl] at hj
    cases hj
    exact ⟨h'.2.2 (j, x) List.mem_cons_self, hx⟩
  · rw [List.getElem?_set_ne (Ne.symm e)] at hj
    have hc := (h.2.2 j v hj).2
    refine ⟨h'.2.2 (j, v) (List.mem_cons_of_mem _ (List.mem_filter.mpr ⟨al_mem.mpr hj, ?_⟩)), hc⟩
    simp [e, hc]
def Wg (K : xC) (E : xE) (cells slots pc : Nat) (ls : List (Option Value)) (st : List Value) (g : hG) (n : Nat) : Prop :=
  ∀ (H : Heap) (locs : List Loc) (la : Array Slot), lo la ls → hp E g H → H.size = n → va_S (xA E) K.2.2.2.2.1.heap H locs → W K.1 K.2.1 K.2.2.1 K.2.2.2.1 K.2.2.2.2.1 K.2.2.2.2.2.1 K.2.2.2.2.2.2.1 K.2.2.2.2.2.2.2.1 K.2.2.2.2.2.2.2.2.1 K.2.2.2.2.2.2.2.2.2.1 H locs cells slots K.2.2.2.2.2.2.2.2.2.2 (F0 K.2.2.2.2.2.1 pc la st)
/-- the fixed facts of a body -/
def Sx (K : xC) (E : xE) (cc : ByteArray) (nL : Nat) (own : String) (R : Room) : Prop :=
  CallFix K.1 K.2.2.2.2.2.1 K.2.2.2.2.2.2.2.2.2.1 cc nL K.2.2.2.2.1 K.2.2.2.2.2.2.1 tblG own ∧ Xs E K.2.2.2.2.1 ∧ E.1 ≤ K.2.2.2.2.1.heap.size ∧ K.2.2.2.1 = R
theorem Sx.x {K : xC} {E : xE} {cc : ByteArray} {nL : Nat} {own : String} {R : Room} (S : Sx K E cc nL own R) : K.1.tables.exec = Jvm.exec := S.1.1
theorem Sx.b {K : xC} {E : xE} {cc : ByteArray} {nL : Nat} {own : String} {R : Room} (S : Sx K E cc nL own R) : K.2.2.2.2.2.2.2.2.2.1.code = cc := S.1.2.1
theorem Sx.ml {K : xC} {E : xE} {cc : ByteArray} {nL : Nat} {own : String} {R : Room} (S : Sx K E cc nL own R) : K.2.2.2.2.2.2.2.2.2.1.maxLocals = nL := S.1.2.2.1
theorem Sx.o {K : xC} {E : xE} {cc : ByteArray} {nL : Nat} {own : String} {R : Room} (S : Sx K E cc nL own R) : K.2.2.2.2.1.vm.findClass own = some K.2.2.2.2.2.1.cls := S.1.2.2.2.1
theorem Sx.w {K : xC} {E : xE} {cc : ByteArray} {nL : Nat} {own : String} {R : Room} (S : Sx K E cc nL own R) : ∀ w ∈ tblG, w.before K.2.2.2.2.2.2.1 K.2.2.2.2.1 = true := S.1.2.2.2.2
theorem Sx.k {K : xC} {E : xE} {cc : ByteArray} {nL : Nat} {own : String} {R : Room} (S : Sx K E cc nL own R) : va_K E.2.1 vwCl (xtys E) K.2.2.2.2.1 := S.2.1.1
section RW
variable {K : xC} {E : xE} {cells slots pc nL : Nat} {ls : List (Option Value)} {st : List Value} {g : hG} {n : Nat} {cc : ByteArray} {own : String} {R : Room}
theorem r_iconst (S : Sx K E cc nL own R) {k : Int} {v : Int32} (hd : decode cc pc = .ok (.iconst k, 1)) (hv : Int32.ofInt k = v) (kk : Wg K E cells slots (pc + 1) ls (.int v :: st) g n) : Wg K E cells slots pc ls st g n := fun H locs la a b c d => lv_iconst S.x S.b hd hv (kk H locs la a b c d)
theorem r_bipush (S : Sx K E cc nL own R) {k : Int} {v : Int32} (hd : decode cc pc = .ok (.bipush k, 2)) (hv : (Int8.ofInt k).toInt32 = v) (kk : Wg K E cells slots (pc + 2) ls (.int v :: st) g n) : Wg K E cells slots pc ls st g n := fun H locs la a b c d => lv_bipush S.x S.b hd hv (kk H locs la a b c d)
theorem r_sipush (S : Sx K E cc nL own R) {k : Int} {v : Int32} (hd : decode cc pc = .ok (.sipush k, 3)) (hv : (Int16.ofInt k).toInt32 = v) (kk : Wg K E cells slots (pc + 3) ls (.int v :: st) g n) : Wg K E cells slots pc ls st g n := fun H locs la a b c d => lv_sipush S.x S.b hd hv (kk H locs la a b c d)
theorem r_iload_n (S : Sx K E cc nL own R) {k : Fin 4} {x : Int32} (hd : decode cc pc = .ok (.iload_n k, 1)) (hv : ls[(k : Nat)]? = some (some (.int x))) (kk : Wg K E cells slots (pc + 1) ls (.int x :: st) g n) : Wg K E cells slots pc ls st g n := fun H locs la a b c d => lv_iload_n S.x S.b hd rfl (a.2.2 _ _ hv).1 (kk H locs la a b c d)
theorem r_iload (S : Sx K E cc nL own R) {k : Nat} {x : Int32} (hd : decode cc pc = .ok (.iload k, 2)) (hv : ls[k]? = some (some (.int x))) (kk : Wg K E cells slots (pc + 2) ls (.int x :: st) g n) : Wg K E cells slots pc ls st g n := fun H locs la a b c d => lv_iload S.x S.b hd (a.2.2 _ _ hv).1 (kk H locs la a b c d)
theorem r_istore_n (S : Sx K E cc nL own R) {k : Fin 4} {x : Int32} (hd : decode cc pc = .ok (.istore_n k, 1)) (hl : (k : Nat) < ls.length) (kk : Wg K E cells slots (pc + 1) (ls.set (k : Nat) (some (.int x))) st g n) : Wg K E cells slots pc ls (.int x :: st) g n := fun H locs la a b c d => lv_istore_n S.x S.b hd rfl a.has hl rfl (fun l2 h2 => kk H locs l2 (a.st rfl h2) b c d)
theorem r_istore (S : Sx K E cc nL own R) {k : Nat} {x : Int32} (hd : decode cc pc = .ok (.istore k, 2)) (hl : k < ls.length) (kk : Wg K E cells slots (pc + 2) (ls.set k (some (.int x))) st g n) : Wg K E cells slots pc ls (.int x :: st) g n := fun H locs la a b c d => lv_istore S.x S.b hd a.has hl rfl (fun l2 h2 => kk H locs l2 (a.st rfl h2) b c d)
theorem r_aload_n (S : Sx K E cc nL own R) {k : Fin 4} {x : Nat} (hd : decode cc pc = .ok (.aload_n k, 1)) (hv : ls[(k : Nat)]? = some (some (.ref x))) (kk : Wg K E cells slots (pc + 1) ls (.ref x :: st) g n) : Wg K E cells slots pc ls st g n := fun H locs la a b c d => lv_aload_n S.x S.b hd rfl (a.2.2 _ _ hv).1 (kk H locs la a b c d)
theorem r_aload (S : Sx K E cc nL own R) {k : Nat} {x : Nat} (hd : decode cc pc = .ok (.aload k, 2)) (hv : ls[k]? = some (some (.ref x))) (kk : Wg K E cells slots (pc + 2) ls (.ref x :: st) g n) : Wg K E cells slots pc ls st g n := fun H locs la a b c d => lv_aload S.x S.b hd (a.2.2 _ _ hv).1 (kk H locs la a b c d)
theorem r_astore_n (S : Sx K E cc nL own R) {k : Fin 4} {x : Nat} (hd : decode cc pc = .ok (.astore_n k, 1)) (hl : (k : Nat) < ls.length) (kk : Wg K E cells slots (pc + 1) (ls.set (k : Nat) (some (.ref x))) st g n) : Wg K E cells slots pc ls (.ref x :: st) g n := fun H locs la a b c d => lv_astore_n S.x S.b hd rfl a.has hl rfl (fun l2 h2 => kk H locs l2 (a.st rfl h2) b c d)
theorem r_astore (S : Sx K E cc nL own R) {k : Nat} {x : Nat} (hd : decode cc pc = .ok (.astore k, 2)) (hl : k < ls.length) (kk : Wg K E cells slots (pc + 2) (ls.set k (some (.ref x))) st g n) : Wg K E cells slots pc ls (.ref x :: st) g n := fun H locs la a b c d => lv_astore S.x S.b hd a.has hl rfl (fun l2 h2 => kk H locs l2 (a.st rfl h2) b c d)
theorem r_aload_nN (S : Sx K E cc nL own R) {k : Fin 4} (hd : decode cc pc = .ok (.aload_n k, 1)) (hv : ls[(k : Nat)]? = some (some .null)) (kk : Wg K E cells slots (pc + 1) ls (.null :: st) g n) : Wg K E cells slots pc ls st g n := fun H locs la a b c d => lv_aload_nN S.x S.b hd rfl (a.2.2 _ _ hv).1 (kk H locs la a b c d)
theorem r_aloadN (S : Sx K E cc nL own R) {k : Nat} (hd : decode cc pc = .ok (.aload k, 2)) (hv : ls[k]? = some (some .null)) (kk : Wg K E cells slots (pc + 2) ls (.null :: st) g n) : Wg K E cells slots pc ls st g n := fun H locs la a b c d => lv_aloadN S.x S.b hd (a.2.2 _ _ hv).1 (kk H locs la a b c d)
theorem r_astore_nN (S : Sx K E cc nL own R) {k : Fin 4} (hd : decode cc pc = .ok (.astore_n k, 1)) (hl : (k : Nat) < ls.length) (kk : Wg K E cells slots (pc + 1) (ls.set (k : Nat) (some .null)) st g n) : Wg K E cells slots pc ls (.null :: st) g n := fun H locs la a b c d => lv_astore_nN S.x S.b hd rfl a.has hl rfl (fun l2 h2 => kk H locs l2 (a.st rfl h2) b c d)
theorem r_astoreN (S : Sx K E cc nL own R) {k : Nat} (hd : decode cc pc = .ok (.astore k, 2)) (hl : k < ls.length) (kk : Wg K E cells slots (pc + 2) (ls.set k (some .null)) st g n) : Wg K E cells slots pc ls (.null :: st) g n := fun H locs la a b c d => lv_astoreN S.x S.b hd a.has hl rfl (fun l2 h2 => kk H locs l2 (a.st rfl h2) b c d)
theorem r_iinc (S : Sx K E cc nL own R) {i : Nat} {k : Int} {x : Int32} (v : Int32) (hd : decode cc pc = .ok (.iinc i k, 3)) (hx : ls[i]? = some (some (.int x))) (hv : x + Int32.ofInt k = v) (kk : Wg K E cells slots (pc + 3) (ls.set i (some (.int v))) st g n) : Wg K E cells slots pc ls st g n := fun H locs la a b c d => by
  obtain ⟨j, hj⟩ := List.getElem?_of_mem (al_mem.mpr hx)
  exact lv_iinc S.x S.b hd a.has hj hv (List.getElem?_eq_some_iff.mp hx).1 rfl (fun l2 h2 => kk H locs l2 (a.st rfl h2) b c d)
theorem r_dup (S : Sx K E cc nL own R) {v : Value} (hd : decode cc pc = .ok (.dup, 1)) (hv : v.category = 1) (kk : Wg K E cells slots (pc + 1) ls (v :: v :: st) g n) : Wg K E cells slots pc ls (v :: st) g n := fun H locs la a b c d => lv_dup S.x S.b hd hv (kk H locs la a b c d)
theorem r_dup2 (S : Sx K E cc nL own R) {v u : Value} (hd : decode cc pc = .ok (.dup2, 1)) (hv : v.category = 1) (hu : u.category = 1) (kk : Wg K E cells slots (pc + 1) ls (v :: u :: v :: u :: st) g n) : Wg K E cells slots pc ls (v :: u :: st) g n := fun H locs la a b c d => lv_dup2_11 S.x S.b hd hv hu (kk H locs la a b c d)
theorem r_null (S : Sx K E cc nL own R) (hd : decode cc pc = .ok (.aconst_null, 1)) (kk : Wg K E cells slots (pc + 1) ls (.null :: st) g n) : Wg K E cells slots pc ls st g n := fun H locs la a b c d => lv_null S.x S.b hd (kk H locs la a b c d)
theorem r_goto (S : Sx K E cc nL own R) {off : Int} (tgt : Nat) (hd : decode cc pc = .ok (.goto off, 3)) (ht : (pc : Int) + off = (tgt : Int)) (kk : Wg K E cells slots tgt ls st g n) : Wg K E cells slots pc ls st g n := fun H locs la a b c d => lv_goto S.x S.b hd ht (kk H locs la a b c d)
theorem r_top (x y : Int32) (h : x = y) (kk : Wg K E cells slots pc ls (.int y :: st) g n) : Wg K E cells slots pc ls (.int x :: st) g n := by rw [h]; exact kk
theorem r_iadd (S : Sx K E cc nL own R) {x y : Int32} (v : Int32) (hd : decode cc pc = .ok (.iadd, 1)) (hv : x + y = v) (kk : Wg K E cells slots (pc + 1) ls (.int v :: st) g n) : Wg K E cells slots pc ls (.int y :: .int x :: st) g n := fun H locs la a b c d => lv_iadd S.x S.b hd (by rw [hv]; exact kk H locs la a b c d)
theorem r_isub (S : Sx K E cc nL own R) {x y : Int32} (v : Int32) (hd : decode cc pc = .ok (.isub, 1)) (hv : x - y = v) (kk : Wg K E cells slots (pc + 1) ls (.int v :: st) g n) : Wg K E cells slots pc ls (.int y :: .int x :: st) g n := fun H locs la a b c d => lv_isub S.x S.b hd (by rw [hv]; exact kk H locs la a b c d)
theorem r_imul (S : Sx K E cc nL own R) {x y : Int32} (v : Int32) (hd : decode cc pc = .ok (.imul, 1)) (hv : x * y = v) (kk : Wg K E cells slots (pc + 1) ls (.int v :: st) g n) : Wg K E cells slots pc ls (.int y :: .int x :: st) g n := fun H locs la a b c d => lv_imul S.x S.b hd (by rw [hv]; exact kk H locs la a b c d)
theorem r_iand (S : Sx K E cc nL own R) {x y : Int32} (v : Int32) (hd : decode cc pc = .ok (.iand, 1)) (hv : x &&& y = v) (kk : Wg K E cells slots (pc + 1) ls (.int v :: st) g n) : Wg K E cells slots pc ls (.int y :: .int x :: st) g n := fun H locs la a b c d => lv_iand S.x S.b hd (by rw [hv]; exact kk H locs la a b c d)
theorem r_ior (S : Sx K E cc nL own R) {x y : Int32} (v : Int32) (hd : decode cc pc = .ok (.ior, 1)) (hv : x ||| y = v) (kk : Wg K E cells slots (pc + 1) ls (.int v :: st) g n) : Wg K E cells slots pc ls (.int y :: .int x :: st) g n := fun H locs la a b c d => lv_ior S.x S.b hd (by rw [hv]; exact kk H locs la a b c d)
theorem r_ixor (S : Sx K E cc nL own R) {x y : Int32} (v : Int32) (hd : decode cc pc = .ok (.ixor, 1)) (hv : x ^^^ y = v) (kk : Wg K E cells slots (pc + 1) ls (.int v :: st) g n) : Wg K E cells slots pc ls (.int y :: .int x :: st) g n := fun H locs la a b c d => lv_ixor S.x S.b hd (by rw [hv]; exact kk H locs la a b c d)
theorem r_ishl (S : Sx K E cc nL own R) {x y : Int32} (v : Int32) (hd : decode cc pc = .ok (.ishl, 1)) (hv : x <<< (y &&& 31) = v) (kk : Wg K E cells slots (pc + 1) ls (.int v :: st) g n) : Wg K E cells slots pc ls (.int y :: .int x :: st) g n := fun H locs la a b c d => lv_ishl S.x S.b hd (by rw [hv]; exact kk H locs la a b c d)
theorem r_ishr (S : Sx K E cc nL own R) {x y : Int32} (v : Int32) (hd : decode cc pc = .ok (.ishr, 1)) (hv : x >>> (y &&& 31) = v) (kk : Wg K E cells slots (pc + 1) ls (.int v :: st) g n) : Wg K E cells slots pc ls (.int y :: .int x :: st) g n := fun H locs la a b c d => lv_ishr S.x S.b hd (by rw [hv]; exact kk H locs la a b c d)
theorem r_idiv (S : Sx K E cc nL own R) {x y : Int32} (v : Int32) (hd : decode cc pc = .ok (.idiv, 1)) (hne : ¬ y = 0) (hv : x / y = v) (kk : Wg K E cells slots (pc + 1) ls (.int v :: st) g n) : Wg K E cells slots pc ls (.int y :: .int x :: st) g n := fun H locs la a b c d => lv_idiv S.x S.b hd hne (by rw [hv]; exact kk H locs la a b c d)
theorem r_irem (S : Sx K E cc nL own R) {x y : Int32} (v : Int32) (hd : decode cc pc = .ok (.irem, 1)) (hne : ¬ y = 0) (hv : x - x / y * y = v) (kk : Wg K E cells slots (pc + 1) ls (.int v :: st) g n) : Wg K E cells slots pc ls (.int y :: .int x :: st) g n := fun H locs la a b c d => lv_irem S.x S.b hd hne (by rw [hv]; exact kk H locs la a b c d)
theorem r_if_eq (S : Sx K E cc nL own R) {x : Int32} {off : Int} (tgt : Nat) (hd : decode cc pc = .ok (.ifCond .eq off, 3)) (ht : (pc : Int) + off = (tgt : Int)) (kt : x = 0 → Wg K E cells slots tgt ls st g n) (kf : ¬ x = 0 → Wg K E cells slots (pc + 3) ls st g n) : Wg K E cells slots pc ls (.int x :: st) g n := fun H locs la a b c d => lv_if_eq S.x S.b hd ht (fun h => kt h H locs la a b c d) (fun h => kf h H locs la a b c d)
theorem r_icmp_eq (S : Sx K E cc nL own R) {x y : Int32} {off : Int} (tgt : Nat) (hd : decode cc pc = .ok (.if_icmp .eq off, 3)) (ht : (pc : Int) + off = (tgt : Int)) (kt : x = y → Wg K E cells slots tgt ls st g n) (kf : ¬ x = y → Wg K E cells slots (pc + 3) ls st g n) : Wg K E cells slots pc ls (.int y :: .int x :: st) g n := fun H locs la a b c d => lv_icmp_eq S.x S.b hd ht (fun h => kt h H locs la a b c d) (fun h => kf h H locs la a b c d)
theorem r_if_ne (S : Sx K E cc nL own R) {x : Int32} {off : Int} (tgt : Nat) (hd : decode cc pc = .ok (.ifCond .ne off, 3)) (ht : (pc : Int) + off = (tgt : Int)) (kt : ¬ x = 0 → Wg K E cells slots tgt ls st g n) (kf : x = 0 → Wg K E cells slots (pc + 3) ls st g n) : Wg K E cells slots pc ls (.int x :: st) g n := fun H locs la a b c d => lv_if_ne S.x S.b hd ht (fun h => kt h H locs la a b c d) (fun h => kf h H locs la a b c d)
theorem r_icmp_ne (S : Sx K E cc nL own R) {x y : Int32} {off : Int} (tgt : Nat) (hd : decode cc pc = .ok (.if_icmp .ne off, 3)) (ht : (pc : Int) + off = (tgt : Int)) (kt : ¬ x = y → Wg K E cells slots tgt ls st g n) (kf : x = y → Wg K E cells slots (pc + 3) ls st g n) : Wg K E cells slots pc ls (.int y :: .int x :: st) g n := fun H locs la a b c d => lv_icmp_ne S.x S.b hd ht (fun h => kt h H locs la a b c d) (fun h => kf h H locs la a b c d)
theorem r_if_lt (S : Sx K E cc nL own R) {x : Int32} {off : Int} (tgt : Nat) (hd : decode cc pc = .ok (.ifCond .lt off, 3)) (ht : (pc : Int) + off = (tgt : Int)) (kt : x < 0 → Wg K E cells slots tgt ls st g n) (kf : ¬ x < 0 → Wg K E cells slots (pc + 3) ls st g n) : Wg K E cells slots pc ls (.int x :: st) g n := fun H locs la a b c d => lv_if_lt S.x S.b hd ht (fun h => kt h H locs la a b c d) (fun h => kf h H locs la a b c d)
theorem r_icmp_lt (S : Sx K E cc nL own R) {x y : Int32} {off : Int} (tgt : Nat) (hd : decode cc pc = .ok (.if_icmp .lt off, 3)) (ht : (pc : Int) + off = (tgt : Int)) (kt : x < y → Wg K E cells slots tgt ls st g n) (kf : ¬ x < y → Wg K E cells slots (pc + 3) ls st g n) : Wg K E cells slots pc ls (.int y :: .int x :: st) g n := fun H locs la a b c d => lv_icmp_lt S.x S.b hd ht (fun h => kt h H locs la a b c d) (fun h => kf h H locs la a b c d)
theorem r_if_ge (S : Sx K E cc nL own R) {x : Int32} {off : Int} (tgt : Nat) (hd : decode cc pc = .ok (.ifCond .ge off, 3)) (ht : (pc : Int) + off = (tgt : Int)) (kt : 0 ≤ x → Wg K E cells slots tgt ls st g n) (kf : ¬ 0 ≤ x → Wg K E cells slots (pc + 3) ls st g n) : Wg K E cells slots pc ls (.int x :: st) g n := fun H locs la a b c d => lv_if_ge S.x S.b hd ht (fun h => kt h H locs la a b c d) (fun h => kf h H locs la a b c d)
theorem r_icmp_ge (S : Sx K E cc nL own R) {x y : Int32} {off : Int} (tgt : Nat) (hd : decode cc pc = .ok (.if_icmp .ge off, 3)) (ht : (pc : Int) + off = (tgt : Int)) (kt : y ≤ x → Wg K E cells slots tgt ls st g n) (kf : ¬ y ≤ x → Wg K E cells slots (pc + 3) ls st g n) : Wg K E cells slots pc ls (.int y :: .int x :: st) g n := fun H locs la a b c d => lv_icmp_ge S.x S.b hd ht (fun h => kt h H locs la a b c d) (fun h => kf h H locs la a b c d)
theorem r_if_gt (S : Sx K E cc nL own R) {x : Int32} {off : Int} (tgt : Nat) (hd : decode cc pc = .ok (.ifCond .gt off, 3)) (ht : (pc : Int) + off = (tgt : Int)) (kt : 0 < x → Wg K E cells slots tgt ls st g n) (kf : ¬ 0 < x → Wg K E cells slots (pc + 3) ls st g n) : Wg K E cells slots pc ls (.int x :: st) g n := fun H locs la a b c d => lv_if_gt S.x S.b hd ht (fun h => kt h H locs la a b c d) (fun h => kf h H locs la a b c d)
theorem r_icmp_gt (S : Sx K E cc nL own R) {x y : Int32} {off : Int} (tgt : Nat) (hd : decode cc pc = .ok (.if_icmp .gt off, 3)) (ht : (pc : Int) + off = (tgt : Int)) (kt : y < x → Wg K E cells slots tgt ls st g n) (kf : ¬ y < x → Wg K E cells slots (pc + 3) ls st g n) : Wg K E cells slots pc ls (.int y :: .int x :: st) g n := fun H locs la a b c d => lv_icmp_gt S.x S.b hd ht (fun h => kt h H locs la a b c d) (fun h => kf h H locs la a b c d)
theorem r_if_le (S : Sx K E cc nL own R) {x : Int32} {off : Int} (tgt : Nat) (hd : decode cc pc = .ok (.ifCond .le off, 3)) (ht : (pc : Int) + off = (tgt : Int)) (kt : x ≤ 0 → Wg K E cells slots tgt ls st g n) (kf : ¬ x ≤ 0 → Wg K E cells slots (pc + 3) ls st g n) : Wg K E cells slots pc ls (.int x :: st) g n := fun H locs la a b c d => lv_if_le S.x S.b hd ht (fun h => kt h H locs la a b c d) (fun h => kf h H locs la a b c d)
theorem r_icmp_le (S : Sx K E cc nL own R) {x y : Int32} {off : Int} (tgt : Nat) (hd : decode cc pc = .ok (.if_icmp .le off, 3)) (ht : (pc : Int) + off = (tgt : Int)) (kt : x ≤ y → Wg K E cells slots tgt ls st g n) (kf : ¬ x ≤ y → Wg K E cells slots (pc + 3) ls st g n) : Wg K E cells slots pc ls (.int y :: .int x :: st) g n := fun H locs la a b c d => lv_icmp_le S.x S.b hd ht (fun h => kt h H locs la a b c d) (fun h => kf h H locs la a b c d)
theorem r_ifnull (S : Sx K E cc nL own R) {x : Nat} {off : Int} (hd : decode cc pc = .ok (.ifnull off, 3)) (kk : Wg K E cells slots (pc + 3) ls st g n) : Wg K E cells slots pc ls (.ref x :: st) g n := fun H locs la a b c d => lv_ifnull S.x S.b hd (kk H locs la a b c d)
theorem r_ifnullN (S : Sx K E cc nL own R) {off : Int} (tgt : Nat) (hd : decode cc pc = .ok (.ifnull off, 3)) (ht : (pc : Int) + off = (tgt : Int)) (kk : Wg K E cells slots tgt ls st g n) : Wg K E cells slots pc ls (.null :: st) g n := fun H locs la a b c d => lv_ifnullN S.x S.b hd ht (kk H locs la a b c d)
theorem r_ifnonnull (S : Sx K E cc nL own R) {x : Nat} {off : Int} (tgt : Nat) (hd : decode cc pc = .ok (.ifnonnull off, 3)) (ht : (pc : Int) + off = (tgt : Int)) (kk : Wg K E cells slots tgt ls st g n) : Wg K E cells slots pc ls (.ref x :: st) g n := fun H locs la a b c d => lv_ifnonnull S.x S.b hd ht (kk H locs la a b c d)
theorem r_ifnonnullN (S : Sx K E cc nL own R) {off : Int} (hd : decode cc pc = .ok (.ifnonnull off, 3)) (kk : Wg K E cells slots (pc + 3) ls st g n) : Wg K E cells slots pc ls (.null :: st) g n := fun H locs la a b c d => lv_ifnonnullN S.x S.b hd (kk H locs la a b c d)
theorem r_lookup (S : Sx K E cc nL own R) {dflt : Int} {ps : Array (Int × Int)} {len : Nat} {x : Int32} {off : Int} (tgt : Nat) (hd : decode cc pc = .ok (.lookupswitch dflt ps, len)) (hp : (ps.toList.zip (ps.toList.drop 1)).all (fun (a, next) => a.1 < next.1) = true) (ho : Op.lookupswitch.offset ps.toList dflt x.toInt = off) (ht : (pc : Int) + off = (tgt : Int)) (kk : Wg K E cells slots tgt ls st g n) : Wg K E cells slots pc ls (.int x :: st) g n := fun H locs la a b c d => lv_lookup S.x S.b hd hp ho ht (kk H locs la a b c d)
theorem r_tableOut (S : Sx K E cc nL own R) {dflt lo hi : Int} {offs : Array Int} {len : Nat} {x : Int32} (tgt : Nat) (hd : decode cc pc = .ok (.tableswitch dflt lo hi offs, len)) (h : x.toInt < lo ∨ hi < x.toInt) (ht : (pc : Int) + dflt = (tgt : Int)) (kk : Wg K E cells slots tgt ls st g n) : Wg K E cells slots pc ls (.int x :: st) g n := fun H locs la a b c d => lv_tableOut S.x S.b hd h ht (kk H locs la a b c d)
theorem r_tableIn (S : Sx K E cc nL own R) {dflt lo hi : Int} {offs : Array Int} {len : Nat} {x : Int32} {off : Int} (tgt : Nat) (hd : decode cc pc = .ok (.tableswitch dflt lo hi offs, len)) (h1 : ¬ x.toInt < lo) (h2 : ¬ hi < x.toInt) (ho : offs[(x.toInt - lo).toNat]? = some off) (ht : (pc : Int) + off = (tgt : Int)) (kk : Wg K E cells slots tgt ls st g n) : Wg K E cells slots pc ls (.int x :: st) g n := fun H locs la a b c d => lv_tableIn S.x S.b hd h1 h2 ho ht (kk H locs la a b c d)
theorem r_widen (k m : Nat) (h1 : cells ≤ k) (h2 : slots ≤ m) (kk : Wg K E k m pc ls st g n) : Wg K E cells slots pc ls st g n := fun H locs la a b c d => W.widen h1 h2 (kk H locs la a b c d)
/-- a cell of the picture, alone -/
theorem hp.one {H : Heap} {a : Nat} {e : va_E} (h : hp E g H) (he : g a = some e) : va_P E.2.1 vwCl [(a, e)] H := fun k q hk => by
  have hz : k < 1 := (List.getElem?_eq_some_iff.mp hk).1
  rw [show k = 0 by omega] at hk
  cases hk
  exact (h a e he).2
theorem hp.put {H H1 : Heap} {a : Nat} {e0 e : va_E} (h : hp E g H) (he : g a = some e0) (h1 : va_at E.2.1 vwCl (a, e) H1) (oq : ∀ q : Nat, q ≠ a → H1[q]? = H[q]?) : hp E (hu g a e) H1 := fun b e2 hb => by
  by_cases q : b = a
  · subst q
    rw [hu_eq] at hb
    cases hb
    exact ⟨(h b e0 he).1, h1⟩
  · rw [hu_ne g e q] at hb
    exact ⟨(h b e2 hb).1, (h b e2 hb).2.kept (oq b q)⟩
theorem hp.new {H H1 : Heap} {e : va_E} (h : hp E g H) (hb : E.1 ≤ H.size) (h1 : va_at E.2.1 vwCl (H.size, e) H1) (oq : ∀ q : Nat, q < H.size → H1[q]? = H[q]?) : hp E (hu g H.size e) H1 := fun b e2 hx => by
  by_cases q : b = H.size
  · subst q
    rw [hu_eq] at hx
    cases hx
    exact ⟨hb, h1⟩
  · rw [hu_ne g e q] at hx
    exact ⟨(h b e2 hx).1, (h b e2 hx).2.kept (oq b (h b e2 hx).2.lt)⟩
theorem va_S.putx {A : Nat → Prop} {H0 H H1 : Heap} {locs : List Loc} {a k : Nat} (h : va_S A H0 H locs) (z : H1.size = H.size) (oq : ∀ q : Nat, q ≠ a → H1[q]? = H[q]?) (ha : A a) : va_S A H0 H1 (locs ++ [⟨a, k⟩]) := h.put z oq ha
theorem r_get (S : Sx K E cc nL own R) {ref C : String} {T : u_T} {N ci index a : Nat} {fs : List Value} (k : Nat) (v : Value) (hin : ∀ w ∈ u_ws C T N, w ∈ tblG) (hc : vwCl[ci]? = some (C, T, N)) (hk : k < N) (hlink : Cond.fieldLink own index ref (T k).2.1 (T k).2.2.1 ∈ tblG) (hsame : ∀ x, K.2.2.2.2.1.fieldFound? (T k).1 (T k).2.1 (T k).2.2.1 = some x → K.2.2.2.2.1.fieldFound? ref (T k).2.1 (T k).2.2.1 = some x) (hd : decode cc pc = .ok (.getfield index, 3)) (he : g a = some (oc ci fs)) (hv : fs[k]? = some v) (kk : Wg K E cells slots (pc + 3) ls (v :: st) g n) : Wg K E cells slots pc ls (.ref a :: st) g n := fun H locs la h1 h2 h3 h4 => va_get (q0 := 0) (k := k) S.x S.b S.w hin S.o S.k (h2.one he) rfl hc hk (S.w _ hlink) hsame hv hd (kk H locs la h1 h2 h3 h4)
theorem r_put (S : Sx K E cc nL own R) {ref C : String} {T : u_T} {N ci index a : Nat} {fs : List Value} (k : Nat) {ty : FieldType} {v : Value} (hin : ∀ w ∈ u_ws C T N, w ∈ tblG) (ty0 : Nat → FieldType) (hty : ∀ k, k < N → parseFieldDescriptor (T k).2.2.1 = some (ty0 k)) (hnm : ∀ a, a < N → ∀ b, b < N → a ≠ b → (T a).2.1 ≠ (T b).2.1) (hc : vwCl[ci]? = some (C, T, N)) (hk : k < N) (hlink : Cond.fieldLink own index ref (T k).2.1 (T k).2.2.1 ∈ tblG) (hsame : ∀ x, K.2.2.2.2.1.fieldFound? (T k).1 (T k).2.1 (T k).2.2.1 = some x → K.2.2.2.2.1.fieldFound? ref (T k).2.1 (T k).2.2.1 = some x) (hfin : (T k).2.2.2 = false) (htk : parseFieldDescriptor (T k).2.2.1 = some ty) (hd : decode cc pc = .ok (.putfield index, 3)) (he : g a = some (oc ci fs)) (hn : narrow ty v = v) (hfit : fits ty v = true) (hl : k < fs.length) (kk : Wg K E cells slots (pc + 3) ls st (hu g a (oc ci (fs.set k v))) n) : Wg K E cells slots pc ls (v :: .ref a :: st) g n := fun H locs la h1 h2 h3 h4 => by
  have hap := va_apart (own := own) S.w hin ty0 hty hnm S.k hc
  obtain ⟨hb, r, g1, cell, q1, q2, q3, q4⟩ := h2 a _ he
  have hr : r = (C, T, N) := Option.some.inj (g1.symm.trans hc)
  subst hr
  obtain ⟨hS, hfc, kC, hkC, hkind⟩ := S.k.1 ci _ hc
  obtain ⟨cf, kf, fi, f, hi, hsl⟩ := hS k hk
  have hlay := S.w _ (hin _ (u_in_lay hk))
  unfold u_lay at hlay
  rw [if_neg (by rw [hfin]; decide)] at hlay
  have hst := (u_facts hfc hkC (u_lays S.w hin hk) hi).1
  have h6 := u_store hfc hkC hkind hlay hi htk hn hfit
  refine W.putK S.x S.b (f := f) ⟨S.o, S.w _ hlink, ⟨_, _, _, hsame _ hi⟩, hst⟩ (by rw [q2]; exact h6) q1 q3 (by rw [hsl]; exact k2_hasslot (q4 k hk)) rfl rfl hd fun H' e1 e2 e3 => ?_
  rw [hsl] at e1 ⊢
  exact kk H' _ la h1 (h2.put he ⟨_, hc, t_OB.to (V := updV (vp_V fs) k v) ⟨_, e1, q2, q3, t_set q4 hap hk v⟩ (fun j _ => vp_updV_set hl v j)⟩ e3) (e2.trans h3) (h4.put e2 e3 hb)

theorem r_putF (S : Sx K E cc nL own R) {ref C : String} {T : u_T} {N ci index a : Nat} {fs : List Value} (k : Nat) {ty : FieldType} {v : Value} (hin : ∀ w ∈ u_ws C T N, w ∈ tblG) (ty0 : Nat → FieldType) (hty : ∀ k, k < N → parseFieldDescriptor (T k).2.2.1 = some (ty0 k)) (hnm : ∀ a, a < N → ∀ b, b < N → a ≠ b → (T a).2.1 ≠ (T b).2.1) (hc : vwCl[ci]? = some (C, T, N)) (hk : k < N) (hlink : Cond.fieldLink own index ref (T k).2.1 (T k).2.2.1 ∈ tblG) (hsame : ∀ x, K.2.2.2.2.1.fieldFound? (T k).1 (T k).2.1 (T k).2.2.1 = some x → K.2.2.2.2.1.fieldFound? ref (T k).2.1 (T k).2.2.1 = some x) (hfin : (T k).2.2.2 = true) (hin2 : K.2.2.2.2.2.2.2.2.1.name = "<init>") (hdecl : (T k).1 = own) (htk : parseFieldDescriptor (T k).2.2.1 = some ty) (hd : decode cc pc = .ok (.putfield index, 3)) (he : g a = some (oc ci fs)) (hn : narrow ty v = v) (hfit : fits ty v = true) (hl : k < fs.length) (kk : Wg K E cells slots (pc + 3) ls st (hu g a (oc ci (fs.set k v))) n) : Wg K E cells slots pc ls (v :: .ref a :: st) g n := fun H locs la h1 h2 h3 h4 => by
  have hap := va_apart (own := own) S.w hin ty0 hty hnm S.k hc
  obtain ⟨hb, r, g1, cell, q1, q2, q3, q4⟩ := h2 a _ he
  have hr : r = (C, T, N) := Option.some.inj (g1.symm.trans hc)
  subst hr
  obtain ⟨hS, hfc, kC, hkC, hkind⟩ := S.k.1 ci _ hc
  obtain ⟨cf, kf, fi, f, hi, hsl⟩ := hS k hk
  have hlay := S.w _ (hin _ (u_in_lay hk))
  unfold u_lay at hlay
  rw [if_pos hfin] at hlay
  have hst := (u_facts hfc hkC (u_lays S.w hin hk) hi).1
  have hcf : K.2.2.2.2.2.1.cls = cf := by
    obtain ⟨_, _, c', _, _, _, -, -, hf', -, -, -, hown2, -⟩ := Cond.laysFinal_spec hlay
    have e1 : c' = cf := by have := hi.symm.trans hf'; simp at this; exact this.1.symm
    rw [hdecl] at hown2
    rw [← e1]; exact Option.some.inj (S.o.symm.trans hown2)
  have h6 := u_fits hfc hkC hkind (Or.inr hlay) hi htk hn hfit
  refine W.putFinK S.x S.b S.o (S.w _ hlink) (hsame _ hi) hst hcf hin2 (by rw [q2]; exact h6) q1 q3 (by rw [hsl]; exact k2_hasslot (q4 k hk)) rfl rfl hd fun H' e1 e2 e3 => ?_
  rw [hsl] at e1 ⊢
  exact kk H' _ la h1 (h2.put he ⟨_, hc, t_OB.to (V := updV (vp_V fs) k v) ⟨_, e1, q2, q3, t_set q4 hap hk v⟩ (fun j _ => vp_updV_set hl v j)⟩ e3) (e2.trans h3) (h4.put e2 e3 hb)
theorem ix_in {i : Int32} {j N : Nat} (h : i = nI j) (hj : j < N) (hN : N < 2 ^ 31) : vp_in i N := h ▸ vp_in_nI hj hN
theorem ix_cl {i : Int32} {j N : Nat} (h : i = nI j) (hj : j < N) (hN : N < 2 ^ 31) : i.toNatClampNeg = j := by rw [h]; exact nI_clamp (by omega)
theorem r_iald (S : Sx K E cc nL own R) {a N : Nat} {f : Nat → Int32} {i : Int32} (j : Nat) (hd : decode cc pc = .ok (.iaload, 1)) (he : g a = some (ic E N f)) (hi : i = nI j) (hj : j < N) (hN : N < 2 ^ 31) (kk : Wg K E cells slots (pc + 1) ls (.int (f j) :: st) g n) : Wg K E cells slots pc ls (.int i :: .ref a :: st) g n := fun H locs la h1 h2 h3 h4 => va_iald (q0 := 0) (t0 := 0) S.x S.b S.k (h2.one he) rfl rfl (ix_in hi hj hN) hd (by rw [ix_cl hi hj hN, tr_in f hj]; exact kk H locs la h1 h2 h3 h4)
theorem r_zald (S : Sx K E cc nL own R) {a N : Nat} {f : Nat → Int32} {i : Int32} (j : Nat) (hd : decode cc pc = .ok (.baload, 1)) (he : g a = some (zc E N f)) (hi : i = nI j) (hj : j < N) (hN : N < 2 ^ 31) (kk : Wg K E cells slots (pc + 1) ls (.int (f j) :: st) g n) : Wg K E cells slots pc ls (.int i :: .ref a :: st) g n := fun H locs la h1 h2 h3 h4 => va_zald (q0 := 0) (t0 := 1) S.x S.b S.k (h2.one he) rfl rfl (ix_in hi hj hN) hd (by rw [ix_cl hi hj hN, tr_in f hj]; exact kk H locs la h1 h2 h3 h4)
theorem r_aald (S : Sx K E cc nL own R) {a k N : Nat} {C : String} {f : Nat → Option Nat} {i : Int32} (j : Nat) (r : Value) (hd : decode cc pc = .ok (.aaload, 1)) (ht : (xtys E)[k]? = some (E.2.2.1 k, .object C)) (he : g a = some (qc E k N f)) (hi : i = nI j) (hj : j < N) (hN : N < 2 ^ 31) (hr : va_rf (f j) = r) (kk : Wg K E cells slots (pc + 1) ls (r :: st) g n) : Wg K E cells slots pc ls (.int i :: .ref a :: st) g n := fun H locs la h1 h2 h3 h4 => va_aldq (q0 := 0) (t0 := k) S.x S.b S.k (h2.one he) rfl ht (ix_in hi hj hN) hd (by rw [ix_cl hi hj hN, tr_in f hj, hr]; exact kk H locs la h1 h2 h3 h4)
theorem r_iast (S : Sx K E cc nL own R) {a N : Nat} {f : Nat → Int32} {i x : Int32} (j : Nat) (hd : decode cc pc = .ok (.iastore, 1)) (he : g a = some (ic E N f)) (hi : i = nI j) (hj : j < N) (hN : N < 2 ^ 31) (kk : Wg K E cells slots (pc + 1) ls st (hu g a (ic E N (upd f j x))) n) : Wg K E cells slots pc ls (.int x :: .int i :: .ref a :: st) g n := fun H locs la h1 h2 h3 h4 => by
  obtain ⟨hb, hc⟩ := h2 a _ he
  have hj' := ix_cl hi hj hN
  refine W.iast S.x S.b hc ((S.k.2 0 _ rfl).1 N (fun j => .int (tr 0 N f j))) (fun q => by cases q) (by show ¬ (i < 0 ∨ (arrV _ _ _).slots.size ≤ _); rw [arrV_size]; exact ix_in hi hj hN) rfl rfl hd fun H1 e1 z oq => ?_
  refine kk H1 _ la h1 (h2.put he ?_ oq) (z.trans h3) (h4.put z oq hb)
  show H1[a]? = some (vp_cell _ _)
  rw [e1, hj']
  rw [vp_cell_i, vp_cell_i, arrV_store]
  congr 2
  funext q
  show updV (fun j => Value.int (tr 0 N f j)) j (.int x) q = .int (tr 0 N (upd f j x) q)
  rw [show upd f j x = (fun k => if k = j then x else f k) from rfl, tr_upd f x hj]
  by_cases hq : q = j
  · subst hq
    simp [updV]
  · simp [updV, hq]
theorem r_zast (S : Sx K E cc nL own R) {a N : Nat} {f : Nat → Int32} {i x : Int32} (j : Nat) (hd : decode cc pc = .ok (.bastore, 1)) (he : g a = some (zc E N f)) (hi : i = nI j) (hj : j < N) (hN : N < 2 ^ 31) (hx : vp_nar .boolean x = x) (kk : Wg K E cells slots (pc + 1) ls st (hu g a (zc E N (upd f j x))) n) : Wg K E cells slots pc ls (.int x :: .int i :: .ref a :: st) g n := fun H locs la h1 h2 h3 h4 => by
  obtain ⟨hb, hc⟩ := h2 a _ he
  have hj' := ix_cl hi hj hN
  refine W.zast S.x S.b hc ((S.k.2 1 _ rfl).1 N (fun j => .int (tr 0 N f j))) (fun q => by cases q) (by show ¬ (i < 0 ∨ (arrV _ _ _).slots.size ≤ _); rw [arrV_size]; exact ix_in hi hj hN) rfl rfl hd fun H1 e1 z oq => ?_
  refine kk H1 _ la h1 (h2.put he ?_ oq) (z.trans h3) (h4.put z oq hb)
  show H1[a]? = some (vp_cell _ _)
  rw [e1, hj']
  rw [vp_cell_i, vp_cell_i, arrV_store]
  congr 2
  funext q
  have e9 : narrow .boolean (.int x) = .int (vp_nar .boolean x) := by simp [vp_nar, narrow]
  rw [e9, hx]
  show updV (fun j => Value.int (tr 0 N f j)) j (.int x) q = .int (tr 0 N (upd f j x) q)
  rw [show upd f j x = (fun k => if k = j then x else f k) from rfl, tr_upd f x hj]
  by_cases hq : q = j
  · subst hq
    simp [updV]
  · simp [updV, hq]
theorem r_aast (S : Sx K E cc nL own R) {a k N v : Nat} {C : String} {f : Nat → Option Nat} {i : Int32} (j : Nat) (hd : decode cc pc = .ok (.aastore, 1)) (ht : (xtys E)[k]? = some (E.2.2.1 k, .object C)) (he : g a = some (qc E k N f)) (hr : ∀ H : Heap, hp E g H → va_Any C K.2.2.2.2.1 H v) (hi : i = nI j) (hj : j < N) (hN : N < 2 ^ 31) (kk : Wg K E cells slots (pc + 1) ls st (hu g a (qc E k N (va_up f j (some v)))) n) : Wg K E cells slots pc ls (.ref v :: .int i :: .ref a :: st) g n := fun H locs la h1 h2 h3 h4 => by
  obtain ⟨hb, hc⟩ := h2 a _ he
  have hj' := ix_cl hi hj hN
  have hin := ix_in hi hj hN
  obtain ⟨cellV, g1, g3, ⟨kC, hkC⟩, hasg⟩ := hr H h2
  obtain ⟨kA, comp, k1, k2, k3, -⟩ := (S.k.2 k _ ht).2
  obtain ⟨kE, hkE, -⟩ := Vm.findClass_spec k3
  refine W.aast S.x S.b hc (fun q h => by cases h) (fun h => by cases h) k1 k2 rfl hkE ⟨fun q => hin (Or.inl q), by show _ < (arrV _ _ _).slots.size; rw [arrV_size]; exact Nat.not_le.mp fun q => hin (Or.inr q)⟩ g1 (fun q h => by rw [h] at g3; cases g3) hkC (hasg _ k3) rfl rfl hd fun H1 e1 z oq => ?_
  refine kk H1 _ la h1 (h2.put he ?_ oq) (z.trans h3) (h4.put z oq hb)
  show H1[a]? = some (vp_cell _ _)
  rw [e1, hj']
  rw [vp_cell_q, vp_cell_q, arrV_store]
  congr 2
  funext q
  show updV (fun j => va_rf (tr none N f j)) j (.ref v) q = va_rf (tr none N (va_up f j (some v)) q)
  rw [show va_up f j (some v) = (fun k => if k = j then some v else f k) from rfl, tr_upd f (some v) hj]
  by_cases hq : q = j
  · subst hq
    simp [updV, va_rf]
  · simp [updV, hq]
theorem va_S.grow {A : Nat → Prop} {H0 H H1 : Heap} {locs : List Loc} (h : va_S A H0 H locs) (z : H.size ≤ H1.size) (o : ∀ q : Nat, q < H.size → H1[q]? = H[q]?) : va_S A H0 H1 locs := ⟨Nat.le_trans h.1 z, fun x h1 h2 => (o x (Nat.lt_of_lt_of_le h1 h.1)).trans (h.2.1 x h1 h2), h.2.2⟩
theorem Sx.le (S : Sx K E cc nL own R) {H : Heap} {locs : List Loc} (h : va_S (xA E) K.2.2.2.2.1.heap H locs) : E.1 ≤ H.size := Nat.le_trans S.2.2.1 h.1
theorem r_new (S : Sx K E cc nL own R) {C : String} {T : u_T} {N ci index : Nat} {fs : List Value} (hin : ∀ w ∈ u_ws C T N, w ∈ tblG) (ty : Nat → FieldType) (hty : ∀ k, k < N → parseFieldDescriptor (T k).2.2.1 = some (ty k)) (hcl : Cond.classLink own index C ∈ tblG) (hinst : Cond.instantiable C N ∈ tblG) (hini : Cond.initialized C ∈ tblG) (hc : vwCl[ci]? = some (C, T, N)) (hfs : ∀ j, j < N → defaultValue (ty j) = vp_V fs j) (hcells : cells + 1 ≤ R.cells) (hslots : slots + N ≤ R.slots) (hd : decode cc pc = .ok (.new index, 3)) (kk : Wg K E (cells + 1) (slots + N) (pc + 3) ls (.ref n :: st) (hu g n (oc ci fs)) (n + 1)) : Wg K E cells slots pc ls st g n := fun H locs la h1 h2 h3 h4 => by
  have hKn := S.k.1 ci _ hc
  subst h3
  refine W.newcK S.x S.b S.o (S.w _ hcl) (S.w _ hinst) (S.w _ hini) rfl hd (by rw [S.2.2.2]; exact hcells) (by rw [S.2.2.2]; exact hslots) hKn.2.1 rfl fun H1 kC hkC e1 z1 o1 => ?_
  exact kk H1 _ la h1 (h2.new (S.le h4) ⟨_, hc, (u_born ty S.w hin hKn hkC e1 hty).to hfs⟩ o1) z1 (h4.grow (by omega) o1)
theorem r_newi (S : Sx K E cc nL own R) (harr : Cond.arrayClass .int ∈ tblG) {i : Int32} (N : Nat) (hi : i = nI N) (hN : N < 100000) (hcells : cells + 1 ≤ R.cells) (hslots : slots + N ≤ R.slots) (hd : decode cc pc = .ok (.newarray .int, 2)) (kk : Wg K E (cells + 1) (slots + N) (pc + 2) ls (.ref n :: st) (hu g n (ic E N (fun _ => 0))) (n + 1)) : Wg K E cells slots pc ls (.int i :: st) g n := fun H locs la h1 h2 h3 h4 => by
  subst h3
  have hcl : i.toNatClampNeg = N := by rw [hi]; exact nI_clamp (by omega)
  refine va_newaK (atype := .int) S.x S.b (S.w _ harr) rfl hd rfl (by rw [hi]; exact nI_pos (by omega)) hcl (by show N * 4 ≤ _; omega) (by rw [S.2.2.2]; exact hcells) (by rw [S.2.2.2]; exact hslots) rfl fun H1 cA e1 z1 o1 hAr hNm => ?_
  have hcA : cA = E.2.2.1 0 := Option.some.inj (hNm.symm.trans (S.k.2 0 _ rfl).2)
  subst hcA
  exact kk H1 _ la h1 (h2.new (S.le h4) (by show H1[H.size]? = some (vp_cell _ _); rw [vp_cell_i, show tr (0 : Int32) N (fun _ => 0) = fun _ => 0 from by funext k; simp [tr]]; exact e1) o1) z1 (h4.grow (by omega) o1)
theorem r_newz (S : Sx K E cc nL own R) (harr : Cond.arrayClass .boolean ∈ tblG) {i : Int32} (N : Nat) (hi : i = nI N) (hN : N < 100000) (hcells : cells + 1 ≤ R.cells) (hslots : slots + N ≤ R.slots) (hd : decode cc pc = .ok (.newarray .boolean, 2)) (kk : Wg K E (cells + 1) (slots + N) (pc + 2) ls (.ref n :: st) (hu g n (zc E N (fun _ => 0))) (n + 1)) : Wg K E cells slots pc ls (.int i :: st) g n := fun H locs la h1 h2 h3 h4 => by
  subst h3
  have hcl : i.toNatClampNeg = N := by rw [hi]; exact nI_clamp (by omega)
  refine va_newaK (atype := .boolean) S.x S.b (S.w _ harr) rfl hd rfl (by rw [hi]; exact nI_pos (by omega)) hcl (by show N * 1 ≤ _; omega) (by rw [S.2.2.2]; exact hcells) (by rw [S.2.2.2]; exact hslots) rfl fun H1 cA e1 z1 o1 hAr hNm => ?_
  have hcA : cA = E.2.2.1 1 := Option.some.inj (hNm.symm.trans (S.k.2 1 _ rfl).2)
  subst hcA
  exact kk H1 _ la h1 (h2.new (S.le h4) (by show H1[H.size]? = some (vp_cell _ _); rw [vp_cell_i, show tr (0 : Int32) N (fun _ => 0) = fun _ => 0 from by funext k; simp [tr]]; exact e1) o1) z1 (h4.grow (by omega) o1)
theorem r_newq (S : Sx K E cc nL own R) {C : String} {index k : Nat} (hcl : Cond.classLink own index C ∈ tblG) (hover : va_AO C K.2.2.2.2.1) (ht : (xtys E)[k]? = some (E.2.2.1 k, .object C)) {i : Int32} (N : Nat) (hi : i = nI N) (hN : N < 100000) (hcells : cells + 1 ≤ R.cells) (hslots : slots + N ≤ R.slots) (hd : decode cc pc = .ok (.anewarray index, 3)) (kk : Wg K E (cells + 1) (slots + N) (pc + 3) ls (.ref n :: st) (hu g n (qc E k N (fun _ => none))) (n + 1)) : Wg K E cells slots pc ls (.int i :: st) g n := fun H locs la h1 h2 h3 h4 => by
  subst h3
  have hl : i.toNatClampNeg = N := by rw [hi]; exact nI_clamp (by omega)
  refine W.anew S.x S.b S.o (S.w _ hcl) (va_AO.use hover) rfl hd rfl (by rw [hi]; exact nI_pos (by omega)) (by rw [hl]; omega) (by rw [S.2.2.2]; exact hcells) (by rw [S.2.2.2, hl]; exact hslots) fun cA kA comp f1 f2 f3 f4 => ?_
  rw [hl]
  obtain ⟨kA2, comp2, -, -, -, k4⟩ := (S.k.2 k _ ht).2
  have hcA : cA = E.2.2.1 k := Option.some.inj (f1.symm.trans k4)
  subst hcA
  generalize hH1 : H.push ({ cls := E.2.2.1 k, slots := Array.replicate N .null, vm := .none } : Cell) = H1
  have z1 : H1.size = H.size + 1 := by rw [← hH1, Array.size_push]
  have e1 : H1[H.size]? = some (arrV (E.2.2.1 k) N (fun _ => .null)) := by rw [← hH1, Array.getElem?_push_size, ← arrV_new]
  have o1 : ∀ q : Nat, q < H.size → H1[q]? = H[q]? := fun q hq => by rw [← hH1, Array.getElem?_push, if_neg (Nat.ne_of_lt hq)]
  exact kk H1 _ la h1 (h2.new (S.le h4) (by show H1[H.size]? = some (vp_cell _ _); rw [vp_cell_q, show tr (none : Option Nat) N (fun _ => none) = fun _ => none from by funext k; simp [tr]]; exact e1) o1) z1 (h4.grow (by omega) o1)
theorem r_instY (S : Sx K E cc nL own R) {a ci index : Nat} {C nm : String} {T : u_T} {N : Nat} {fs : List Value} (hlink : Cond.classLink own index nm ∈ tblG) (hc : va_Nw (.castable C nm) K.2.2.2.2.1) (hcl : vwCl[ci]? = some (C, T, N)) (he : g a = some (oc ci fs)) (hd : decode cc pc = .ok (.instanceof index, 3)) (kk : Wg K E cells slots (pc + 3) ls (.int 1 :: st) g n) : Wg K E cells slots pc ls (.ref a :: st) g n := fun H locs la h1 h2 h3 h4 => va_instY S.x S.b S.o (S.w _ hlink) hc (va_recv (q0 := 0) S.k (h2.one he) hcl rfl) hd (kk H locs la h1 h2 h3 h4)
theorem r_instS (S : Sx K E cc nL own R) {a ci index : Nat} {nm : String} {T : u_T} {N : Nat} {fs : List Value} (hlink : Cond.classLink own index nm ∈ tblG) (hcl : vwCl[ci]? = some (nm, T, N)) (he : g a = some (oc ci fs)) (hd : decode cc pc = .ok (.instanceof index, 3)) (kk : Wg K E cells slots (pc + 3) ls (.int 1 :: st) g n) : Wg K E cells slots pc ls (.ref a :: st) g n := fun H locs la h1 h2 h3 h4 => va_instE S.x S.b S.o (S.w _ hlink) (va_recv (q0 := 0) S.k (h2.one he) hcl rfl) hd (kk H locs la h1 h2 h3 h4)
theorem r_instN (S : Sx K E cc nL own R) {a ci index : Nat} {C nm : String} {T : u_T} {N : Nat} {fs : List Value} (hlink : Cond.classLink own index nm ∈ tblG) (hc : va_Nc C nm K.2.2.2.2.1) (hcl : vwCl[ci]? = some (C, T, N)) (he : g a = some (oc ci fs)) (hd : decode cc pc = .ok (.instanceof index, 3)) (kk : Wg K E cells slots (pc + 3) ls (.int 0 :: st) g n) : Wg K E cells slots pc ls (.ref a :: st) g n := fun H locs la h1 h2 h3 h4 => va_instNo S.x S.b S.o (S.w _ hlink) hc (va_recv (q0 := 0) S.k (h2.one he) hcl rfl) hd (kk H locs la h1 h2 h3 h4)
theorem r_objInit (S : Sx K E cc nL own R) {index a : Nat} (hlen : ls.length = nL) (hlink : Cond.methodLink own index Lib.objectInit ∈ tblG) (hinst : Cond.instanceMethod Lib.objectInit ∈ tblG) (hcode : Cond.code Lib.objectInit ⟨#[0xb1]⟩ 1 none ∈ tblG) (hfr : 1 ≤ R.frames) (hlo : 2 * 0 + (st.map fun v => v.category).sum + 12 ≤ R.locals) (hd : decode cc pc = .ok (.invokespecial index, 3)) (kk : Wg K E cells slots (pc + 3) ls st g n) : Wg K E cells slots pc ls (.ref a :: st) g n := fun H locs la h1 h2 h3 h4 => W.objInit S.x S.b S.o (S.w _ hlink) (S.w _ hinst) (S.w _ hcode) rfl (by rw [S.ml, ← hlen]; exact h1.1) rfl hd (by rw [S.2.2.2]; exact hfr) (by rw [S.2.2.2]; exact hlo) (kk H locs la h1 h2 h3 h4)
theorem r_max (S : Sx K E cc nL own R) {index : Nat} {x y : Int32} (hlen : ls.length = nL) (hlink : Cond.methodLink own index Lib.Math.max.name ∈ tblG) (hstat : Cond.static Lib.Math.max.name ∈ tblG) (hini : Cond.initialized "java/lang/Math" ∈ tblG) (hcode : Cond.code Lib.Math.max.name Lib.Math.max.code 2 (some .int) ∈ tblG) (hfr : 1 ≤ R.frames) (hlo : (st.map fun v => v.category).sum + 13 ≤ R.locals) (hc : cells ≤ R.cells) (hs : slots ≤ R.slots) (hd : decode cc pc = .ok (.invokestatic index, 3)) (kk : Wg K E cells slots (pc + 3) ls (.int (if x < y then y else x) :: st) g n) : Wg K E cells slots pc ls (.int y :: .int x :: st) g n := fun H locs la h1 h2 h3 h4 => va_mmax S.x S.b (by rw [S.ml, ← hlen]; exact h1.1.symm) S.o (S.w _ hlink) (S.w _ hstat) (S.w _ hini) (S.w _ hcode) (by rw [S.2.2.2]; exact hfr) (by rw [S.2.2.2]; exact hlo) (by rw [S.2.2.2]; exact hc) (by rw [S.2.2.2]; exact hs) hd (kk H locs la h1 h2 h3 h4)
theorem r_min (S : Sx K E cc nL own R) {index : Nat} {x y : Int32} (hlen : ls.length = nL) (hlink : Cond.methodLink own index Lib.Math.min.name ∈ tblG) (hstat : Cond.static Lib.Math.min.name ∈ tblG) (hini : Cond.initialized "java/lang/Math" ∈ tblG) (hcode : Cond.code Lib.Math.min.name Lib.Math.min.code 2 (some .int) ∈ tblG) (hfr : 1 ≤ R.frames) (hlo : (st.map fun v => v.category).sum + 13 ≤ R.locals) (hc : cells ≤ R.cells) (hs : slots ≤ R.slots) (hd : decode cc pc = .ok (.invokestatic index, 3)) (kk : Wg K E cells slots (pc + 3) ls (.int (if y < x then y else x) :: st) g n) : Wg K E cells slots pc ls (.int y :: .int x :: st) g n := fun H locs la h1 h2 h3 h4 => va_mmin S.x S.b (by rw [S.ml, ← hlen]; exact h1.1.symm) S.o (S.w _ hlink) (S.w _ hstat) (S.w _ hini) (S.w _ hcode) (by rw [S.2.2.2]; exact hfr) (by rw [S.2.2.2]; exact hlo) (by rw [S.2.2.2]; exact hc) (by rw [S.2.2.2]; exact hs) hd (kk H locs la h1 h2 h3 h4)
theorem r_copy (S : Sx K E cc nL own R) {index a b N : Nat} {f f2 : Nat → Int32} {len : Int32} (hlen : ls.length = nL) (hlink : Cond.methodLink own index arraycopyName ∈ tblG) (hnat : Cond.native arraycopyName ∈ tblG) (hstat : Cond.static arraycopyName ∈ tblG) (hini : Cond.initialized "java/lang/System" ∈ tblG) (hfr : 1 ≤ R.frames) (hlo : (st.map fun v => v.category).sum + (nativeFrameWords "java/lang/System" "arraycopy" 5 + 11) ≤ R.locals) (hd : decode cc pc = .ok (.invokestatic index, 3)) (ha : g a = some (ic E N f)) (hb : g b = some (ic E N f2)) (hN : N < 2 ^ 31) (hl : len = nI N) (kk : Wg K E cells slots (pc + 3) ls st (hu g b (ic E N f)) n) : Wg K E cells slots pc ls (.int len :: .int 0 :: .ref b :: .int 0 :: .ref a :: st) g n := fun H locs la h1 h2 h3 h4 => by
  subst hl
  have hn1 := nI_clamp hN
  have hn2 := nI_toInt hN
  obtain ⟨-, hc0⟩ := h2 a _ ha
  obtain ⟨hbb, hc1⟩ := h2 b _ hb
  have hc0 : H[a]? = some (vp_cell (E.2.2.1 0) (N, .inl (tr 0 N f))) := hc0
  have hc1 : H[b]? = some (vp_cell (E.2.2.1 0) (N, .inl (tr 0 N f2))) := hc1
  obtain ⟨-, k0, hk0, cm0, hkk0⟩ := (S.k.2 0 _ rfl).1 N (fun j => .int (tr 0 N f j))
  obtain ⟨-, k1, hk1, cm1, hkk1⟩ := (S.k.2 0 _ rfl).1 N (fun j => .int (tr 0 N f2 j))
  have z0 : (0 : Int32).toNatClampNeg = 0 := rfl
  have z1 : (0 : Int32).toInt = 0 := rfl
  intro T hT X
  obtain ⟨vm', X', step⟩ := X.arraycopy S.x S.o (S.w _ hlink) (S.w _ hnat) (S.w _ hstat) (S.w _ hini) (src := a) (dst := b) (cs := vp_cell (E.2.2.1 0) (N, .inl (tr 0 N f))) (cd := vp_cell (E.2.2.1 0) (N, .inl (tr 0 N f2))) (srcPos := 0) (destPos := 0) (n := nI N) (by rw [hT]; exact hc0) (by rw [hT]; exact hc1)
    (fun _ h => by cases h) (fun _ h => by cases h) (fun h => by cases h) (fun h => by cases h) hk0 hk1 hkk0 hkk1 rfl (by decide) (by decide) (nI_pos hN)
    (by rw [z1, hn2]; show ¬ _ > ((arrV (E.2.2.1 0) N (fun j => .int (tr 0 N f j))).slots.size : Int); rw [arrV_size]; omega)
    (by rw [z1, hn2]; show ¬ _ > ((arrV (E.2.2.1 0) N (fun j => .int (tr 0 N f2 j))).slots.size : Int); rw [arrV_size]; omega)
    (fun vm₁ _ i hi => by
      rw [hn1] at hi
      have e : (vp_cell (E.2.2.1 0) (N, .inl (tr 0 N f))).slots.getD ((0 : Int32).toNatClampNeg + i) .null = .int (tr 0 N f ((0 : Int32).toNatClampNeg + i)) := by
        show (arrV (E.2.2.1 0) N (fun j => .int (tr 0 N f j))).slots.getD _ _ = _
        rw [Array.getD_eq_getD_getElem?, arrV_read _ _ (by rw [z0]; omega)]
        rfl
      refine ⟨?_, ?_⟩
      · rw [e]
        rfl
      · rw [e]
        exact trivial)
    (g := F0 K.2.2.2.2.2.1 pc la (.int (nI N) :: .int 0 :: .ref b :: .int 0 :: .ref a :: st)) rfl (by rw [S.ml, ← hlen]; exact h1.1) (rest := st) rfl (by rw [S.b]; exact hd) (by rw [S.2.2.2]; exact hfr) (by rw [S.2.2.2]; show 2 * 0 + _ + _ ≤ _; omega)
  have e1 : copied (vp_cell (E.2.2.1 0) (N, .inl (tr 0 N f))) (vp_cell (E.2.2.1 0) (N, .inl (tr 0 N f2))) 0 0 (nI N) = vp_cell (E.2.2.1 0) (N, .inl (tr 0 N f)) := by
    have e8 : va_cpy (tr 0 N f) (tr 0 N f2) (0 : Int32).toNatClampNeg (0 : Int32).toNatClampNeg (nI N).toNatClampNeg = tr 0 N f := by
      funext k
      by_cases e : k < N
      · simp [va_cpy, z0, hn1, e]
      · simp [va_cpy, z0, hn1, e, tr]
    have e9 : copied (vp_cell (E.2.2.1 0) (N, .inl (tr 0 N f))) (vp_cell (E.2.2.1 0) (N, .inl (tr 0 N f2))) 0 0 (nI N) = vp_cell (E.2.2.1 0) (N, .inl (va_cpy (tr 0 N f) (tr 0 N f2) (0 : Int32).toNatClampNeg (0 : Int32).toNatClampNeg (nI N).toNatClampNeg)) := va_copied (fun z => .int z) (E.2.2.1 0) (E.2.2.1 0) (tr 0 N f) (tr 0 N f2) (by rw [z0, hn1]; omega)
    rw [e9, e8]
  rw [e1] at X' step
  have hl : b < H.size := (Array.getElem?_eq_some_iff.mp hc1).1
  have hheap : ((T.setVm vm').setCell b (vp_cell (E.2.2.1 0) (N, .inl (tr 0 N f)))).heap = H.setIfInBounds b (vp_cell (E.2.2.1 0) (N, .inl (tr 0 N f))) := by rw [← hT]; rfl
  have oq : ∀ q : Nat, q ≠ b → (H.setIfInBounds b (vp_cell (E.2.2.1 0) (N, .inl (tr 0 N f))))[q]? = H[q]? := fun q hq => by simp [Array.getElem?_setIfInBounds, Ne.symm hq]
  obtain ⟨t, a1, b1⟩ := kk _ _ la h1 (h2.put hb (show (H.setIfInBounds b _)[b]? = some _ by simp [Array.getElem?_setIfInBounds, hl]) oq) (by simp [h3]) ⟨by simp; exact h4.1, fun q g1 g2 => by
      rw [oq q (fun e => g2 (by rw [e]; exact hbb))]
      exact h4.2.1 q g1 g2, fun q hq => by
      rcases List.mem_append.mp hq with h | h
      · exact h4.2.2 q h
      · obtain ⟨z, -, hz⟩ := List.mem_map.mp h
        rw [← hz]
        exact hbb⟩ _ hheap X'
  exact ⟨t, step t a1, b1⟩
end RW
/-- a method's end: answer and heap -/
def cQ (E : xE) (Z : Option Value → hG → Nat → Prop) : Array Value → State → Outcome → State → Prop := fun _ st o t => (∃ (v : Option Value) (g' : hG) (n' : Nat), o = .returned v ∧ Z v g' n' ∧ t.heap.size = n' ∧ hp E g' t.heap) ∧ va_F (xA E) st t
def yw (y : MethodName) (cc : ByteArray) (maxL : Nat) (ret : Option FieldType) : List Cond := Cond.code y cc maxL ret :: tblG
def cP (E : xE) (ar : List Value) (g : hG) (n : Nat) : Array Value → State → Prop := va_Pc ar (fun U => U.heap.size = n ∧ E.1 ≤ n ∧ hp E g U.heap ∧ Xs E U)
/-- A CONTRACT: from the heap g of n cells, with these arguments, the method comes to an answer and a heap with Z -/
def Ct (l : Launch) (y : MethodName) (cc : ByteArray) (maxL : Nat) (ret : Option FieldType) (fr lo mc ms : Nat) (E : xE) (ar : List Value) (g : hG) (n : Nat) (Z : Option Value → hG → Nat → Prop) : Prop :=
  Met l y (yw y cc maxL ret) { frames := fr, cells := mc, slots := ms, locals := lo } (cP E ar g n) (cQ E Z) mc ms (xA E)
/-- the fixed facts of a method's body -/
def Sm (K : xC) (E : xE) (cc : ByteArray) (nL : Nat) (own : String) (R : Room) (ret : Option FieldType) (nm : String) (mc ms : Nat) (Z : Option Value → hG → Nat → Prop) : Prop :=
  Sx K E cc nL own R ∧ K.2.2.2.2.2.2.2.2.2.2 = MQ K.2.2.2.2.2.2.2.1 (cQ E Z) K.2.2.2.2.2.2.1 K.2.2.2.2.1 mc ms (xA E) ∧ K.2.2.2.2.2.2.2.2.1.sig.returnType = ret ∧ K.2.2.2.2.2.2.2.2.1.locks = false ∧ K.2.2.2.2.2.2.2.2.1.name = nm
theorem lo_entry (ar : List Value) (maxL : Nat) (hl : ar.length ≤ maxL) (hc : ∀ v ∈ ar, v.category = 1) : lo ((lg_sl ar ++ List.replicate (maxL - (lg_sl ar).length) Slot.unset).toArray) (ar.map some ++ List.replicate (maxL - ar.length) none) := by
  have e : lg_sl ar = ar.map Slot.val := by
    clear hl
    induction ar with
    | nil => rfl
    | cons v t ih =>
      have h1 := hc v List.mem_cons_self
      have h2 := ih (fun w hw => hc w (List.mem_cons_of_mem _ hw))
      show (if v.category = 2 then [Slot.val v, .second] else [Slot.val v]) ++ lg_sl t = _
      rw [if_neg (by omega), h2]
      rfl
  have hll : (lg_sl ar).length = ar.length := by rw [e, List.length_map]
  have h := lv_entry ar (n := maxL) (by omega)
  refine ⟨?_, h.2.1, fun i v hi => ?_⟩
  · simp [hll]
  · by_cases hlt : i < ar.length
    · rw [List.getElem?_append_left (by simpa using hlt), List.getElem?_map] at hi
      have hv : ar[i]? = some v := by
        cases h9 : ar[i]? with
        | none => rw [h9] at hi; cases hi
        | some u => rw [h9] at hi; cases hi; rfl
      refine ⟨?_, hc v (List.mem_of_getElem? hv)⟩
      rw [e]
      have h8 : ar[i] = v := Option.some.inj ((List.getElem?_eq_getElem hlt).symm.trans hv)
      simp [List.getElem?_append, hlt, h8]
    · rw [List.getElem?_append_right (by simpa using hlt)] at hi
      have := List.mem_of_getElem? hi
      simp at this
theorem Xs.same {E : xE} {u U : State} (hv : U.vm = u.vm) (hh : U.heap = u.heap) (h : Xs E u) : Xs E U := h.warm (by rw [hv]; exact State.WarmedH.refl u) (by rw [hh]; exact Nat.le_refl _) (fun a _ _ => by rw [hh])
theorem cP.blind {E : xE} {ar : List Value} {g : hG} {n : Nat} : FrameBlind (cP E ar g n) := fun a U f mk ⟨h1, h2, h3, h4, h5⟩ => ⟨h1, h2, h3, h4, h5.same rfl rfl⟩
theorem Ct.of {l : Launch} {y : MethodName} {cc : ByteArray} {maxL : Nat} {ret : Option FieldType} {fr lo mc ms : Nat} {E : xE} {ar : List Value} {g : hG} {n : Nat} {Z : Option Value → hG → Nat → Prop} (hy : plainName y.cls = true) (hl : ar.length ≤ maxL) (hc : ∀ v ∈ ar, v.category = 1)
    (body : ∀ K : xC, K.2.1 = l → Sm K E cc maxL y.cls { frames := fr, cells := mc, slots := ms, locals := lo } ret y.name mc ms Z → Wg K E 0 0 0 (ar.map some ++ List.replicate (maxL - ar.length) none) [] g n) : Ct l y cc maxL ret fr lo mc ms E ar g n Z := by
  refine Met.ofW (cc := cc) (maxL := maxL) (ret := ret) hy rfl ?_
  intro p e s m args below meth c s₁ B hml hv
  obtain ⟨rfl, hsz, hB, hP, hX⟩ := hv
  have hts := atoms_spec (ws := yw y cc maxL ret) B.pre
  rw [lg_entry_eq]
  have hown : s.vm.findClass y.cls = some m.cls := findClass_of_methodNamed B.named
  exact body (p, l, e, _, s, m, _, below, meth, c, _) rfl ⟨⟨⟨B.exec, B.bytes, hml, hown, fun w hw => hts w (List.mem_cons_of_mem _ hw)⟩, hX, by rw [hsz]; exact hB, rfl⟩, rfl, B.returns, B.notSynchronized, (name_of_methodNamed B.named B.method).1⟩ s.heap [] _ (lo_entry ar maxL hl hc) hP hsz va_S.rf
section RT
variable {K : xC} {E : xE} {pc nL : Nat} {ls : List (Option Value)} {g : hG} {n mc ms : Nat} {cc : ByteArray} {own nm : String} {R : Room} {Z : Option Value → hG → Nat → Prop}
theorem r_iret {v : Int32} (S : Sm K E cc nL own R (some .int) nm mc ms Z) (hd : decode cc pc = .ok (.ireturn, 1)) (hz : Z (some (.int v)) g n) : Wg K E mc ms pc ls [.int v] g n := fun H locs la h1 h2 h3 h4 => by
  rw [S.2.1]
  exact W.iret S.1.x S.1.b S.2.2.1 (fun t ht hW => ⟨⟨_, g, n, rfl, hz, by rw [ht]; exact h3, by rw [ht]; exact h2⟩, h4.F ht⟩) h4.2.2 hd S.2.2.2.1
theorem r_zret {v : Int32} {ty : FieldType} (S : Sm K E cc nL own R (some ty) nm mc ms Z) (hd : decode cc pc = .ok (.ireturn, 1)) (hn : narrow ty (.int v) = .int v) (hz : Z (some (.int v)) g n) : Wg K E mc ms pc ls [.int v] g n := fun H locs la h1 h2 h3 h4 => by
  rw [S.2.1]
  exact W.zret S.1.x S.1.b S.2.2.1 hn (fun t ht hW => ⟨⟨_, g, n, rfl, hz, by rw [ht]; exact h3, by rw [ht]; exact h2⟩, h4.F ht⟩) h4.2.2 hd S.2.2.2.1
theorem r_vret (S : Sm K E cc nL own R none nm mc ms Z) (hd : decode cc pc = .ok (.return_, 1)) (hz : Z none g n) : Wg K E mc ms pc ls [] g n := fun H locs la h1 h2 h3 h4 => by
  rw [S.2.1]
  exact W.vret S.1.x S.1.b S.2.2.1 (fun t ht hW => ⟨⟨_, g, n, rfl, hz, by rw [ht]; exact h3, by rw [ht]; exact h2⟩, h4.F ht⟩) h4.2.2 hd S.2.2.2.1
theorem r_aret {v : Value} {C : String} (S : Sm K E cc nL own R (some (.object C)) nm mc ms Z) (hd : decode cc pc = .ok (.areturn, 1)) (hv : v = .null ∨ ∃ a, v = .ref a) (hz : Z (some v) g n) : Wg K E mc ms pc ls [v] g n := fun H locs la h1 h2 h3 h4 => by
  rw [S.2.1]
  exact W.aret S.1.x S.1.b S.2.2.1 (Or.inl ⟨_, rfl⟩) hv (fun t ht hW => ⟨⟨_, g, n, rfl, hz, by rw [ht]; exact h3, by rw [ht]; exact h2⟩, h4.F ht⟩) h4.2.2 hd S.2.2.2.1
end RT
section RC
variable {K : xC} {E : xE} {cells slots pc nL : Nat} {ls : List (Option Value)} {st : List Value} {g : hG} {n : Nat} {cc : ByteArray} {own : String} {R : Room}
theorem r_go {mc ms : Nat} {Z : Option Value → hG → Nat → Prop} {H : Heap} {locs : List Loc} {la : Array Slot} {st0 : List Value} {a : Array Value} (h1 : lo la ls) (h4 : va_S (xA E) K.2.2.2.2.1.heap H locs)
    (hr : va_Run K.1 K.2.1 K.2.2.1 K.2.2.2.1 K.2.2.2.2.1 K.2.2.2.2.2.1 K.2.2.2.2.2.2.1 K.2.2.2.2.2.2.2.1 K.2.2.2.2.2.2.2.2.1 K.2.2.2.2.2.2.2.2.2.1 H locs cells slots mc ms (F0 K.2.2.2.2.2.1 pc la st0) st (cQ E Z a) (xA E))
    (kk : ∀ (v : Option Value) (g' : hG) (n' : Nat), Z v g' n' → Wg K E (cells + mc) (slots + ms) (pc + 3) ls (v.toList ++ st) g' n') : W K.1 K.2.1 K.2.2.1 K.2.2.2.1 K.2.2.2.2.1 K.2.2.2.2.2.1 K.2.2.2.2.2.2.1 K.2.2.2.2.2.2.2.1 K.2.2.2.2.2.2.2.2.1 K.2.2.2.2.2.2.2.2.2.1 H locs cells slots K.2.2.2.2.2.2.2.2.2.2 (F0 K.2.2.2.2.2.1 pc la st0) := by
  intro T hT X
  obtain ⟨v, st₀, t, T', L, h0, X', hL, e1, e2, ⟨⟨v', g', n', hv, hz, hsz, hp9⟩, hzz, hk⟩, stp⟩ := hr T hT X
  cases hv
  rw [h0] at hzz hk
  obtain ⟨t2, a1, b1⟩ := kk v g' n' hz T'.heap (locs ++ L) la h1 (by rw [e1]; exact hp9) (by rw [e1]; exact hsz) ⟨Nat.le_trans h4.1 (by rw [e1]; exact hzz), fun q q1 q2 => by rw [e1, hk q (Nat.lt_of_lt_of_le q1 h4.1) q2]; exact h4.2.1 q q1 q2, fun q hq => by
      rcases List.mem_append.mp hq with h | h
      · exact h4.2.2 q h
      · exact hL q h⟩ T' rfl X'
  exact ⟨t2, stp t2 a1, b1⟩
theorem Sx.pre (S : Sx K E cc nL own R) {H : Heap} {locs : List Loc} {ar : List Value} (h2 : hp E g H) (h3 : H.size = n) (h4 : va_S (xA E) K.2.2.2.2.1.heap H locs) : ∀ U : State, U.heap = H → K.2.2.2.2.1.WarmedH U.vm → cP E ar g n ar.toArray U := fun U hU hW => ⟨rfl, by rw [hU]; exact h3, by rw [← h3]; exact S.le h4, by rw [hU]; exact h2, S.2.1.warm hW (by rw [hU]; exact h4.1) (fun a h5 h6 => by rw [hU]; exact h4.2.1 a h5 h6)⟩
theorem gd_all {y : MethodName} {bytes : ByteArray} {maxL : Nat} {ret : Option FieldType} (h : Cond.code y bytes maxL ret ∈ tblG) : GoodIn tblG (yw y bytes maxL ret) := fun w hw => by
  have hm : w ∈ tblG := by
    rcases List.mem_cons.mp hw with e | e
    · rw [e]; exact h
    · exact e
  exact ⟨hm, good_of_word (List.mem_filter.mp hm).2⟩
theorem gd_app {a b : List Cond} (ha : ∀ w ∈ a, w ∈ tblG) (hb : GoodIn tblG b) : GoodIn tblG (a ++ b) := fun w hw => by
  rcases List.mem_append.mp hw with h | h
  · exact ⟨ha w h, good_of_word (List.mem_filter.mp (ha w h)).2⟩
  · exact hb w h
variable {y : MethodName} {bytes : ByteArray} {maxL fr lo_ mc ms b : Nat} {ret : Option FieldType} {As : List Value} {Z : Option Value → hG → Nat → Prop}
/-- what every call asks, by program -/
def cOk (R : Room) (y : MethodName) (k fr lo_ maxL : Nat) (cells slots mc ms : Nat) (st : List Value) : Prop := (y.cls ≠ "java/lang/invoke/MethodHandle" ∧ y.cls ≠ "java/lang/invoke/VarHandle" ∧ (parseMethodDescriptor y.desc).map (fun d => d.parameters.length) = some k) ∧ (fr + 1 ≤ R.frames ∧ 8 + (maxL + 11) + lo_ ≤ R.locals) ∧ (cells + mc ≤ R.cells ∧ slots + ms ≤ R.slots) ∧ (st.map fun v => v.category).sum ≤ 8
theorem r_callV {index ci N : Nat} {C : String} {T : u_T} {fs : List Value} {st0 : List Value} (S : Sx K E cc nL own R) (hlen : ls.length = nL) (hM : Ct K.2.1 y bytes maxL ret fr lo_ mc ms E (.ref b :: As) g n Z) (w1 : Cond.methodLink own index y ∈ tblG) (w2 : Cond.instanceMethod y ∈ tblG) (w3 : Cond.selects C y y ∈ tblG) (w4 : Cond.initialized C ∈ tblG) (w5 : Cond.code y bytes maxL ret ∈ tblG) (hC : y.cls = C) (hcl : vwCl[ci]? = some (C, T, N)) (he : g b = some (oc ci fs)) (hst : st0 = As.reverse ++ .ref b :: st) (hok : cOk R y As.length fr lo_ maxL cells slots mc ms st) (hd : decode cc pc = .ok (.invokevirtual index, 3))
    (kk : ∀ (v : Option Value) (g' : hG) (n' : Nat), Z v g' n' → Wg K E (cells + mc) (slots + ms) (pc + 3) ls (v.toList ++ st) g' n') : Wg K E cells slots pc ls st0 g n := fun H locs la h1 h2 h3 h4 => by
  subst hst
  obtain ⟨o1, o2, o3, o4⟩ := hok
  have hgd : GoodIn tblG (wsV own index C y (yw y bytes maxL ret)) := gd_app (fun w hw => by
    simp only [List.mem_cons, List.not_mem_nil, or_false] at hw
    rcases hw with rfl | rfl | rfl | rfl <;> assumption) (gd_all w5)
  exact r_go h1 h4 (va_runV (As := As) (rest := st) S.1 hM (cwV As.length S.w hgd rfl rfl rfl ⟨hC, o1⟩ (by rw [S.2.2.2]; exact o2)) ⟨cP.blind, va_recv (q0 := 0) S.k (h2.one he) hcl rfl, S.pre h2 h3 h4⟩ rfl rfl (by rw [← hlen]; exact h1.1) rfl (by show 2 * 0 + _ ≤ 8; omega) hd (by rw [S.2.2.2]; exact o3)) kk
theorem r_callU {index ci N : Nat} {C owner : String} {T : u_T} {fs : List Value} {st0 : List Value} {x : MethodName} (S : Sx K E cc nL own R) (hlen : ls.length = nL) (hM : Ct K.2.1 y bytes maxL ret fr lo_ mc ms E (.ref b :: As) g n Z) (cw : va_CU R K.2.2.2.2.1 K.2.2.2.2.2.2.1 own C owner index x y bytes maxL ret (yw y bytes maxL ret) { frames := fr, cells := mc, slots := ms, locals := lo_ } mc ms As.length) (hcl : vwCl[ci]? = some (C, T, N)) (he : g b = some (oc ci fs)) (hst : st0 = As.reverse ++ .ref b :: st) (hok : (cells + mc ≤ R.cells ∧ slots + ms ≤ R.slots) ∧ (st.map fun v => v.category).sum ≤ 8) (hd : decode cc pc = .ok (.invokevirtual index, 3))
    (kk : ∀ (v : Option Value) (g' : hG) (n' : Nat), Z v g' n' → Wg K E (cells + mc) (slots + ms) (pc + 3) ls (v.toList ++ st) g' n') : Wg K E cells slots pc ls st0 g n := fun H locs la h1 h2 h3 h4 => by
  subst hst
  obtain ⟨o3, o4⟩ := hok
  have hR := S.2.2.2
  exact r_go h1 h4 (va_runU (As := As) (rest := st) S.1 hM (by rw [hR]; exact cw) ⟨cP.blind, va_recv (q0 := 0) S.k (h2.one he) hcl rfl, S.pre h2 h3 h4⟩ rfl rfl (by rw [← hlen]; exact h1.1) rfl (by show 2 * 0 + _ ≤ 8; omega) hd (by rw [hR]; exact o3)) kk
theorem r_callS {index : Nat} {st0 : List Value} (S : Sx K E cc nL own R) (hlen : ls.length = nL) (hM : Ct K.2.1 y bytes maxL ret fr lo_ mc ms E As g n Z) (w1 : Cond.methodLink own index y ∈ tblG) (w2 : Cond.static y ∈ tblG) (w4 : Cond.initialized y.cls ∈ tblG) (w5 : Cond.code y bytes maxL ret ∈ tblG) (hst : st0 = As.reverse ++ st) (hok : cOk R y As.length fr lo_ maxL cells slots mc ms st) (hd : decode cc pc = .ok (.invokestatic index, 3))
    (kk : ∀ (v : Option Value) (g' : hG) (n' : Nat), Z v g' n' → Wg K E (cells + mc) (slots + ms) (pc + 3) ls (v.toList ++ st) g' n') : Wg K E cells slots pc ls st0 g n := fun H locs la h1 h2 h3 h4 => by
  subst hst
  obtain ⟨o1, o2, o3, o4⟩ := hok
  have hgd : GoodIn tblG (va_wsS own index y (yw y bytes maxL ret)) := gd_app (fun w hw => by
    simp only [List.mem_cons, List.not_mem_nil, or_false] at hw
    rcases hw with rfl | rfl | rfl <;> assumption) (gd_all w5)
  exact r_go h1 h4 (va_runS (As := As) (rest := st) S.1 hM (va_cwS As.length S.w hgd rfl rfl rfl o1 (by rw [S.2.2.2]; exact o2)) ⟨cP.blind, S.pre h2 h3 h4⟩ rfl rfl (by rw [← hlen]; exact h1.1) rfl (by show 2 * 0 + _ ≤ 8; omega) hd (by rw [S.2.2.2]; exact o3)) kk
theorem r_callI {index : Nat} {st0 : List Value} (S : Sx K E cc nL own R) (hlen : ls.length = nL) (hM : Ct K.2.1 y bytes maxL none fr lo_ mc ms E (.ref b :: As) g n Z) (w1 : Cond.methodLink own index y ∈ tblG) (w2 : Cond.instanceMethod y ∈ tblG) (w4 : Cond.initialized y.cls ∈ tblG) (w5 : Cond.code y bytes maxL none ∈ tblG) (hi : y.name = "<init>") (hst : st0 = As.reverse ++ .ref b :: st) (hok : cOk R y As.length fr lo_ maxL cells slots mc ms st) (hd : decode cc pc = .ok (.invokespecial index, 3))
    (kk : ∀ (v : Option Value) (g' : hG) (n' : Nat), Z v g' n' → Wg K E (cells + mc) (slots + ms) (pc + 3) ls (v.toList ++ st) g' n') : Wg K E cells slots pc ls st0 g n := fun H locs la h1 h2 h3 h4 => by
  subst hst
  obtain ⟨o1, o2, o3, o4⟩ := hok
  exact r_go h1 h4 (va_runI (As := As) (rest := st) S.1 hM (cwI As.length S.w (gd_all w5) rfl rfl rfl (S.w _ w4) (S.w _ w1) (S.w _ w2) hi o1 (by rw [S.2.2.2]; exact o2)) ⟨cP.blind, S.pre (ar := .ref b :: As) h2 h3 h4⟩ rfl rfl (by rw [← hlen]; exact h1.1) rfl (by show 2 * 0 + _ ≤ 8; omega) hd (by rw [S.2.2.2]; exact o3)) kk
theorem r_callIN {index : Nat} {host : String} {st0 : List Value} (S : Sx K E cc nL own R) (hlen : ls.length = nL) (hM : Ct K.2.1 y bytes maxL none fr lo_ mc ms E (.ref b :: As) g n Z) (w1 : va_Nw (.methodLinkNest own index y host) K.2.2.2.2.1) (w2 : Cond.instanceMethod y ∈ tblG) (w4 : Cond.initialized y.cls ∈ tblG) (w5 : Cond.code y bytes maxL none ∈ tblG) (hi : y.name = "<init>") (hst : st0 = As.reverse ++ .ref b :: st) (hok : cOk R y As.length fr lo_ maxL cells slots mc ms st) (hd : decode cc pc = .ok (.invokespecial index, 3))
    (kk : ∀ (v : Option Value) (g' : hG) (n' : Nat), Z v g' n' → Wg K E (cells + mc) (slots + ms) (pc + 3) ls (v.toList ++ st) g' n') : Wg K E cells slots pc ls st0 g n := fun H locs la h1 h2 h3 h4 => by
  subst hst
  obtain ⟨o1, o2, o3, o4⟩ := hok
  exact r_go h1 h4 (va_runIN (As := As) (rest := st) S.1 hM ⟨va_cnB As.length S.w (gd_all w5) rfl rfl rfl w1 (S.w _ w4) o1 (by rw [S.2.2.2]; exact o2), hi, S.w _ w2⟩ ⟨cP.blind, S.pre (ar := .ref b :: As) h2 h3 h4⟩ rfl rfl (by rw [← hlen]; exact h1.1) rfl (by show 2 * 0 + _ ≤ 8; omega) hd (by rw [S.2.2.2]; exact o3)) kk
end RC
