/-! the pure heap held against the machine's -/
def px_ren (ad : Nat → Nat) (v : Value) : Value := match v with
  | .ref k => .ref (ad k)
  | .int x => .int x
  | .long x => .long x
  | .float x => .float x
  | .double x => .double x
  | .null => .null
  | .retAddr x => .retAddr x
theorem px_cat (ad : Nat → Nat) (v : Value) : (px_ren ad v).category = v.category := by cases v <;> rfl
def px_ad (od : Nat → Nat) (b0 k : Nat) : Nat := if k < 8 then od k else b0 + (k - 8)
def px_ob (D : va_G) (ad : Nat → Nat) (t : Nat) (vs : List Value) (a : Nat) (H : Heap) : Prop :=
  ∃ cell : Cell, H[a]? = some cell ∧ cell.cls = D.1 t ∧ cell.vm = .none ∧ vs.length = px_nf t ∧ ∀ j v, vs[j]? = some v → cell.slots[D.2 t j]? = some (px_ren ad v)
def px_ar (S0 : State) (D : va_G) (ad : Nat → Nat) (t : Nat) (vs : List Value) (a : Nat) (H : Heap) : Prop :=
  ∃ cell : Cell, H[a]? = some cell ∧ S0.isArrayOf cell (px_ty t) ∧ cell.vm ≠ .unknown ∧ (t ≠ 20 → cell.slots = (vs.map (px_ren ad)).toArray) ∧ (t = 13 → cell.cls = D.1 13) ∧ (t = 20 → (∀ (j : Nat) (v : Value), vs[j]? = some v → cell.slots[j]? = some (px_ren ad v)) ∧ cell.slots.size.toInt32 = vs.length.toInt32)
def px_at (S0 : State) (D : va_G) (ad : Nat → Nat) (c : px_C) (a : Nat) (H : Heap) : Prop :=
  (c.1 < 5 → px_ob D ad c.1 c.2 a H) ∧ (10 ≤ c.1 → c.1 ≤ 20 → px_ar S0 D ad c.1 c.2 a H) ∧ (c.1 < 5 ∨ 10 ≤ c.1)
theorem px_at.kept {S0 : State} {D : va_G} {ad : Nat → Nat} {c : px_C} {a : Nat} {H H1 : Heap} (h : px_at S0 D ad c a H) (hq : H1[a]? = H[a]?) : px_at S0 D ad c a H1 := by
  refine ⟨fun h5 => ?_, fun h1 h2 => ?_, h.2.2⟩
  · obtain ⟨cell, q, r⟩ := h.1 h5
    exact ⟨cell, by rw [hq]; exact q, r⟩
  · obtain ⟨cell, q, r⟩ := h.2.1 h1 h2
    exact ⟨cell, by rw [hq]; exact q, r⟩
def px_W (S0 : State) (D : va_G) (od : Nat → Nat) (hp : px_H) (H : Heap) : Prop :=
  8 ≤ hp.length ∧ H.size + 8 = S0.heap.size + hp.length ∧ (∀ q, q < S0.heap.size → H[q]? = S0.heap[q]?) ∧
  ∀ k c, hp[k]? = some c → px_at S0 D (px_ad od S0.heap.size) c (px_ad od S0.heap.size k) H
theorem px_ad_new {od : Nat → Nat} {b0 k : Nat} (h : 8 ≤ k) : px_ad od b0 k = b0 + (k - 8) := by
  unfold px_ad; rw [if_neg (by omega)]
theorem px_ad_old {od : Nat → Nat} {b0 k : Nat} (h : k < 8) : px_ad od b0 k = od k := by
  unfold px_ad; rw [if_pos h]
theorem px_W.set {S0 : State} {D : va_G} {od : Nat → Nat} {hp : px_H} {H H1 : Heap} (hod : ∀ k, k < 8 → od k < S0.heap.size) (h : px_W S0 D od hp H) {a : Nat} (ha : 8 ≤ a) {c' : px_C}
    (hc : px_at S0 D (px_ad od S0.heap.size) c' (px_ad od S0.heap.size a) H1) (hs : H1.size = H.size) (hq : ∀ q, q ≠ px_ad od S0.heap.size a → H1[q]? = H[q]?) : px_W S0 D od (hp.set a c') H1 := by
  have ea := px_ad_new (od := od) (b0 := S0.heap.size) ha
  obtain ⟨h1, h2, h3, h4⟩ := h
  refine ⟨by simpa using h1, by rw [hs]; simpa using h2, fun q hq1 => ?_, fun k c hk => ?_⟩
  · rw [hq q (by rw [ea]; omega)]; exact h3 q hq1
  · by_cases hka : k = a
    · subst hka
      rw [List.getElem?_set_self' ] at hk
      cases hx : hp[k]? with
      | none => rw [hx] at hk; simp at hk
      | some c0 =>
        rw [hx] at hk
        simp at hk
        subst hk
        exact hc
    · rw [List.getElem?_set_ne (Ne.symm hka)] at hk
      refine (h4 k c hk).kept (hq _ ?_)
      rw [ea]
      by_cases hk8 : k < 8
      · rw [px_ad_old hk8]
        have := hod k hk8
        omega
      · rw [px_ad_new (by omega)]
        omega
theorem px_W.app {S0 : State} {D : va_G} {od : Nat → Nat} {hp : px_H} {H H1 : Heap} (hod : ∀ k, k < 8 → od k < S0.heap.size) (h : px_W S0 D od hp H) (cs : px_H)
    (hc : ∀ i c, cs[i]? = some c → px_at S0 D (px_ad od S0.heap.size) c (H.size + i) H1) (hs : H1.size = H.size + cs.length) (hq : ∀ q, q < H.size → H1[q]? = H[q]?) : px_W S0 D od (hp ++ cs) H1 := by
  obtain ⟨h1, h2, h3, h4⟩ := h
  refine ⟨by simp; omega, by rw [hs]; simp; omega, fun q hq1 => ?_, fun k c hk => ?_⟩
  · rw [hq q (by omega)]; exact h3 q hq1
  · by_cases hkl : k < hp.length
    · rw [List.getElem?_append_left hkl] at hk
      refine (h4 k c hk).kept (hq _ ?_)
      by_cases hk8 : k < 8
      · rw [px_ad_old hk8]
        have := hod k hk8
        omega
      · rw [px_ad_new (by omega)]
        omega
    · rw [List.getElem?_append_right (by omega)] at hk
      have := hc _ _ hk
      have e : px_ad od S0.heap.size k = H.size + (k - hp.length) := by
        rw [px_ad_new (by omega)]
        omega
      rw [e]
      exact this
theorem px_W.hpl {S0 : State} {D : va_G} {od : Nat → Nat} {hp : px_H} {H : Heap} (h : px_W S0 D od hp H) : px_ad od S0.heap.size hp.length = H.size := by
  obtain ⟨h1, h2, -, -⟩ := h
  rw [px_ad_new h1]; omega
def px_A (S0 : State) : Nat → Prop := fun q => S0.heap.size ≤ q
/-- what is known of the law's start S0 -/
def px_Cx (l : Launch) (S0 : State) (A0 : Array Value) (D : va_G) (od sa : Nat → Nat) : Prop :=
  (∀ w ∈ lw_tbl, w.before A0 S0 = true) ∧ (∀ t, t < 5 → u_Kn S0 (px_R t) (px_T t) (px_nf t) (D.1 t) (D.2 t)) ∧
  (∃ (kA : Class) (comp : ClassId), S0.vm.classes[D.1 13]? = some kA ∧ kA.kind = .array comp (.object "ColourSums$Form") ∧ S0.vm.findClass "ColourSums$Form" = some comp ∧ S0.vm.findClass ("[" ++ (FieldType.object "ColourSums$Form").toString) = some (D.1 13)) ∧
  (∀ k, k < 8 → od k < S0.heap.size) ∧ (∀ n, 1 ≤ n → n ≤ 6 → va_Z RX2 (px_sn n) "[I" (.ref (od n)) (px_A S0) S0 S0.heap) ∧
  vx_Zq Bundle.tN "UNASSIGNED_STACK" Bundle.steD (px_A S0) S0 S0.heap ∧ vx_Zq Bundle.tN "SUPPRESSED_SENTINEL" Bundle.listD (px_A S0) S0 S0.heap ∧
  vk_R RX3 164 "there is no such cell" (sa 0) S0 ∧ vk_R RX3 167 "there is no such piece" (sa 1) S0 ∧ vk_R RX3 81 "x or y is not 0 .. 3" (sa 2) S0 ∧
  l.stackTraces = false ∧ va_Nc "java/lang/IllegalArgumentException" "java/lang/ArrayIndexOutOfBoundsException" S0
/-- a frame of method j, with room for d calls more -/
def px_B (S0 : State) (j d k0 : Nat) (p : Program) (R : Room) (s : State) (m : MethodId) (meth : Method) (c : Code) : Prop :=
  p.tables.exec = Jvm.exec ∧ c.code = px_c j ∧ c.maxLocals = px_ml j ∧ s.vm.findClass (px_R (px_cn j)) = some m.cls ∧ meth.sig.returnType = px_rt j ∧ meth.locks = false ∧ (px_kd j = 2 → meth.name = "<init>") ∧
  S0.WarmedH s.vm ∧ c.exceptionTable.toList = tableOf (px_hh j) ∧ d + 7 ≤ R.frames ∧ 60 * d + 120 ≤ R.locals ∧ s.heap.size + 8 = S0.heap.size + k0 ∧ 8 ≤ k0 ∧ ∀ q, q < S0.heap.size → s.heap[q]? = S0.heap[q]?
theorem px_word {A0 args : Array Value} {S0 s : State} (h0 : ∀ w ∈ lw_tbl, w.before A0 S0 = true) (hW : S0.WarmedH s.vm) {w : Cond} (hw : w ∈ px_PT) : w.before args s = true := by
  obtain ⟨h1, h2⟩ := List.mem_filter.mp hw
  exact word_at hW (good_of_word h2) (h0 w h1)
theorem px_in {i : Nat} {w : Cond} (h : lw_tbl[i]? = some w) (hg : goodWord w = true) : w ∈ px_PT := List.mem_filter.mpr ⟨List.mem_of_getElem? h, hg⟩
theorem px_lk_mem {α : Type} {l : List (Nat × Nat × α)} {a b : Nat} {x : α} (h : px_lk l a b = some x) : (a, b, x) ∈ l := by
  induction l with
  | nil => cases h
  | cons q r ih =>
    unfold px_lk at h
    split at h
    · rename_i hq
      cases h
      obtain ⟨rfl, rfl⟩ := hq
      exact List.mem_cons_self
    · exact List.mem_cons_of_mem _ (ih h)
theorem px_ins_mem {t : List (Nat × Instr)} {pc : Nat} {i : Instr} (h : px_ins t pc = some i) : (pc, i) ∈ t := by
  induction t with
  | nil => cases h
  | cons q r ih =>
    unfold px_ins at h
    split at h
    · rename_i hq
      cases h
      subst hq
      exact List.mem_cons_self
    · exact List.mem_cons_of_mem _ (ih h)
theorem px_get_mem {lv : px_L} {i : Nat} {v : Value} (h : px_get lv i = some v) : (i, v) ∈ lv := by
  induction lv with
  | nil => cases h
  | cons q r ih =>
    unfold px_get at h
    split at h
    · rename_i hq
      cases h
      subst hq
      exact List.mem_cons_self
    · exact List.mem_cons_of_mem _ (ih h)
/-- locals, renamed -/
def px_rl (ad : Nat → Nat) (lv : px_L) : List (Nat × Value) := lv.map (fun q => (q.1, px_ren ad q.2))
theorem px_rl_at {ad : Nat → Nat} {lv : px_L} {i : Nat} {v : Value} {ls : Array Slot} {nL : Nat} (h : px_get lv i = some v) (hl : lv_has ls nL (px_rl ad lv)) : ls[i]? = some (.val (px_ren ad v)) :=
  hl.2.2 (i, px_ren ad v) (List.mem_map.mpr ⟨(i, v), px_get_mem h, rfl⟩)
theorem px_rl_s1 (ad : Nat → Nat) (lv : px_L) (i : Nat) (v : Value) : (i, px_ren ad v) :: (px_rl ad lv).filter (fun q => !(q.1 == i) && !(q.1 + 1 == i && q.2.category == 2)) = px_rl ad (px_s1 lv i v) := by
  unfold px_rl px_s1
  rw [List.map_cons, List.filter_map]
  congr 2
  apply List.filter_congr
  intro q _
  simp [Function.comp, px_cat]
theorem px_rl_s2 (ad : Nat → Nat) (lv : px_L) (i : Nat) (v : Value) : (i, px_ren ad v) :: (px_rl ad lv).filter (fun q => !(q.1 == i) && (!(q.1 == i + 1) && !(q.1 + 1 == i && q.2.category == 2))) = px_rl ad (px_s2 lv i v) := by
  unfold px_rl px_s2
  rw [List.map_cons, List.filter_map]
  congr 2
  apply List.filter_congr
  intro q _
  simp [Function.comp, px_cat]
theorem px_rl_args (ad : Nat → Nat) : ∀ (i : Nat) (vs : List Value), lv_args i (vs.map (px_ren ad)) = px_rl ad (lv_args i vs)
  | _, [] => rfl
  | i, v :: vs => by
    show (i, px_ren ad v) :: lv_args (if (px_ren ad v).category = 2 then i + 2 else i + 1) (vs.map (px_ren ad)) = _
    rw [px_cat, px_rl_args ad _ vs]
    rfl
theorem px_nar {ad : Nat → Nat} {ty : FieldType} {v : Value} (h : narrow ty v = v) : narrow ty (px_ren ad v) = px_ren ad v := by
  cases v <;> first | exact h | (cases ty <;> first | rfl | simp [narrow, px_ren] at h ⊢)
theorem px_fit {ad : Nat → Nat} {ty : FieldType} {v : Value} (h : fits ty v = true) : fits ty (px_ren ad v) = true := by
  cases v <;> first | exact h | (cases ty <;> first | rfl | simp [fits] at h)
theorem px_cats (ad : Nat → Nat) (st : List Value) : ((st.map (px_ren ad)).map fun v => v.category).sum = (st.map fun v => v.category).sum := by
  rw [List.map_map]
  congr 1
  apply List.map_congr_left
  intro v _
  exact px_cat ad v
theorem px_rd {ad : Nat → Nat} {vs : List Value} {cell : Cell} (h : cell.slots = (vs.map (px_ren ad)).toArray) {i : Nat} {v : Value} (hv : vs[i]? = some v) : cell.slots[i]? = some (px_ren ad v) ∧ ¬ cell.slots.size ≤ i := by
  have hl := (List.getElem?_eq_some_iff.mp hv).1
  rw [h]
  refine ⟨by simp [hv], by simp; omega⟩
theorem px_wr {ad : Nat → Nat} {vs : List Value} {cell : Cell} (h : cell.slots = (vs.map (px_ren ad)).toArray) (i : Nat) (v : Value) : (cell.setSlot i (px_ren ad v)).slots = ((vs.set i v).map (px_ren ad)).toArray := by
  show cell.slots.setIfInBounds i (px_ren ad v) = _
  rw [h]
  simp [List.map_set]
theorem px_ar.rd {S0 : State} {D : va_G} {ad : Nat → Nat} {t : Nat} {vs : List Value} {a : Nat} {H : Heap} (h : px_ar S0 D ad t vs a H) : ∃ cell : Cell, H[a]? = some cell ∧ S0.isArrayOf cell (px_ty t) ∧ cell.vm ≠ .unknown ∧ (∀ (i : Nat) (v : Value), vs[i]? = some v → cell.slots[i]? = some (px_ren ad v) ∧ ¬ cell.slots.size ≤ i) ∧ cell.slots.size.toInt32 = vs.length.toInt32 := by
  obtain ⟨cell, q1, q2, q3, q4, q5, q6⟩ := h
  refine ⟨cell, q1, q2, q3, ?_, ?_⟩
  · intro i v hv
    by_cases h20 : t = 20
    · have h1 := (q6 h20).1 i v hv
      exact ⟨h1, Nat.not_le.mpr (Array.getElem?_eq_some_iff.mp h1).1⟩
    · exact px_rd (q4 h20) hv
  · by_cases h20 : t = 20
    · exact (q6 h20).2
    · rw [q4 h20]; simp
