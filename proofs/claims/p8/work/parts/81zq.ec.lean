def g_H (n m : Nat) (hp : px_H) (ld : Nat → Bool) (r : Nat → Nat → Nat) (rb : Nat → Nat) : Prop := hp[(30 : Nat)]? = some (0, [.int (nI n), .ref 31, .ref (32 + n), .ref (33 + n), .int (nI m)]) ∧ hp[(31 : Nat)]? = some (14, g_refs n) ∧ (∃ lv : List Value, hp[32 + n]? = some (12, lv) ∧ lv.length = n ∧ ∀ c, c < n → lv[c]? = some (.int (if ld c = true then 1 else 0))) ∧ ∀ c, c < n → ∃ rv : List Value, hp[32 + c]? = some (10, rv) ∧ rv.length = n + 1 ∧ (ld c = true → (∀ d, d < n → rv[d]? = some (.int (nI (r c d)))) ∧ rv[n]? = some (.int (nI (rb c))))
def g_W (n : Nat) (hp : px_H) (x : Nat → Nat) (xb : Nat) : Prop := ∃ wv : List Value, hp[33 + n]? = some (10, wv) ∧ wv.length = n + 1 ∧ (∀ d, d < n → wv[d]? = some (.int (nI (x d)))) ∧ wv[n]? = some (.int (nI xb))
theorem g_H_c {n m : Nat} {hp : px_H} {ld : Nat → Bool} {r r' : Nat → Nat → Nat} {rb rb' : Nat → Nat} (h : ∀ c, c < n → ld c = true → (∀ d, d < n → r c d = r' c d) ∧ rb c = rb' c) (g : g_H n m hp ld r rb) : g_H n m hp ld r' rb' := by
  obtain ⟨a1, a2, a3, a4⟩ := g
  refine ⟨a1, a2, a3, fun c hc => ?_⟩
  obtain ⟨rv, b1, b2, b3⟩ := a4 c hc
  refine ⟨rv, b1, b2, fun hl => ⟨fun d hd => ?_, ?_⟩⟩
  · rw [← (h c hc hl).1 d hd]
    exact (b3 hl).1 d hd
  · rw [← (h c hc hl).2]
    exact (b3 hl).2
/-- a change of one row -/
theorem g_H_r {n m c0 : Nat} {hp hp' : px_H} {ld : Nat → Bool} {r r' : Nat → Nat → Nat} {rb rb' : Nat → Nat} {rv : List Value} (hc0 : c0 < n) (sm : ∀ a, a ≠ 32 + c0 → hp'[a]? = hp[a]?) (h1 : hp'[32 + c0]? = some (10, rv)) (h2 : rv.length = n + 1) (h3 : (∀ d, d < n → rv[d]? = some (.int (nI (r' c0 d)))) ∧ rv[n]? = some (.int (nI (rb' c0)))) (he : ∀ c, c < n → c ≠ c0 → ld c = true → (∀ d, d < n → r c d = r' c d) ∧ rb c = rb' c) (g : g_H n m hp ld r rb) : g_H n m hp' ld r' rb' := by
  obtain ⟨a1, a2, ⟨lv, a3, a5⟩, a4⟩ := g
  refine ⟨(sm _ (by omega)).trans a1, (sm _ (by omega)).trans a2, ⟨lv, (sm _ (by omega)).trans a3, a5⟩, fun c hc => ?_⟩
  by_cases e : c = c0
  · subst e
    exact ⟨rv, h1, h2, fun _ => h3⟩
  · obtain ⟨rv2, b1, b2, b3⟩ := a4 c hc
    refine ⟨rv2, (sm _ (by omega)).trans b1, b2, fun hl => ⟨fun d hd => ?_, ?_⟩⟩
    · rw [← (he c hc e hl).1 d hd]
      exact (b3 hl).1 d hd
    · rw [← (he c hc e hl).2]
      exact (b3 hl).2
set_option maxRecDepth 20000 in
theorem c_kwf {d0 n m L k : Nat} {y : Nat → Nat} {wv : List Value} {hp0 : px_H} {Q : px_O → px_H → Prop} (m14 : 2 ≤ m ∧ m < 14) (n36 : n ≤ 36) (hL : L < n) (km : k < m) (ym : ∀ d, d ≤ n → y d < m) (hy : ∀ d, d ≤ n → wv[d]? = some (.int (nI (y d)))) (K : ∀ (hp : px_H) (rv : List Value), hp[32 + L]? = some (10, rv) → rv.length = n + 1 → (∀ d, d ≤ n → rv[d]? = some (.int (nI (y d * k % m)))) → (∀ a, a ≠ 32 + L → hp[a]? = hp0[a]?) → px_Gx d0 16 (54, [(3, .int (nI k)), (2, .ref (32 + L)), (0, .ref 30), (1, .int (nI L))], [], hp) Q) : ∀ q c, c + q = n + 1 → ∀ (hp : px_H) (h30 : hp[(30 : Nat)]? = some (0, [.int (nI n), .ref 31, .ref (32 + n), .ref (33 + n), .int (nI m)])) (rv : List Value) (hr : hp[32 + L]? = some (10, rv)) (hw : hp[33 + n]? = some (10, wv)) (lr : rv.length = n + 1) (f1 : ∀ d, d < c → rv[d]? = some (.int (nI (y d * k % m)))) (sm : ∀ a, a ≠ 32 + L → hp[a]? = hp0[a]?), px_Gx d0 16 (21, [(4, .int (nI c)), (3, .int (nI k)), (2, .ref (32 + L)), (0, .ref 30), (1, .int (nI L))], [], hp) Q := by
  intro q
  induction q with
  | zero =>
    intro c h hp h30 rv hr hw lr f1 sm
    refine px_gx (fun _ K9 => px_a 2 (f' := (24, [(4, .int (nI c)), (3, .int (nI k)), (2, .ref (32 + L)), (0, .ref 30), (1, .int (nI L))], [.ref 30, .int (nI c)], hp)) rfl K9) ?_
    refine px_gx (fun _ K9 => px_gf 30 7 0 0 (.int (nI n)) rfl rfl h30 rfl K9) ?_
    show px_Gx _ _ (27, [(4, .int (nI c)), (3, .int (nI k)), (2, .ref (32 + L)), (0, .ref 30), (1, .int (nI L))], [.int (nI n), .int (nI c)], hp) _
    refine px_gx (fun _ K9 => px_b2 true 54 rfl rfl (decide_eq_true (show nI n < nI c by rw [Int32.lt_iff_toInt_lt, nI_toInt (by omega), nI_toInt (by omega)]; omega)) K9) ?_
    show px_Gx _ _ (54, [(4, .int (nI c)), (3, .int (nI k)), (2, .ref (32 + L)), (0, .ref 30), (1, .int (nI L))], [], hp) _
    exact px_wk [(3, .int (nI k)), (2, .ref (32 + L)), (0, .ref 30), (1, .int (nI L))] ⟨rfl, rfl, rfl, rfl, trivial⟩ (K hp rv hr lr (fun d hd => f1 d (by omega)) sm)
  | succ q ih =>
    intro c h hp h30 rv hr hw lr f1 sm
    have y1 := ym c (by omega)
    have k1 := g_ml (a := y c) (b := k) (by omega) (by omega)
    refine px_gx (fun _ K9 => px_a 2 (f' := (24, [(4, .int (nI c)), (3, .int (nI k)), (2, .ref (32 + L)), (0, .ref 30), (1, .int (nI L))], [.ref 30, .int (nI c)], hp)) rfl K9) ?_
    refine px_gx (fun _ K9 => px_gf 30 7 0 0 (.int (nI n)) rfl rfl h30 rfl K9) ?_
    show px_Gx _ _ (27, [(4, .int (nI c)), (3, .int (nI k)), (2, .ref (32 + L)), (0, .ref 30), (1, .int (nI L))], [.int (nI n), .int (nI c)], hp) _
    refine px_gx (fun _ K9 => px_b2 false 54 rfl rfl (decide_eq_false (show ¬ nI n < nI c by rw [Int32.lt_iff_toInt_lt, nI_toInt (by omega), nI_toInt (by omega)]; omega)) K9) ?_
    show px_Gx _ _ (30, [(4, .int (nI c)), (3, .int (nI k)), (2, .ref (32 + L)), (0, .ref 30), (1, .int (nI L))], [], hp) _
    refine px_gx (fun _ K9 => px_a 3 (f' := (34, [(4, .int (nI c)), (3, .int (nI k)), (2, .ref (32 + L)), (0, .ref 30), (1, .int (nI L))], [.ref 30, .int (nI c), .ref (32 + L)], hp)) rfl K9) ?_
    refine px_gx (fun _ K9 => px_gf 30 22 0 3 (.ref (33 + n)) rfl rfl h30 rfl K9) ?_
    show px_Gx _ _ (37, [(4, .int (nI c)), (3, .int (nI k)), (2, .ref (32 + L)), (0, .ref 30), (1, .int (nI L))], [.ref (33 + n), .int (nI c), .ref (32 + L)], hp) _
    refine px_gx (fun _ K9 => px_a 1 (f' := (39, [(4, .int (nI c)), (3, .int (nI k)), (2, .ref (32 + L)), (0, .ref 30), (1, .int (nI L))], [.int (nI c), .ref (33 + n), .int (nI c), .ref (32 + L)], hp)) rfl K9) ?_
    refine px_gx (fun _ K9 => px_al (33 + n) (.int (nI (y c))) rfl hw (Or.inl ⟨rfl, Or.inl rfl⟩) (nI_pos (by omega)) (by rw [nI_clamp (by omega)]; exact hy c (by omega)) K9) ?_
    show px_Gx _ _ (40, [(4, .int (nI c)), (3, .int (nI k)), (2, .ref (32 + L)), (0, .ref 30), (1, .int (nI L))], [.int (nI (y c)), .int (nI c), .ref (32 + L)], hp) _
    refine px_gx (fun _ K9 => px_a 3 (f' := (43, [(4, .int (nI c)), (3, .int (nI k)), (2, .ref (32 + L)), (0, .ref 30), (1, .int (nI L))], [.ref 30, .int ((nI (y c)) * (nI k)), .int (nI c), .ref (32 + L)], hp)) rfl K9) ?_
    refine px_gx (fun _ K9 => px_gf 30 26 0 4 (.int (nI m)) rfl rfl h30 rfl K9) ?_
    show px_Gx _ _ (46, [(4, .int (nI c)), (3, .int (nI k)), (2, .ref (32 + L)), (0, .ref 30), (1, .int (nI L))], [.int (nI m), .int ((nI (y c)) * (nI k)), .int (nI c), .ref (32 + L)], hp) _
    refine px_gx (fun _ K9 => px_irem rfl (g_n0 (by omega) (by omega)) K9) ?_
    have ev : (((nI (y c)) * (nI k)) - ((nI (y c)) * (nI k)) / (nI m) * (nI m)) = (nI (y c * k % m)) := by rw [pk_mul, g_mr (by omega) (by omega) (by omega)]
    show px_Gx _ _ (47, [(4, .int (nI c)), (3, .int (nI k)), (2, .ref (32 + L)), (0, .ref 30), (1, .int (nI L))], [.int (((nI (y c)) * (nI k)) - ((nI (y c)) * (nI k)) / (nI m) * (nI m)), .int (nI c), .ref (32 + L)], hp) _
    rw [ev]
    show px_Gx _ _ (47, [(4, .int (nI c)), (3, .int (nI k)), (2, .ref (32 + L)), (0, .ref 30), (1, .int (nI L))], [.int (nI (y c * k % m)), .int (nI c), .ref (32 + L)], hp) _
    refine px_gx (fun _ K9 => px_ias (32 + L) rfl hr (by omega) (nI_pos (by omega)) (by rw [nI_clamp (by omega)]; omega) K9) ?_
    have hf1_30 : (hp.set (32 + L) (10, (rv.set (nI c).toNatClampNeg (.int (nI (y c * k % m))))))[(30 : Nat)]? = some (0, [.int (nI n), .ref 31, .ref (32 + n), .ref (33 + n), .int (nI m)]) := px_ne h30 (by omega)
    have hf1__32___L_ : (hp.set (32 + L) (10, (rv.set (nI c).toNatClampNeg (.int (nI (y c * k % m))))))[(32 + L)]? = some (10, (rv.set (nI c).toNatClampNeg (.int (nI (y c * k % m))))) := px_self hr
    have hf1__33___n_ : (hp.set (32 + L) (10, (rv.set (nI c).toNatClampNeg (.int (nI (y c * k % m))))))[(33 + n)]? = some (10, wv) := px_ne hw (by omega)
    show px_Gx _ _ (48, [(4, .int (nI c)), (3, .int (nI k)), (2, .ref (32 + L)), (0, .ref 30), (1, .int (nI L))], [], (hp.set (32 + L) (10, (rv.set (nI c).toNatClampNeg (.int (nI (y c * k % m))))))) _
    refine px_gx (fun _ K9 => px_a 2 (f' := (21, [(4, .int ((nI c) + 1)), (3, .int (nI k)), (2, .ref (32 + L)), (0, .ref 30), (1, .int (nI L))], [], (hp.set (32 + L) (10, (rv.set (nI c).toNatClampNeg (.int (nI (y c * k % m)))))))) rfl K9) ?_
    rw [p_s16 c (by omega)]
    exact ih (c + 1) (by omega) _ hf1_30 _ hf1__32___L_ hf1__33___n_ (by rw [List.length_set]; exact lr) (fun d hd => by
      rw [nI_clamp (by omega)]
      by_cases e : d = c
      · subst e
        exact List.getElem?_set_self (by omega)
      · rw [List.getElem?_set_ne (by omega)]
        exact f1 d (by omega)) (fun a ha => (List.getElem?_set_ne (Ne.symm ha)).trans (sm a ha))
def g_rc (m L k : Nat) (x : Nat → Nat) (r : Nat → Nat → Nat) (c c' d : Nat) : Nat := if c' < c ∨ c' = L then g_r m L k x r c' d else r c' d
def g_rcb (m L k xb : Nat) (r : Nat → Nat → Nat) (rb : Nat → Nat) (c c' : Nat) : Nat := if c' < c ∨ c' = L then g_rb m L k xb r rb c' else rb c'
theorem g_rc_p {m L k c c' d : Nat} {x : Nat → Nat} {r : Nat → Nat → Nat} (h : c' < c ∨ c' = L) : g_rc m L k x r c c' d = g_r m L k x r c' d := if_pos h
theorem g_rc_n {m L k c c' d : Nat} {x : Nat → Nat} {r : Nat → Nat → Nat} (h : ¬ (c' < c ∨ c' = L)) : g_rc m L k x r c c' d = r c' d := if_neg h
theorem g_rcb_p {m L k xb c c' : Nat} {r : Nat → Nat → Nat} {rb : Nat → Nat} (h : c' < c ∨ c' = L) : g_rcb m L k xb r rb c c' = g_rb m L k xb r rb c' := if_pos h
theorem g_rcb_n {m L k xb c c' : Nat} {r : Nat → Nat → Nat} {rb : Nat → Nat} (h : ¬ (c' < c ∨ c' = L)) : g_rcb m L k xb r rb c c' = rb c' := if_neg h
theorem g_rc_s {m L k c c' d : Nat} {x : Nat → Nat} {r : Nat → Nat → Nat} (h : c' ≠ c) : g_rc m L k x r c c' d = g_rc m L k x r (c + 1) c' d := by
  by_cases e : c' < c ∨ c' = L
  · rw [g_rc_p e, g_rc_p (by omega)]
  · rw [g_rc_n e, g_rc_n (by omega)]
theorem g_rcb_s {m L k xb c c' : Nat} {r : Nat → Nat → Nat} {rb : Nat → Nat} (h : c' ≠ c) : g_rcb m L k xb r rb c c' = g_rcb m L k xb r rb (c + 1) c' := by
  by_cases e : c' < c ∨ c' = L
  · rw [g_rcb_p e, g_rcb_p (by omega)]
  · rw [g_rcb_n e, g_rcb_n (by omega)]
set_option maxRecDepth 20000 in
theorem c_kwo {d0 n m L k xb : Nat} {ld : Nat → Bool} {x : Nat → Nat} {r : Nat → Nat → Nat} {rb : Nat → Nat} {hp0 : px_H} (m14 : 2 ≤ m ∧ m < 14) (n36 : n ≤ 36) (hL : L < n) (G : g_R m n ld r rb) (nL : ld L = false) : ∀ q c, c + q = n → L < c → ∀ (hp : px_H), g_H n m hp (g_l ld L) (g_rc m L k x r c) (g_rcb m L k xb r rb c) → (∀ a, ¬ (32 ≤ a ∧ a < 33 + n) → hp[a]? = hp0[a]?) → px_Gx (d0 + 1) 16 (66, [(4, .int (nI c)), (0, .ref 30), (1, .int (nI L))], [], hp) (fun o hp' => o = .inl none ∧ g_H n m hp' (g_l ld L) (g_r m L k x r) (g_rb m L k xb r rb) ∧ (∀ a, ¬ (32 ≤ a ∧ a < 33 + n) → hp'[a]? = hp0[a]?)) := by
  intro q
  induction q with
  | zero =>
    intro c h hLc hp gh sm
    have gh2 := gh
    obtain ⟨h30, h31, ⟨lv, hl, ll, hlv⟩, rows⟩ := gh
    refine px_gx (fun _ K9 => px_a 2 (f' := (69, [(4, .int (nI c)), (0, .ref 30), (1, .int (nI L))], [.ref 30, .int (nI c)], hp)) rfl K9) ?_
    refine px_gx (fun _ K9 => px_gf 30 7 0 0 (.int (nI n)) rfl rfl h30 rfl K9) ?_
    show px_Gx _ _ (72, [(4, .int (nI c)), (0, .ref 30), (1, .int (nI L))], [.int (nI n), .int (nI c)], hp) _
    refine px_gx (fun _ K9 => px_b2 true 124 rfl rfl (decide_eq_true (show nI n ≤ nI c by rw [Int32.le_iff_toInt_le, nI_toInt (by omega), nI_toInt (by omega)]; omega)) K9) ?_
    show px_Gx _ _ (124, [(4, .int (nI c)), (0, .ref 30), (1, .int (nI L))], [], hp) _
    refine ⟨_, _, px_e rfl rfl, rfl, g_H_c (fun c' hc' _ => ⟨fun d _ => ?_, ?_⟩) gh2, sm⟩
    · exact g_rc_p (Or.inl (by omega))
    · exact g_rcb_p (Or.inl (by omega))
  | succ q ih =>
    intro c h hLc hp gh sm
    have gh2 := gh
    obtain ⟨h30, h31, ⟨lv, hl, ll, hlv⟩, rows⟩ := gh
    have hcn : c < n := by omega
    obtain ⟨cv, hcv, lcv, hcr⟩ := rows c hcn
    have neL : c ≠ L := by omega
    have notc : ¬ (c < c ∨ c = L) := by omega
    have oth : ∀ c', c' ≠ c → ((c' < c ∨ c' = L) ↔ (c' < c + 1 ∨ c' = L)) := fun c' hc' => by omega
    cases hlc : g_l ld L c
    · 
      refine px_gx (fun _ K9 => px_a 2 (f' := (69, [(4, .int (nI c)), (0, .ref 30), (1, .int (nI L))], [.ref 30, .int (nI c)], hp)) rfl K9) ?_
      refine px_gx (fun _ K9 => px_gf 30 7 0 0 (.int (nI n)) rfl rfl h30 rfl K9) ?_
      show px_Gx _ _ (72, [(4, .int (nI c)), (0, .ref 30), (1, .int (nI L))], [.int (nI n), .int (nI c)], hp) _
      refine px_gx (fun _ K9 => px_b2 false 124 rfl rfl (decide_eq_false (show ¬ nI n ≤ nI c by rw [Int32.le_iff_toInt_le, nI_toInt (by omega), nI_toInt (by omega)]; omega)) K9) ?_
      show px_Gx _ _ (75, [(4, .int (nI c)), (0, .ref 30), (1, .int (nI L))], [], hp) _
      refine px_gx (fun _ K9 => px_a 1 (f' := (76, [(4, .int (nI c)), (0, .ref 30), (1, .int (nI L))], [.ref 30], hp)) rfl K9) ?_
      refine px_gx (fun _ K9 => px_gf 30 18 0 2 (.ref (32 + n)) rfl rfl h30 rfl K9) ?_
      show px_Gx _ _ (79, [(4, .int (nI c)), (0, .ref 30), (1, .int (nI L))], [.ref (32 + n)], hp) _
      refine px_gx (fun _ K9 => px_a 1 (f' := (81, [(4, .int (nI c)), (0, .ref 30), (1, .int (nI L))], [.int (nI c), .ref (32 + n)], hp)) rfl K9) ?_
      refine px_gx (fun _ K9 => px_al (32 + n) (.int 0) rfl hl (Or.inr (Or.inr (Or.inl ⟨rfl, rfl⟩))) (nI_pos (by omega)) (by rw [nI_clamp (by omega), hlv c (by omega), hlc]; rfl) K9) ?_
      show px_Gx _ _ (82, [(4, .int (nI c)), (0, .ref 30), (1, .int (nI L))], [.int 0], hp) _
      refine px_gx (fun _ K9 => px_a 3 (f' := (66, [(4, .int ((nI c) + 1)), (0, .ref 30), (1, .int (nI L))], [], hp)) rfl K9) ?_
      rw [p_s16 c (by omega)]
      refine ih (c + 1) (by omega) (by omega) hp (g_H_c (fun c' hc' hl' => ?_) gh2) sm
      have e : c' ≠ c := fun z => by
        rw [z, hlc] at hl'
        cases hl'
      exact ⟨fun d _ => g_rc_s e, g_rcb_s e⟩
    · have ldc : ld c = true := by
        unfold g_l at hlc
        rw [decide_eq_false neL, Bool.or_false] at hlc
        exact hlc
      obtain ⟨G1, G2, G3, G4, G5⟩ := G c hcn ldc
      have cL := G4 L hL
      obtain ⟨hcd0, hcb0⟩ := hcr hlc
      have hcd : ∀ d, d < n → cv[d]? = some (.int (nI (r c d))) := fun d hd => by
        have := hcd0 d hd
        rw [g_rc_n notc] at this
        exact this
      have hcb : cv[n]? = some (.int (nI (rb c))) := by
        rw [g_rcb_n notc] at hcb0
        exact hcb0
      by_cases hz : r c L = 0
      · 
        refine px_gx (fun _ K9 => px_a 2 (f' := (69, [(4, .int (nI c)), (0, .ref 30), (1, .int (nI L))], [.ref 30, .int (nI c)], hp)) rfl K9) ?_
        refine px_gx (fun _ K9 => px_gf 30 7 0 0 (.int (nI n)) rfl rfl h30 rfl K9) ?_
        show px_Gx _ _ (72, [(4, .int (nI c)), (0, .ref 30), (1, .int (nI L))], [.int (nI n), .int (nI c)], hp) _
        refine px_gx (fun _ K9 => px_b2 false 124 rfl rfl (decide_eq_false (show ¬ nI n ≤ nI c by rw [Int32.le_iff_toInt_le, nI_toInt (by omega), nI_toInt (by omega)]; omega)) K9) ?_
        show px_Gx _ _ (75, [(4, .int (nI c)), (0, .ref 30), (1, .int (nI L))], [], hp) _
        refine px_gx (fun _ K9 => px_a 1 (f' := (76, [(4, .int (nI c)), (0, .ref 30), (1, .int (nI L))], [.ref 30], hp)) rfl K9) ?_
        refine px_gx (fun _ K9 => px_gf 30 18 0 2 (.ref (32 + n)) rfl rfl h30 rfl K9) ?_
        show px_Gx _ _ (79, [(4, .int (nI c)), (0, .ref 30), (1, .int (nI L))], [.ref (32 + n)], hp) _
        refine px_gx (fun _ K9 => px_a 1 (f' := (81, [(4, .int (nI c)), (0, .ref 30), (1, .int (nI L))], [.int (nI c), .ref (32 + n)], hp)) rfl K9) ?_
        refine px_gx (fun _ K9 => px_al (32 + n) (.int 1) rfl hl (Or.inr (Or.inr (Or.inl ⟨rfl, rfl⟩))) (nI_pos (by omega)) (by rw [nI_clamp (by omega), hlv c (by omega), hlc]; rfl) K9) ?_
        show px_Gx _ _ (82, [(4, .int (nI c)), (0, .ref 30), (1, .int (nI L))], [.int 1], hp) _
        refine px_gx (fun _ K9 => px_a 2 (f' := (86, [(4, .int (nI c)), (0, .ref 30), (1, .int (nI L))], [.ref 30], hp)) rfl K9) ?_
        refine px_gx (fun _ K9 => px_gf 30 15 0 1 (.ref 31) rfl rfl h30 rfl K9) ?_
        show px_Gx _ _ (89, [(4, .int (nI c)), (0, .ref 30), (1, .int (nI L))], [.ref 31], hp) _
        refine px_gx (fun _ K9 => px_a 1 (f' := (91, [(4, .int (nI c)), (0, .ref 30), (1, .int (nI L))], [.int (nI c), .ref 31], hp)) rfl K9) ?_
        refine px_gx (fun _ K9 => px_al 31 (.ref (32 + c)) rfl h31 (Or.inr (Or.inr (Or.inr ⟨rfl, Or.inr rfl⟩))) (nI_pos (by omega)) (by rw [nI_clamp (by omega)]; exact g_refs_e (by omega)) K9) ?_
        show px_Gx _ _ (92, [(4, .int (nI c)), (0, .ref 30), (1, .int (nI L))], [.ref (32 + c)], hp) _
        refine px_gx (fun _ K9 => px_a 1 (f' := (93, [(4, .int (nI c)), (0, .ref 30), (1, .int (nI L))], [.int (nI L), .ref (32 + c)], hp)) rfl K9) ?_
        refine px_gx (fun _ K9 => px_al (32 + c) (.int (nI (r c L))) rfl hcv (Or.inl ⟨rfl, Or.inl rfl⟩) (nI_pos (by omega)) (by rw [nI_clamp (by omega)]; exact hcd L hL) K9) ?_
        show px_Gx _ _ (94, [(4, .int (nI c)), (0, .ref 30), (1, .int (nI L))], [.int (nI (r c L))], hp) _
        refine px_gx (fun _ K9 => px_b1 true 118 rfl rfl (decide_eq_true (by rw [hz]; rfl)) K9) ?_
        show px_Gx _ _ (118, [(4, .int (nI c)), (0, .ref 30), (1, .int (nI L))], [], hp) _
        refine px_gx (fun _ K9 => px_a 2 (f' := (66, [(4, .int ((nI c) + 1)), (0, .ref 30), (1, .int (nI L))], [], hp)) rfl K9) ?_
        rw [p_s16 c (by omega)]
        refine ih (c + 1) (by omega) (by omega) hp (g_H_c (fun c' hc' hl' => ?_) gh2) sm
        by_cases e : c' = c
        · subst e
          refine ⟨fun d hd => ?_, ?_⟩
          · rw [g_rc_n notc, g_rc_p (Or.inl (by omega))]
            unfold g_r
            rw [if_neg neL, hz, g_x_n (G4 d hd)]
          · rw [g_rcb_n notc, g_rcb_p (Or.inl (by omega))]
            unfold g_rb
            rw [if_neg neL, hz, g_b_n G5]
        · exact ⟨fun d _ => g_rc_s e, g_rcb_s e⟩
      · obtain ⟨rv, hr, lr, hrr⟩ := rows L hL
        have lL : g_l ld L L = true := by unfold g_l; rw [decide_eq_true rfl, Bool.or_true]
        obtain ⟨hr1, hrb⟩ := hrr lL
        have posL : L < c ∨ L = L := Or.inr rfl
        obtain ⟨o, hp1, g, e, fv, b1, b2, b3, b4, b5⟩ := c_sub (d0 := d0) (t := r c L) (x := r c) (xb := rb c) (r := g_n m k x) (rb := xb * k % m) (fa := 32 + c) m14 n36 hL (Nat.le_of_lt cL) (by omega) (by omega) G4 (fun d _ => Nat.mod_lt _ (by omega)) G5 (Nat.mod_lt _ (by omega)) lr (fun d hd => by
          have := hr1 d hd
          rw [g_rc_p posL] at this
          unfold g_r at this
          rw [if_pos rfl] at this
          exact this) (by
          rw [g_rcb_p posL] at hrb
          unfold g_rb at hrb
          rw [if_pos rfl] at hrb
          exact hrb) h30 h31 hr hcv lcv hcd hcb
        subst e
        refine px_gx (fun _ K9 => px_a 2 (f' := (69, [(4, .int (nI c)), (0, .ref 30), (1, .int (nI L))], [.ref 30, .int (nI c)], hp)) rfl K9) ?_
        refine px_gx (fun _ K9 => px_gf 30 7 0 0 (.int (nI n)) rfl rfl h30 rfl K9) ?_
        show px_Gx _ _ (72, [(4, .int (nI c)), (0, .ref 30), (1, .int (nI L))], [.int (nI n), .int (nI c)], hp) _
        refine px_gx (fun _ K9 => px_b2 false 124 rfl rfl (decide_eq_false (show ¬ nI n ≤ nI c by rw [Int32.le_iff_toInt_le, nI_toInt (by omega), nI_toInt (by omega)]; omega)) K9) ?_
        show px_Gx _ _ (75, [(4, .int (nI c)), (0, .ref 30), (1, .int (nI L))], [], hp) _
        refine px_gx (fun _ K9 => px_a 1 (f' := (76, [(4, .int (nI c)), (0, .ref 30), (1, .int (nI L))], [.ref 30], hp)) rfl K9) ?_
        refine px_gx (fun _ K9 => px_gf 30 18 0 2 (.ref (32 + n)) rfl rfl h30 rfl K9) ?_
        show px_Gx _ _ (79, [(4, .int (nI c)), (0, .ref 30), (1, .int (nI L))], [.ref (32 + n)], hp) _
        refine px_gx (fun _ K9 => px_a 1 (f' := (81, [(4, .int (nI c)), (0, .ref 30), (1, .int (nI L))], [.int (nI c), .ref (32 + n)], hp)) rfl K9) ?_
        refine px_gx (fun _ K9 => px_al (32 + n) (.int 1) rfl hl (Or.inr (Or.inr (Or.inl ⟨rfl, rfl⟩))) (nI_pos (by omega)) (by rw [nI_clamp (by omega), hlv c (by omega), hlc]; rfl) K9) ?_
        show px_Gx _ _ (82, [(4, .int (nI c)), (0, .ref 30), (1, .int (nI L))], [.int 1], hp) _
        refine px_gx (fun _ K9 => px_a 2 (f' := (86, [(4, .int (nI c)), (0, .ref 30), (1, .int (nI L))], [.ref 30], hp)) rfl K9) ?_
        refine px_gx (fun _ K9 => px_gf 30 15 0 1 (.ref 31) rfl rfl h30 rfl K9) ?_
        show px_Gx _ _ (89, [(4, .int (nI c)), (0, .ref 30), (1, .int (nI L))], [.ref 31], hp) _
        refine px_gx (fun _ K9 => px_a 1 (f' := (91, [(4, .int (nI c)), (0, .ref 30), (1, .int (nI L))], [.int (nI c), .ref 31], hp)) rfl K9) ?_
        refine px_gx (fun _ K9 => px_al 31 (.ref (32 + c)) rfl h31 (Or.inr (Or.inr (Or.inr ⟨rfl, Or.inr rfl⟩))) (nI_pos (by omega)) (by rw [nI_clamp (by omega)]; exact g_refs_e (by omega)) K9) ?_
        show px_Gx _ _ (92, [(4, .int (nI c)), (0, .ref 30), (1, .int (nI L))], [.ref (32 + c)], hp) _
        refine px_gx (fun _ K9 => px_a 1 (f' := (93, [(4, .int (nI c)), (0, .ref 30), (1, .int (nI L))], [.int (nI L), .ref (32 + c)], hp)) rfl K9) ?_
        refine px_gx (fun _ K9 => px_al (32 + c) (.int (nI (r c L))) rfl hcv (Or.inl ⟨rfl, Or.inl rfl⟩) (nI_pos (by omega)) (by rw [nI_clamp (by omega)]; exact hcd L hL) K9) ?_
        show px_Gx _ _ (94, [(4, .int (nI c)), (0, .ref 30), (1, .int (nI L))], [.int (nI (r c L))], hp) _
        refine px_gx (fun _ K9 => px_b1 false 118 rfl rfl (decide_eq_false (fun z => hz ((nI_eq (a := r c L) (b := 0) (by omega) (by decide)).mp z))) K9) ?_
        show px_Gx _ _ (97, [(4, .int (nI c)), (0, .ref 30), (1, .int (nI L))], [], hp) _
        refine px_gx (fun _ K9 => px_a 3 (f' := (100, [(4, .int (nI c)), (0, .ref 30), (1, .int (nI L))], [.ref 30, .int (nI L), .ref 30], hp)) rfl K9) ?_
        refine px_gx (fun _ K9 => px_gf 30 15 0 1 (.ref 31) rfl rfl h30 rfl K9) ?_
        show px_Gx _ _ (103, [(4, .int (nI c)), (0, .ref 30), (1, .int (nI L))], [.ref 31, .int (nI L), .ref 30], hp) _
        refine px_gx (fun _ K9 => px_a 1 (f' := (105, [(4, .int (nI c)), (0, .ref 30), (1, .int (nI L))], [.int (nI c), .ref 31, .int (nI L), .ref 30], hp)) rfl K9) ?_
        refine px_gx (fun _ K9 => px_al 31 (.ref (32 + c)) rfl h31 (Or.inr (Or.inr (Or.inr ⟨rfl, Or.inr rfl⟩))) (nI_pos (by omega)) (by rw [nI_clamp (by omega)]; exact g_refs_e (by omega)) K9) ?_
        show px_Gx _ _ (106, [(4, .int (nI c)), (0, .ref 30), (1, .int (nI L))], [.ref (32 + c), .int (nI L), .ref 30], hp) _
        refine px_gx (fun _ K9 => px_a 1 (f' := (107, [(4, .int (nI c)), (0, .ref 30), (1, .int (nI L))], [.int (nI L), .ref (32 + c), .int (nI L), .ref 30], hp)) rfl K9) ?_
        refine px_gx (fun _ K9 => px_al (32 + c) (.int (nI (r c L))) rfl hcv (Or.inl ⟨rfl, Or.inl rfl⟩) (nI_pos (by omega)) (by rw [nI_clamp (by omega)]; exact hcd L hL) K9) ?_
        show px_Gx _ _ (108, [(4, .int (nI c)), (0, .ref 30), (1, .int (nI L))], [.int (nI (r c L)), .int (nI L), .ref 30], hp) _
        refine px_gx (fun _ K9 => px_a 1 (f' := (109, [(4, .int (nI c)), (0, .ref 30), (1, .int (nI L))], [.ref 30, .int (nI (r c L)), .int (nI L), .ref 30], hp)) rfl K9) ?_
        refine px_gx (fun _ K9 => px_gf 30 15 0 1 (.ref 31) rfl rfl h30 rfl K9) ?_
        show px_Gx _ _ (112, [(4, .int (nI c)), (0, .ref 30), (1, .int (nI L))], [.ref 31, .int (nI (r c L)), .int (nI L), .ref 30], hp) _
        refine px_gx (fun _ K9 => px_a 1 (f' := (114, [(4, .int (nI c)), (0, .ref 30), (1, .int (nI L))], [.int (nI c), .ref 31, .int (nI (r c L)), .int (nI L), .ref 30], hp)) rfl K9) ?_
        refine px_gx (fun _ K9 => px_al 31 (.ref (32 + c)) rfl h31 (Or.inr (Or.inr (Or.inr ⟨rfl, Or.inr rfl⟩))) (nI_pos (by omega)) (by rw [nI_clamp (by omega)]; exact g_refs_e (by omega)) K9) ?_
        show px_Gx _ _ (115, [(4, .int (nI c)), (0, .ref 30), (1, .int (nI L))], [.ref (32 + c), .int (nI (r c L)), .int (nI L), .ref 30], hp) _
        refine px_gx (fun _ K9 => px_cv 30 (as := [.int (nI L), .int (nI (r c L)), .ref (32 + c)]) (rest := []) rfl rfl h30 rfl rfl rfl rfl (Nat.le_of_ble_eq_true rfl) (g) K9) ?_
        show px_Gx _ _ (118, [(4, .int (nI c)), (0, .ref 30), (1, .int (nI L))], [], hp1) _
        refine px_gx (fun _ K9 => px_a 2 (f' := (66, [(4, .int ((nI c) + 1)), (0, .ref 30), (1, .int (nI L))], [], hp1)) rfl K9) ?_
        rw [p_s16 c (by omega)]
        refine ih (c + 1) (by omega) (by omega) hp1 (g_H_r hcn b5 b1 b2 ⟨fun d hd => ?_, ?_⟩ (fun c' hc' e _ => ⟨fun d _ => g_rc_s e, g_rcb_s e⟩) gh2) (fun a ha => (b5 a (by omega)).trans (sm a ha))
        · rw [g_rc_p (Or.inl (by omega)), b3 d hd]
          unfold g_r
          rw [if_neg neL]
          rfl
        · rw [g_rcb_p (Or.inl (by omega)), b4]
          unfold g_rb
          rw [if_neg neL]
set_option maxRecDepth 20000 in
theorem c_kwX {d0 n m L xb : Nat} {ld : Nat → Bool} {x : Nat → Nat} {r : Nat → Nat → Nat} {rb : Nat → Nat} {hp : px_H} (pm : m = 2 ∨ m = 3 ∨ m = 5 ∨ m = 7 ∨ m = 11 ∨ m = 13) (n36 : n ≤ 36) (hL : L < n) (G : g_R m n ld r rb) (nL : ld L = false) (xm : ∀ d, d < n → x d < m) (xbm : xb < m) (xL : x L ≠ 0) (gh : g_H n m hp ld r rb) (gw : g_W n hp x xb) : px_Gx (d0 + 1) 16 (0, [(0, .ref 30), (1, .int (nI L))], [], hp) (fun o hp' => o = .inl none ∧ ∃ k, k * x L % m = 1 ∧ g_H n m hp' (g_l ld L) (g_r m L k x r) (g_rb m L k xb r rb) ∧ ∀ a, ¬ (32 ≤ a ∧ a < 33 + n) → hp'[a]? = hp[a]?) := by
  have m14 := g_pm pm
  have gh2 := gh
  obtain ⟨h30, h31, ⟨lv, hl, ll, hlv⟩, rows⟩ := gh
  obtain ⟨wv, hw, lw, hx, hxb⟩ := gw
  obtain ⟨rv, hr, lr, -⟩ := rows L hL
  obtain ⟨oi, hpi, gi, ei, k, km, hk, eo⟩ := c_inv (d := d0) pm (Nat.pos_of_ne_zero xL) (xm L hL) h30
  rw [ei, eo] at gi
  have hy : ∀ d, d ≤ n → wv[d]? = some (.int (nI (if d < n then x d else xb))) := fun d hd => by
    by_cases e : d < n
    · rw [if_pos e]
      exact hx d e
    · rw [if_neg e, show d = n by omega]
      exact hxb
  refine px_gx (fun _ K9 => px_a 1 (f' := (1, [(0, .ref 30), (1, .int (nI L))], [.ref 30], hp)) rfl K9) ?_
  refine px_gx (fun _ K9 => px_gf 30 15 0 1 (.ref 31) rfl rfl h30 rfl K9) ?_
  show px_Gx _ _ (4, [(0, .ref 30), (1, .int (nI L))], [.ref 31], hp) _
  refine px_gx (fun _ K9 => px_a 1 (f' := (5, [(0, .ref 30), (1, .int (nI L))], [.int (nI L), .ref 31], hp)) rfl K9) ?_
  refine px_gx (fun _ K9 => px_al 31 (.ref (32 + L)) rfl h31 (Or.inr (Or.inr (Or.inr ⟨rfl, Or.inr rfl⟩))) (nI_pos (by omega)) (by rw [nI_clamp (by omega)]; exact g_refs_e (by omega)) K9) ?_
  show px_Gx _ _ (6, [(0, .ref 30), (1, .int (nI L))], [.ref (32 + L)], hp) _
  refine px_gx (fun _ K9 => px_a 3 (f' := (9, [(2, .ref (32 + L)), (0, .ref 30), (1, .int (nI L))], [.ref 30, .ref 30], hp)) rfl K9) ?_
  refine px_gx (fun _ K9 => px_gf 30 22 0 3 (.ref (33 + n)) rfl rfl h30 rfl K9) ?_
  show px_Gx _ _ (12, [(2, .ref (32 + L)), (0, .ref 30), (1, .int (nI L))], [.ref (33 + n), .ref 30], hp) _
  refine px_gx (fun _ K9 => px_a 1 (f' := (13, [(2, .ref (32 + L)), (0, .ref 30), (1, .int (nI L))], [.int (nI L), .ref (33 + n), .ref 30], hp)) rfl K9) ?_
  refine px_gx (fun _ K9 => px_al (33 + n) (.int (nI (x L))) rfl hw (Or.inl ⟨rfl, Or.inl rfl⟩) (nI_pos (by omega)) (by rw [nI_clamp (by omega)]; exact hx L hL) K9) ?_
  show px_Gx _ _ (14, [(2, .ref (32 + L)), (0, .ref 30), (1, .int (nI L))], [.int (nI (x L)), .ref 30], hp) _
  refine px_gx (fun _ K9 => px_cv 30 (as := [.int (nI (x L))]) (rest := []) rfl rfl h30 rfl rfl rfl rfl (Nat.le_of_ble_eq_true rfl) (gi) K9) ?_
  show px_Gx _ _ (17, [(2, .ref (32 + L)), (0, .ref 30), (1, .int (nI L))], [.int (nI k)], hp) _
  refine px_gx (fun _ K9 => px_a 3 (f' := (21, [(4, .int 0), (3, .int (nI k)), (2, .ref (32 + L)), (0, .ref 30), (1, .int (nI L))], [], hp)) rfl K9) ?_
  refine px_wk [(4, .int (nI 0)), (3, .int (nI k)), (2, .ref (32 + L)), (0, .ref 30), (1, .int (nI L))] ⟨rfl, rfl, rfl, rfl, rfl, trivial⟩ ?_
  refine c_kwf (hp0 := hp) m14 n36 hL km (y := fun d => if d < n then x d else xb) (fun d hd => ?_) hy (fun hp1 rv1 hr1 lr1 f1 sm1 => ?_) (n + 1) 0 (by omega) hp h30 rv hr hw lr (fun d hd => absurd hd (Nat.not_lt_zero d)) (fun a _ => rfl)
  · show (if d < n then x d else xb) < m
    split
    · rename_i e
      exact xm d e
    · exact xbm
  · have h301 := (sm1 30 (by omega)).trans h30
    have hl1 := (sm1 (32 + n) (by omega)).trans hl
    show px_Gx _ _ (54, [(3, .int (nI k)), (2, .ref (32 + L)), (0, .ref 30), (1, .int (nI L))], [], hp1) _
    refine px_gx (fun _ K9 => px_a 1 (f' := (55, [(3, .int (nI k)), (2, .ref (32 + L)), (0, .ref 30), (1, .int (nI L))], [.ref 30], hp1)) rfl K9) ?_
    refine px_gx (fun _ K9 => px_gf 30 18 0 2 (.ref (32 + n)) rfl rfl h301 rfl K9) ?_
    show px_Gx _ _ (58, [(3, .int (nI k)), (2, .ref (32 + L)), (0, .ref 30), (1, .int (nI L))], [.ref (32 + n)], hp1) _
    refine px_gx (fun _ K9 => px_a 2 (f' := (60, [(3, .int (nI k)), (2, .ref (32 + L)), (0, .ref 30), (1, .int (nI L))], [.int 1, .int (nI L), .ref (32 + n)], hp1)) rfl K9) ?_
    refine px_gx (fun _ K9 => px_zas (32 + n) rfl hl1 (by omega) (nI_pos (by omega)) (by rw [nI_clamp (by omega)]; omega) rfl K9) ?_
    have hf1_30 : (hp1.set (32 + n) (12, (lv.set (nI L).toNatClampNeg (.int 1))))[(30 : Nat)]? = some (0, [.int (nI n), .ref 31, .ref (32 + n), .ref (33 + n), .int (nI m)]) := px_ne h301 (by omega)
    have hf1__32___n_ : (hp1.set (32 + n) (12, (lv.set (nI L).toNatClampNeg (.int 1))))[(32 + n)]? = some (12, (lv.set (nI L).toNatClampNeg (.int 1))) := px_self hl1
    show px_Gx _ _ (61, [(3, .int (nI k)), (2, .ref (32 + L)), (0, .ref 30), (1, .int (nI L))], [], (hp1.set (32 + n) (12, (lv.set (nI L).toNatClampNeg (.int 1))))) _
    refine px_gx (fun _ K9 => px_a 4 (f' := (66, [(4, .int ((nI L) + 1)), (3, .int (nI k)), (2, .ref (32 + L)), (0, .ref 30), (1, .int (nI L))], [], (hp1.set (32 + n) (12, (lv.set (nI L).toNatClampNeg (.int 1)))))) rfl K9) ?_
    rw [p_s16 L (by omega)]
    refine px_wk [(4, .int (nI (L + 1))), (0, .ref 30), (1, .int (nI L))] ⟨rfl, rfl, rfl, trivial⟩ ?_
    have gh4 : g_H n m (hp1.set (32 + n) (12, (lv.set (nI L).toNatClampNeg (.int 1)))) (g_l ld L) (g_rc m L k x r (L + 1)) (g_rcb m L k xb r rb (L + 1)) := by
      refine ⟨px_ne h301 (by omega), px_ne ((sm1 31 (by omega)).trans h31) (by omega), ⟨_, px_self hl1, by rw [List.length_set]; exact ll, fun c hc => ?_⟩, fun c hc => ?_⟩
      · rw [nI_clamp (by omega)]
        by_cases e : c = L
        · subst e
          rw [List.getElem?_set_self (by omega)]
          unfold g_l
          rw [decide_eq_true rfl, Bool.or_true, if_pos rfl]
        · rw [List.getElem?_set_ne (by omega), hlv c hc]
          unfold g_l
          rw [decide_eq_false e, Bool.or_false]
      · by_cases e : c = L
        · subst e
          refine ⟨rv1, px_ne hr1 (by omega), lr1, fun _ => ⟨fun d hd => ?_, ?_⟩⟩
          · rw [g_rc_p (Or.inr rfl), f1 d (by omega)]
            unfold g_r
            rw [if_pos rfl]
            show some (Value.int (nI ((if d < n then x d else xb) * k % m))) = _
            rw [if_pos hd]
            rfl
          · rw [g_rcb_p (Or.inr rfl), f1 n (Nat.le_refl n)]
            unfold g_rb
            rw [if_pos rfl]
            show some (Value.int (nI ((if n < n then x n else xb) * k % m))) = _
            rw [if_neg (Nat.lt_irrefl n)]
        · obtain ⟨rv2, b1, b2, b3⟩ := rows c hc
          refine ⟨rv2, px_ne ((sm1 (32 + c) (by omega)).trans b1) (by omega), b2, fun hlc => ?_⟩
          have ldc : ld c = true := by
            unfold g_l at hlc
            rw [decide_eq_false e, Bool.or_false] at hlc
            exact hlc
          obtain ⟨c1, c2⟩ := b3 ldc
          obtain ⟨G1, G2, G3, G4, G5⟩ := G c hc ldc
          by_cases e2 : c < L + 1 ∨ c = L
          · have z : r c L = 0 := G2 L (by omega) hL
            refine ⟨fun d hd => ?_, ?_⟩
            · rw [g_rc_p e2, c1 d hd]
              unfold g_r
              rw [if_neg e, z, g_x_n (G4 d hd)]
            · rw [g_rcb_p e2, c2]
              unfold g_rb
              rw [if_neg e, z, g_b_n G5]
          · refine ⟨fun d hd => ?_, ?_⟩
            · rw [g_rc_n e2]
              exact c1 d hd
            · rw [g_rcb_n e2]
              exact c2
    obtain ⟨o2, hp2, g2, e2, gh3, sm3⟩ := c_kwo (d0 := d0) (hp0 := hp) (k := k) (x := x) (xb := xb) m14 n36 hL G nL (n - (L + 1)) (L + 1) (by omega) (by omega) _ gh4 (fun a ha => by rw [List.getElem?_set_ne (by omega)]; exact sm1 a (by omega))
    exact ⟨o2, hp2, g2, e2, k, hk, gh3, sm3⟩
