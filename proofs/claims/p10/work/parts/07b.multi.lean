theorem px_fin_eq : ∀ (ci k : Nat), px_fin ci k = (px_T ci k).2.2.2
  | 0, _ => rfl
  | 1, _ => rfl
  | 2, _ => rfl
  | 3, _ => rfl
  | _ + 4, _ => rfl
theorem px_asg (vm : Vm) (c : ClassId) : vm.assignable c c = true := by
  show vm.assignableAux (255 + 1) c c = true
  rw [Vm.assignableAux]
  simp only [beq_self_eq_true, Bool.true_or]
theorem px_AOA {t : FieldType} {A A' : Array Value} {u U : State} (hvm : u.vm.Alike U.vm) (h : (Cond.arrayOver (.array t)).before A u = true) : (Cond.arrayOver (.array t)).before A' U = true := by
  obtain ⟨comp, c, k, h1, h2, h3, h4, h5⟩ := arrayOverA_spec h
  obtain ⟨k', hk', he⟩ := hvm.2.2 _ _ h3
  have hi : (U.vm.classes.findIdx? fun (x : Class) => match x.kind with | .array component _ => component == comp | _ => false) = some c := by
    rw [hvm.findIdx?_eq _ (fun _ => rfl)]
    exact h2
  have hkind : k'.kind = .array comp (.array t) := by rw [he]; exact h4
  have f1 : U.vm.findClass (FieldType.array t).toString = some comp := by rw [hvm.findClass]; exact h1
  have f2 : U.vm.findClass ("[" ++ (FieldType.array t).toString) = some c := by rw [hvm.findClass]; exact h5
  unfold Cond.before Cond.holds
  simp only [Cond.value]
  rw [f1, Option.bind_some]
  refine (congrArg (fun o : Option Nat => (o.bind (fun c => (U.vm.classes[c]?).map fun (k : Class) => match k.kind with | .array _ ty => decide (ty = FieldType.array t) && decide (U.vm.findClass ("[" ++ (FieldType.array t).toString) = some c) | _ => false) == some true)) hi).trans ?_
  simp [hk', hkind, f2]
section PXM
variable {l : Launch} {S0 : State} {A0 : Array Value} {D : va_G} {od sa : Nat → Nat} {p : Program} {e : Env} {R : Room} {s : State} {m : MethodId} {args : Array Value} {below : List Frame} {meth : Method} {c : Code} {Q : State → Prop} {j d k0 z0 : Nat}
theorem px_mna_sound (C : px_Cx l S0 A0 D od sa) (B : px_B S0 j d k0 p R s m meth c) {pc idx dims : Nat} {lv : px_L} {st : List Value} {hp : px_H} {f : px_F} (hd : decode (px_c j) pc = .ok (.multianewarray idx dims, 4)) (h : px_step j pc lv st hp (.multianewarray idx dims) = some (.inl f))
    (hr1 : f.2.2.2.length ≤ k0 + R.cells) (hr2 : px_sz f.2.2.2 ≤ z0 + R.slots) (K : px_G S0 D od p l e R s m args below meth c Q (px_ml j) k0 z0 f) : px_G S0 D od p l e R s m args below meth c Q (px_ml j) k0 z0 (pc, lv, st, hp) := by
  obtain ⟨hx, hb, hml, hown, hrt, hlk, hnm, hW0, het, hfr, hlo, hsz⟩ := id B
  intro H locs ls cells slots w1 w2 w3 w4 w5
  change px_W S0 D od hp H at w1
  change lv_has ls (px_ml j) (px_rl (px_ad od S0.heap.size) lv) at w3
  change cells + k0 = hp.length at w4
  change slots + z0 = px_sz hp at w5
  simp only [px_step, px_mna] at h
  split at h
  · rename_i k n r
    split at h
    · rename_i hn
      cases h
      obtain ⟨n1, rfl, rfl, n3, n4, n5, n6⟩ := hn
      have hown0 : s.vm.findClass RX0 = some m.cls := by rw [n1] at hown; exact hown
      have hl1 : hp.length + (n.toNatClampNeg + 1) ≤ k0 + R.cells := by simpa using hr1
      have hl2 : px_sz hp + (n.toNatClampNeg + n.toNatClampNeg * k.toNatClampNeg) ≤ z0 + R.slots := by
        have := hr2
        simp only [px_sz_app] at this
        simpa [px_sz] using this
      have hw : ∀ w, w ∈ px_PT → w.before args s = true := fun w hw => px_word C.1 hW0 hw
      have e12 : "[" ++ (FieldType.array .int).toString = "[[I" := by decide +kernel
      intro T hT X
      obtain ⟨vm₁, cA, comp, -, fA, fC, hO, hI, X', step⟩ := X.multianewarray2F (ty := .int) (own := RX0) (index := 13) hx hown0 (by rw [e12]; exact hw _ (px_in (i := 110) rfl rfl)) (px_AOA hW0.alike (C.1 _ (List.mem_of_getElem? (i := 111) rfl))) (hw _ (px_in (i := 102) rfl rfl)) (g := F0 m pc ls (.int k :: .int n :: r.map (px_ren (px_ad od S0.heap.size)))) rfl (by rw [hb]; exact hd) (n := n) (k := k) (rest := r.map (px_ren (px_ad od S0.heap.size))) rfl n3 n4 (by omega) (by show k.toNatClampNeg * 4 ≤ _; omega) (by omega) rfl rfl (by omega) (by omega)
      generalize hF : Jvm.Free.Multi.fill (T.setVm vm₁) cA comp n.toNatClampNeg k.toNatClampNeg (defaultValue .int) n.toNatClampNeg = F at X' step
      have hTh : (T.setVm vm₁).heap = H := hT
      obtain ⟨f1, f2, -, -⟩ := Jvm.Free.Multi.fill_facts (T.setVm vm₁) cA comp n.toNatClampNeg k.toNatClampNeg (defaultValue .int) n.toNatClampNeg
      rw [hF, hTh] at f1 f2
      have hold : ∀ x : Nat, x < H.size → F.heap[x]? = H[x]? := fun x hx => by
        have := Jvm.Free.Multi.fill_old (T.setVm vm₁) cA comp n.toNatClampNeg k.toNatClampNeg (defaultValue .int) (a := x) (by rw [hTh]; exact hx) n.toNatClampNeg
        rw [hF, hTh] at this
        exact this
      have hrow : ∀ i : Nat, i < n.toNatClampNeg → F.heap[H.size + 1 + i]? = some (Jvm.Free.Multi.innerC comp k.toNatClampNeg (defaultValue .int)) := fun i hi => by
        have := Jvm.Free.Multi.fill_inner (T.setVm vm₁) cA comp n.toNatClampNeg k.toNatClampNeg (defaultValue .int) n.toNatClampNeg i hi
        rw [hF, hTh] at this
        exact this
      have hpl := w1.hpl
      have h8 := w1.1
      have hs8 := w1.2.1
      have hwd := w1.app (H1 := F.heap) C.2.2.2.1 ((14, (List.range n.toNatClampNeg).map (fun i => Value.ref (hp.length + 1 + i))) :: List.replicate n.toNatClampNeg (10, List.replicate k.toNatClampNeg (.int 0))) (fun i c hc => by
        cases i with
        | zero =>
          cases hc
          refine ⟨fun h => absurd h (by show ¬ (14 : Nat) < 5; decide), fun _ _ => ⟨_, f2, State.isArrayOf_alike hW0.alike.symm (hO _ _ _).1, (hO _ _ _).2, fun _ => ?_, fun z => absurd z (by show ¬ (14 : Nat) = 13; decide), fun z => absurd z (by show ¬ (14 : Nat) = 20; decide)⟩, Or.inr (by show (10 : Nat) ≤ 14; decide)⟩
          rw [vr_outer]
          apply Array.ext
          · simp [arrV]
          · intro i h1 h2
            have hi : i < n.toNatClampNeg := by simpa [arrV] using h1
            simp only [arrV, Array.getElem_ofFn, if_pos hi]
            simp only [va_rf, List.getElem_toArray, List.getElem_map, List.getElem_range, px_ren]
            rw [px_ad_new (by omega), show S0.heap.size + (hp.length + 1 + i - 8) = H.size + 1 + i by omega]
        | succ i =>
          rw [List.getElem?_cons_succ] at hc
          have hi : i < n.toNatClampNeg := by
            have := (List.getElem?_eq_some_iff.mp hc).1
            simpa using this
          have hce := List.eq_of_mem_replicate (List.mem_of_getElem? hc)
          subst hce
          refine ⟨fun h => absurd h (by show ¬ (10 : Nat) < 5; decide), fun _ _ => ⟨_, by rw [show H.size + (i + 1) = H.size + 1 + i by omega]; exact hrow i hi, State.isArrayOf_alike hW0.alike.symm (hI _ _).1, (hI _ _).2, fun _ => ?_, fun z => absurd z (by show ¬ (10 : Nat) = 13; decide), fun z => absurd z (by show ¬ (10 : Nat) = 20; decide)⟩, Or.inr (by show (10 : Nat) ≤ 10; decide)⟩
          show Array.replicate k.toNatClampNeg (Value.int 0) = _
          simp [px_ren]) (by rw [f1]; simp; omega) hold
      have hK := K F.heap locs ls (cells + 1 + n.toNatClampNeg) (slots + n.toNatClampNeg + n.toNatClampNeg * k.toNatClampNeg) hwd w2 w3 (by simp; omega) (by simp only [px_sz_app]; simp [px_sz] at w5 ⊢; omega)
      rw [List.map_cons] at hK
      simp only [px_ren, hpl] at hK
      have hTs : T.heap.size = H.size := by rw [hT]
      rw [← hTs] at hK
      obtain ⟨t, a1, b1⟩ := hK F rfl X'
      exact ⟨t, step t a1, b1⟩
    · cases h
  · cases h
end PXM
