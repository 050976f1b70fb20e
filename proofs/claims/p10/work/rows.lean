section
-- ===== PART A: goes FIRST, ahead of the names: the tables' words, and 'selects' of the private methods out of them =====
/-- a private method of a class that the tables say can be made, by its rows of tables_1 -/
def lw_okq (q : MethodName × Nat) : Prop := (q.1.cls ≠ "java/lang/invoke/MethodHandle" ∧ q.1.cls ≠ "java/lang/invoke/VarHandle") ∧ Cond.instantiable q.1.cls q.2 ∈ tables_1 ∧ Cond.privateMethod q.1 ∈ tables_1 ∧ Cond.instanceMethod q.1 ∈ tables_1
theorem lw_p0 : lw_okq (⟨"ColourSums", "reachable", "(JI)Z"⟩, 10) := ⟨⟨by decide +kernel, by decide +kernel⟩, List.mem_of_getElem? (i := 17) (by decide +kernel), List.mem_of_getElem? (i := 167) (by decide +kernel), List.mem_of_getElem? (i := 168) (by decide +kernel)⟩
theorem lw_p1 : lw_okq (⟨"ColourSums", "addPlacementSums", "(LColourSums$Form;)V"⟩, 10) := ⟨⟨by decide +kernel, by decide +kernel⟩, List.mem_of_getElem? (i := 17) (by decide +kernel), List.mem_of_getElem? (i := 199) (by decide +kernel), List.mem_of_getElem? (i := 200) (by decide +kernel)⟩
theorem lw_p2 : lw_okq (⟨"ColourSums$Form", "placeWay", "(I)V"⟩, 8) := ⟨⟨by decide +kernel, by decide +kernel⟩, List.mem_of_getElem? (i := 32) (by decide +kernel), List.mem_of_getElem? (i := 207) (by decide +kernel), List.mem_of_getElem? (i := 208) (by decide +kernel)⟩
theorem lw_p3 : lw_okq (⟨"ColourSums$Form", "cellsInCorner", "(I)J"⟩, 8) := ⟨⟨by decide +kernel, by decide +kernel⟩, List.mem_of_getElem? (i := 32) (by decide +kernel), List.mem_of_getElem? (i := 217) (by decide +kernel), List.mem_of_getElem? (i := 218) (by decide +kernel)⟩
theorem lw_p4 : lw_okq (⟨"ColourSums$Form", "insert", "(J)V"⟩, 8) := ⟨⟨by decide +kernel, by decide +kernel⟩, List.mem_of_getElem? (i := 32) (by decide +kernel), List.mem_of_getElem? (i := 222) (by decide +kernel), List.mem_of_getElem? (i := 223) (by decide +kernel)⟩
theorem lw_p5 : lw_okq (⟨"ColourSums$Equations", "subtractRow", "(II[I)V"⟩, 5) := ⟨⟨by decide +kernel, by decide +kernel⟩, List.mem_of_getElem? (i := 67) (by decide +kernel), List.mem_of_getElem? (i := 230) (by decide +kernel), List.mem_of_getElem? (i := 231) (by decide +kernel)⟩
theorem lw_p6 : lw_okq (⟨"ColourSums$Equations", "lastCellOfWork", "()I"⟩, 5) := ⟨⟨by decide +kernel, by decide +kernel⟩, List.mem_of_getElem? (i := 67) (by decide +kernel), List.mem_of_getElem? (i := 234) (by decide +kernel), List.mem_of_getElem? (i := 235) (by decide +kernel)⟩
theorem lw_p7 : lw_okq (⟨"ColourSums$Equations", "keepWork", "(I)V"⟩, 5) := ⟨⟨by decide +kernel, by decide +kernel⟩, List.mem_of_getElem? (i := 67) (by decide +kernel), List.mem_of_getElem? (i := 238) (by decide +kernel), List.mem_of_getElem? (i := 239) (by decide +kernel)⟩
theorem lw_p8 : lw_okq (⟨"ColourSums$Equations", "inverse", "(I)I"⟩, 5) := ⟨⟨by decide +kernel, by decide +kernel⟩, List.mem_of_getElem? (i := 67) (by decide +kernel), List.mem_of_getElem? (i := 242) (by decide +kernel), List.mem_of_getElem? (i := 243) (by decide +kernel)⟩
theorem lw_p9 : lw_okq (⟨"ColourSums", "inShape", "(I)Z"⟩, 10) := ⟨⟨by decide +kernel, by decide +kernel⟩, List.mem_of_getElem? (i := 17) (by decide +kernel), List.mem_of_getElem? (i := 254) (by decide +kernel), List.mem_of_getElem? (i := 255) (by decide +kernel)⟩
theorem lw_p10 : lw_okq (⟨"ColourSums", "ownOver", "(J)I"⟩, 10) := ⟨⟨by decide +kernel, by decide +kernel⟩, List.mem_of_getElem? (i := 17) (by decide +kernel), List.mem_of_getElem? (i := 262) (by decide +kernel), List.mem_of_getElem? (i := 263) (by decide +kernel)⟩
theorem lw_p11 : lw_okq (⟨"ColourSums$Outline", "follow", "(II)V"⟩, 8) := ⟨⟨by decide +kernel, by decide +kernel⟩, List.mem_of_getElem? (i := 92) (by decide +kernel), List.mem_of_getElem? (i := 284) (by decide +kernel), List.mem_of_getElem? (i := 285) (by decide +kernel)⟩
theorem lw_p12 : lw_okq (⟨"ColourSums$Outline", "nextLetter", "(III)I"⟩, 8) := ⟨⟨by decide +kernel, by decide +kernel⟩, List.mem_of_getElem? (i := 92) (by decide +kernel), List.mem_of_getElem? (i := 292) (by decide +kernel), List.mem_of_getElem? (i := 293) (by decide +kernel)⟩
theorem lw_p13 : lw_okq (⟨"ColourSums$Outline", "mayGo", "(III)Z"⟩, 8) := ⟨⟨by decide +kernel, by decide +kernel⟩, List.mem_of_getElem? (i := 92) (by decide +kernel), List.mem_of_getElem? (i := 296) (by decide +kernel), List.mem_of_getElem? (i := 297) (by decide +kernel)⟩
theorem lw_p14 : lw_okq (⟨"ColourSums$Outline", "has", "(II)Z"⟩, 8) := ⟨⟨by decide +kernel, by decide +kernel⟩, List.mem_of_getElem? (i := 92) (by decide +kernel), List.mem_of_getElem? (i := 304) (by decide +kernel), List.mem_of_getElem? (i := 305) (by decide +kernel)⟩
theorem lw_p15 : lw_okq (⟨"ColourSums$Outline", "foldLetter", "(III)V"⟩, 8) := ⟨⟨by decide +kernel, by decide +kernel⟩, List.mem_of_getElem? (i := 92) (by decide +kernel), List.mem_of_getElem? (i := 320) (by decide +kernel), List.mem_of_getElem? (i := 321) (by decide +kernel)⟩
def lw_privs_1 : List (MethodName × Nat) := [(⟨"ColourSums", "reachable", "(JI)Z"⟩, 10), (⟨"ColourSums", "addPlacementSums", "(LColourSums$Form;)V"⟩, 10), (⟨"ColourSums$Form", "placeWay", "(I)V"⟩, 8), (⟨"ColourSums$Form", "cellsInCorner", "(I)J"⟩, 8), (⟨"ColourSums$Form", "insert", "(J)V"⟩, 8), (⟨"ColourSums$Equations", "subtractRow", "(II[I)V"⟩, 5), (⟨"ColourSums$Equations", "lastCellOfWork", "()I"⟩, 5), (⟨"ColourSums$Equations", "keepWork", "(I)V"⟩, 5), (⟨"ColourSums$Equations", "inverse", "(I)I"⟩, 5), (⟨"ColourSums", "inShape", "(I)Z"⟩, 10), (⟨"ColourSums", "ownOver", "(J)I"⟩, 10), (⟨"ColourSums$Outline", "follow", "(II)V"⟩, 8), (⟨"ColourSums$Outline", "nextLetter", "(III)I"⟩, 8), (⟨"ColourSums$Outline", "mayGo", "(III)Z"⟩, 8), (⟨"ColourSums$Outline", "has", "(II)Z"⟩, 8), (⟨"ColourSums$Outline", "foldLetter", "(III)V"⟩, 8)]
theorem lw_r1 : ∀ q ∈ lw_privs_1, lw_okq q := List.forall_mem_cons.mpr ⟨lw_p0, List.forall_mem_cons.mpr ⟨lw_p1, List.forall_mem_cons.mpr ⟨lw_p2, List.forall_mem_cons.mpr ⟨lw_p3, List.forall_mem_cons.mpr ⟨lw_p4, List.forall_mem_cons.mpr ⟨lw_p5, List.forall_mem_cons.mpr ⟨lw_p6, List.forall_mem_cons.mpr ⟨lw_p7, List.forall_mem_cons.mpr ⟨lw_p8, List.forall_mem_cons.mpr ⟨lw_p9, List.forall_mem_cons.mpr ⟨lw_p10, List.forall_mem_cons.mpr ⟨lw_p11, List.forall_mem_cons.mpr ⟨lw_p12, List.forall_mem_cons.mpr ⟨lw_p13, List.forall_mem_cons.mpr ⟨lw_p14, List.forall_mem_cons.mpr ⟨lw_p15, fun _ h => absurd h List.not_mem_nil⟩⟩⟩⟩⟩⟩⟩⟩⟩⟩⟩⟩⟩⟩⟩⟩
theorem lw_p16 : lw_okq (⟨"ColourSums$Outline", "pushRun", "(II)V"⟩, 8) := ⟨⟨by decide +kernel, by decide +kernel⟩, List.mem_of_getElem? (i := 92) (by decide +kernel), List.mem_of_getElem? (i := 324) (by decide +kernel), List.mem_of_getElem? (i := 325) (by decide +kernel)⟩
theorem lw_p17 : lw_okq (⟨"java/lang/Throwable", "fillInStackTrace", "(I)Ljava/lang/Throwable;"⟩, 6) := ⟨⟨by decide +kernel, by decide +kernel⟩, List.mem_of_getElem? (i := 368) (by decide +kernel), List.mem_of_getElem? (i := 366) (by decide +kernel), List.mem_of_getElem? (i := 367) (by decide +kernel)⟩
theorem lw_p18 : lw_okq (⟨"ColourSums", "numberOfCell", "(II)I"⟩, 10) := ⟨⟨by decide +kernel, by decide +kernel⟩, List.mem_of_getElem? (i := 17) (by decide +kernel), List.mem_of_getElem? (i := 418) (by decide +kernel), List.mem_of_getElem? (i := 419) (by decide +kernel)⟩
theorem lw_p19 : lw_okq (⟨"ColourSums", "formOf", "(I)LColourSums$Form;"⟩, 10) := ⟨⟨by decide +kernel, by decide +kernel⟩, List.mem_of_getElem? (i := 17) (by decide +kernel), List.mem_of_getElem? (i := 433) (by decide +kernel), List.mem_of_getElem? (i := 434) (by decide +kernel)⟩
theorem lw_p20 : lw_okq (⟨"ColourSums$Form", "findWays", "()V"⟩, 8) := ⟨⟨by decide +kernel, by decide +kernel⟩, List.mem_of_getElem? (i := 32) (by decide +kernel), List.mem_of_getElem? (i := 459) (by decide +kernel), List.mem_of_getElem? (i := 460) (by decide +kernel)⟩
theorem lw_p21 : lw_okq (⟨"ColourSums$Form", "keepWay", "(I)V"⟩, 8) := ⟨⟨by decide +kernel, by decide +kernel⟩, List.mem_of_getElem? (i := 32) (by decide +kernel), List.mem_of_getElem? (i := 469) (by decide +kernel), List.mem_of_getElem? (i := 470) (by decide +kernel)⟩
theorem lw_p22 : lw_okq (⟨"ColourSumsModel", "isCell", "(II)Z"⟩, 21) := ⟨⟨by decide +kernel, by decide +kernel⟩, List.mem_of_getElem? (i := 507) (by decide +kernel), List.mem_of_getElem? (i := 581) (by decide +kernel), List.mem_of_getElem? (i := 582) (by decide +kernel)⟩
theorem lw_p23 : lw_okq (⟨"ColourSumsModel", "throwsIf", "(IZ)Z"⟩, 21) := ⟨⟨by decide +kernel, by decide +kernel⟩, List.mem_of_getElem? (i := 507) (by decide +kernel), List.mem_of_getElem? (i := 585) (by decide +kernel), List.mem_of_getElem? (i := 586) (by decide +kernel)⟩
theorem lw_p24 : lw_okq (⟨"ColourSumsModel", "isPiece", "(I)Z"⟩, 21) := ⟨⟨by decide +kernel, by decide +kernel⟩, List.mem_of_getElem? (i := 507) (by decide +kernel), List.mem_of_getElem? (i := 597) (by decide +kernel), List.mem_of_getElem? (i := 598) (by decide +kernel)⟩
theorem lw_p25 : lw_okq (⟨"ColourSumsModel", "place", "(I)V"⟩, 21) := ⟨⟨by decide +kernel, by decide +kernel⟩, List.mem_of_getElem? (i := 507) (by decide +kernel), List.mem_of_getElem? (i := 605) (by decide +kernel), List.mem_of_getElem? (i := 606) (by decide +kernel)⟩
theorem lw_p26 : lw_okq (⟨"ColourSumsModel", "setOf", "(IIII)J"⟩, 21) := ⟨⟨by decide +kernel, by decide +kernel⟩, List.mem_of_getElem? (i := 507) (by decide +kernel), List.mem_of_getElem? (i := 609) (by decide +kernel), List.mem_of_getElem? (i := 610) (by decide +kernel)⟩
theorem lw_p27 : lw_okq (⟨"ColourSumsModel", "addPlace", "(J)V"⟩, 21) := ⟨⟨by decide +kernel, by decide +kernel⟩, List.mem_of_getElem? (i := 507) (by decide +kernel), List.mem_of_getElem? (i := 613) (by decide +kernel), List.mem_of_getElem? (i := 614) (by decide +kernel)⟩
theorem lw_p28 : lw_okq (⟨"ColourSumsModel", "cells", "()I"⟩, 21) := ⟨⟨by decide +kernel, by decide +kernel⟩, List.mem_of_getElem? (i := 507) (by decide +kernel), List.mem_of_getElem? (i := 621) (by decide +kernel), List.mem_of_getElem? (i := 622) (by decide +kernel)⟩
theorem lw_p29 : lw_okq (⟨"ColourSumsModel", "size", "()I"⟩, 21) := ⟨⟨by decide +kernel, by decide +kernel⟩, List.mem_of_getElem? (i := 507) (by decide +kernel), List.mem_of_getElem? (i := 629) (by decide +kernel), List.mem_of_getElem? (i := 630) (by decide +kernel)⟩
theorem lw_p30 : lw_okq (⟨"ColourSumsModel", "equations", "(I)Z"⟩, 21) := ⟨⟨by decide +kernel, by decide +kernel⟩, List.mem_of_getElem? (i := 507) (by decide +kernel), List.mem_of_getElem? (i := 637) (by decide +kernel), List.mem_of_getElem? (i := 638) (by decide +kernel)⟩
theorem lw_p31 : lw_okq (⟨"ColourSumsModel", "keep", "(I)Z"⟩, 21) := ⟨⟨by decide +kernel, by decide +kernel⟩, List.mem_of_getElem? (i := 507) (by decide +kernel), List.mem_of_getElem? (i := 641) (by decide +kernel), List.mem_of_getElem? (i := 642) (by decide +kernel)⟩
def lw_privs_2 : List (MethodName × Nat) := [(⟨"ColourSums$Outline", "pushRun", "(II)V"⟩, 8), (⟨"java/lang/Throwable", "fillInStackTrace", "(I)Ljava/lang/Throwable;"⟩, 6), (⟨"ColourSums", "numberOfCell", "(II)I"⟩, 10), (⟨"ColourSums", "formOf", "(I)LColourSums$Form;"⟩, 10), (⟨"ColourSums$Form", "findWays", "()V"⟩, 8), (⟨"ColourSums$Form", "keepWay", "(I)V"⟩, 8), (⟨"ColourSumsModel", "isCell", "(II)Z"⟩, 21), (⟨"ColourSumsModel", "throwsIf", "(IZ)Z"⟩, 21), (⟨"ColourSumsModel", "isPiece", "(I)Z"⟩, 21), (⟨"ColourSumsModel", "place", "(I)V"⟩, 21), (⟨"ColourSumsModel", "setOf", "(IIII)J"⟩, 21), (⟨"ColourSumsModel", "addPlace", "(J)V"⟩, 21), (⟨"ColourSumsModel", "cells", "()I"⟩, 21), (⟨"ColourSumsModel", "size", "()I"⟩, 21), (⟨"ColourSumsModel", "equations", "(I)Z"⟩, 21), (⟨"ColourSumsModel", "keep", "(I)Z"⟩, 21)]
theorem lw_r2 : ∀ q ∈ lw_privs_2, lw_okq q := List.forall_mem_cons.mpr ⟨lw_p16, List.forall_mem_cons.mpr ⟨lw_p17, List.forall_mem_cons.mpr ⟨lw_p18, List.forall_mem_cons.mpr ⟨lw_p19, List.forall_mem_cons.mpr ⟨lw_p20, List.forall_mem_cons.mpr ⟨lw_p21, List.forall_mem_cons.mpr ⟨lw_p22, List.forall_mem_cons.mpr ⟨lw_p23, List.forall_mem_cons.mpr ⟨lw_p24, List.forall_mem_cons.mpr ⟨lw_p25, List.forall_mem_cons.mpr ⟨lw_p26, List.forall_mem_cons.mpr ⟨lw_p27, List.forall_mem_cons.mpr ⟨lw_p28, List.forall_mem_cons.mpr ⟨lw_p29, List.forall_mem_cons.mpr ⟨lw_p30, List.forall_mem_cons.mpr ⟨lw_p31, fun _ h => absurd h List.not_mem_nil⟩⟩⟩⟩⟩⟩⟩⟩⟩⟩⟩⟩⟩⟩⟩⟩
theorem lw_p32 : lw_okq (⟨"ColourSumsModel", "sumOver", "()I"⟩, 21) := ⟨⟨by decide +kernel, by decide +kernel⟩, List.mem_of_getElem? (i := 507) (by decide +kernel), List.mem_of_getElem? (i := 664) (by decide +kernel), List.mem_of_getElem? (i := 665) (by decide +kernel)⟩
theorem lw_p33 : lw_okq (⟨"ColourSumsModel", "countBad", "(I)I"⟩, 21) := ⟨⟨by decide +kernel, by decide +kernel⟩, List.mem_of_getElem? (i := 507) (by decide +kernel), List.mem_of_getElem? (i := 672) (by decide +kernel), List.mem_of_getElem? (i := 673) (by decide +kernel)⟩
theorem lw_p34 : lw_okq (⟨"ColourSumsModel", "walk", "()V"⟩, 21) := ⟨⟨by decide +kernel, by decide +kernel⟩, List.mem_of_getElem? (i := 507) (by decide +kernel), List.mem_of_getElem? (i := 684) (by decide +kernel), List.mem_of_getElem? (i := 685) (by decide +kernel)⟩
theorem lw_p35 : lw_okq (⟨"ColourSumsModel", "isSide", "(III)Z"⟩, 21) := ⟨⟨by decide +kernel, by decide +kernel⟩, List.mem_of_getElem? (i := 507) (by decide +kernel), List.mem_of_getElem? (i := 688) (by decide +kernel), List.mem_of_getElem? (i := 689) (by decide +kernel)⟩
theorem lw_p36 : lw_okq (⟨"ColourSumsModel", "isThere", "(II)Z"⟩, 21) := ⟨⟨by decide +kernel, by decide +kernel⟩, List.mem_of_getElem? (i := 507) (by decide +kernel), List.mem_of_getElem? (i := 692) (by decide +kernel), List.mem_of_getElem? (i := 693) (by decide +kernel)⟩
theorem lw_p37 : lw_okq (⟨"ColourSumsModel", "takeRuns", "(I)V"⟩, 21) := ⟨⟨by decide +kernel, by decide +kernel⟩, List.mem_of_getElem? (i := 507) (by decide +kernel), List.mem_of_getElem? (i := 700) (by decide +kernel), List.mem_of_getElem? (i := 701) (by decide +kernel)⟩
def lw_privs_3 : List (MethodName × Nat) := [(⟨"ColourSumsModel", "sumOver", "()I"⟩, 21), (⟨"ColourSumsModel", "countBad", "(I)I"⟩, 21), (⟨"ColourSumsModel", "walk", "()V"⟩, 21), (⟨"ColourSumsModel", "isSide", "(III)Z"⟩, 21), (⟨"ColourSumsModel", "isThere", "(II)Z"⟩, 21), (⟨"ColourSumsModel", "takeRuns", "(I)V"⟩, 21)]
theorem lw_r3 : ∀ q ∈ lw_privs_3, lw_okq q := List.forall_mem_cons.mpr ⟨lw_p32, List.forall_mem_cons.mpr ⟨lw_p33, List.forall_mem_cons.mpr ⟨lw_p34, List.forall_mem_cons.mpr ⟨lw_p35, List.forall_mem_cons.mpr ⟨lw_p36, List.forall_mem_cons.mpr ⟨lw_p37, fun _ h => absurd h List.not_mem_nil⟩⟩⟩⟩⟩⟩
def lw_privs : List (MethodName × Nat) := lw_privs_1 ++ (lw_privs_2 ++ (lw_privs_3))
def lw_tbl : List Cond := k2_sels lw_privs ++ tables_1
theorem lw_privs_ok : ∀ q ∈ lw_privs, lw_okq q := by
  show ∀ q ∈ lw_privs_1 ++ (lw_privs_2 ++ (lw_privs_3)), lw_okq q
  exact List.forall_mem_append.mpr ⟨lw_r1, List.forall_mem_append.mpr ⟨lw_r2, lw_r3⟩⟩
end
section
/-! ===== BEGIN words of one list among another's, by their places ===== -/
theorem goodIn_r {big : List Cond} (ws : List Cond) (ps : List Nat) (hp : ws = ps.filterMap (fun i => big[i]?)) (h : ws.all goodWord = true) : GoodIn big ws := by
  intro w hw
  have h1 := List.all_eq_true.mp h w hw
  rw [hp] at hw
  obtain ⟨i, -, hi⟩ := List.mem_filterMap.mp hw
  have hm : w ∈ big := by first | exact List.mem_of_getElem? hi | exact List.getElem?_mem hi
  exact ⟨hm, good_of_word h1⟩
theorem goodIn_app {big a b : List Cond} (ha : GoodIn big a) (hb : GoodIn big b) : GoodIn big (a ++ b) := fun w h => (List.mem_append.mp h).elim (ha w) (hb w)
theorem goodIn_ca {big a b : List Cond} {c : Cond} (ha : GoodIn big (c :: a)) (hb : GoodIn big b) : GoodIn big (c :: (a ++ b)) := fun w h => (List.mem_cons.mp h).elim (fun e => ha w (List.mem_cons.mpr (Or.inl e))) (fun h => (List.mem_append.mp h).elim (fun h => ha w (List.mem_cons.mpr (Or.inr h))) (hb w))
theorem goodIn_sub {big ws : List Cond} (hm : ∀ w ∈ ws, w ∈ big) (h : ws.all goodWord = true) : GoodIn big ws := fun w hw => ⟨hm w hw, good_of_word (List.all_eq_true.mp h w hw)⟩
/-! ===== END ===== -/
/-! ===== BEGIN exceptions that leave a method, and their catching by the caller (launches without stack traces) ===== -/
section VXA
/-! The laws vx_back, vx_callV, vx_callS, vx_callSW, vx_throw0, vx_throwS follow proofs of the library, with one case more: JvmDerived/Free/Laws.lean (Back.of_free), Shelf42/LK1.lean (callV, callS), Shelf/KitTraced.lean (throwNew0V, throwNewS). -/
/-- where a method has thrown q: the class by its name, the cell, what was written, the world -/
def vx_T (XC : String → State → State → Prop) (st : State) (q : Addr) (t : State) (mc ms : Nat) (free : Addr → Prop) : Prop :=
  ∃ (E : String) (ce : Cell) (L : List Loc), XC E st t ∧ t.heap[q]? = some ce ∧ ce.vm = .none ∧ st.vm.findClass E = some ce.cls ∧ st.WarmedH t.vm ∧ st.sameButNew ({ t with vm := st.vm } : State) L mc ms ∧ ∀ z ∈ L, free z.base
def vx_Q (Qc : Array Value → State → Outcome → State → Prop) (XC : String → State → State → Prop) (mc ms : Nat) (free : Addr → Prop) : Array Value → State → Outcome → State → Prop := fun a st o t =>
  (Qc a st o t ∧ ∃ L, FrameEnd st o t L mc ms ∧ ∀ q ∈ L, free q.base) ∨ ∃ q, o = .threw q ∧ vx_T XC st q t mc ms free
/-- a callee that returns or throws -/
def vx_Met (l : Launch) (y : MethodName) (ws : List Cond) (rm : Room) (Pc : Array Value → State → Prop) (Qc : Array Value → State → Outcome → State → Prop) (XC : String → State → State → Prop) (mc ms : Nat) (free : Addr → Prop) : Prop :=
  MetFree l y (headSpec ws rm) Pc (fun _ _ _ _ _ => True) (vx_Q Qc XC mc ms free)
def vx_Post (XC : String → State → State → Prop) (mc ms : Nat) (free : Addr → Prop) : Pt → Array Value → Addr → Pt → Prop := fun A a q B =>
  ∃ (g : JFrame) (mk : MethodId) (t : State) (L : List Loc) (E : String) (ce : Cell), B.U.heap = t.heap ∧ B.U.vm = t.vm ∧ XC E (A.U.calling g mk a) t ∧ t.heap[q]? = some ce ∧ ce.vm = .none ∧ A.U.vm.findClass E = some ce.cls ∧ B.locs = A.locs ++ L ∧ (∀ z ∈ L, free z.base) ∧ B.cells = A.cells + mc ∧ B.slots = A.slots + ms
def vx_Back (l : Launch) (R : Room) (p : Program) (e : Env) (below : List Frame) (s : State) (sargs : Array Value) (y : MethodName) (len W9 : Nat)
    (Pre : Pt → Array Value → Prop) (Post : Pt → Array Value → Option Value → Pt → Prop) (PostX : Pt → Array Value → Addr → Pt → Prop) : Prop :=
  ∀ (m : MethodId) (meth : Method) (c : Code) (A : Pt) (g : JFrame) (ig : Instr) (mk : MethodId) (a : Array Value),
    Stand p l e R s m sargs below meth c A.U A.locs A.cells A.slots → g.method = m → g.locals.size = c.maxLocals → decode c.code g.pc = .ok (ig, len) →
    2 * g.monitorRoom + (g.stack.map fun v => v.category).sum ≤ W9 → A.U.methodNamed? y = some mk → Pre A a →
    (∃ (v : Option Value) (B : Pt), Stand p l e R s m sargs below meth c B.U B.locs B.cells B.slots ∧ Post A a v B ∧
      Steps p.tables e below (doInvoke e (A.U.setTop g) [] mk a).1 (B.U.setTop { g with pc := g.pc + len, stack := v.toList ++ g.stack })) ∨
    (∃ (q : Addr) (B : Pt), Stand p l e R s m sargs below meth c B.U B.locs B.cells B.slots ∧ PostX A a q B ∧
      Steps p.tables e below (doInvoke e (A.U.setTop g) [] mk a).1 ((B.U.setTop g).pushFrame (.throwing q)))
section Payer
variable {l : Launch} {R : Room} {p : Program} {e : Env} {below : List Frame} {s : State} {sargs : Array Value} {y : MethodName} {len W9 : Nat}
theorem vx_back {ws : List Cond} {rm : Room} {Pc : Array Value → State → Prop} {Qc : Array Value → State → Outcome → State → Prop} {XC : String → State → State → Prop} {mc ms : Nat} {free : Addr → Prop} {bytes : ByteArray} {maxL : Nat} {ret : Option FieldType}
    (hM : vx_Met l y ws rm Pc Qc XC mc ms free) (hblind : FrameBlind Pc) (hrc : rm.cells = mc) (hrs : rm.slots = ms)
    (hframes : rm.frames + 1 ≤ R.frames) (hlocals : W9 + (maxL + 11) + rm.locals ≤ R.locals)
    (hws : ∀ w ∈ ws, ∀ a' U, s.WarmedH U.vm → w.before a' U = true) (hcode : Cond.code y bytes maxL ret ∈ ws) (hinit : ∀ a' U, s.WarmedH U.vm → (Cond.initialized y.cls).before a' U = true) :
    vx_Back l R p e below s sargs y len W9 (PreOf R mc ms Pc) (PostOf Qc mc ms free) (vx_Post XC mc ms free) := by
  intro m meth c A g ig mk a X hg hsize hdg hW hn hp
  have h1 : (headSpec ws rm).pre.before a A.U = true := atoms_intro fun w hw => hws w hw _ _ X.warmed
  have h2 : (Cond.code y bytes maxL ret).before a A.U = true := hws _ hcode _ _ X.warmed
  have h3 : (Cond.initialized y.cls).before a A.U = true := hinit _ _ X.warmed
  have h4 : A.cells + (headSpec ws rm).room.cells ≤ R.cells := by rw [show (headSpec ws rm).room.cells = mc from hrc]; exact hp.1
  have h5 : A.slots + (headSpec ws rm).room.slots ≤ R.slots := by rw [show (headSpec ws rm).room.slots = ms from hrs]; exact hp.2.1
  have hPc : Pc a (A.U.calling g mk a) := hblind _ _ _ _ hp.2.2
  obtain ⟨U, Ls, c0, s0⟩ := A
  dsimp only [Pt.U, Pt.locs, Pt.cells, Pt.slots] at h1 h2 h3 h4 h5 X hn hPc ⊢
  obtain ⟨methY, cY, hmY, hcY, -, hlY, -, -, -, -⟩ := Cond.code_spec hn h2
  obtain ⟨kY, hkY, -⟩ := className_of_methodNamed hn
  have hinitY : kY.init = .initialized := Cond.initialized_spec (findClass_of_methodNamed hn) hkY h3
  have h : At U g.method c below := by rw [hg]; exact X.here
  have hlocals9 : W9 + (maxL + 11) + (headSpec ws rm).room.locals ≤ R.locals := hlocals
  have happ : (headSpec ws rm).appliesLoose y e.platform (U.calling g mk a) = true :=
    Spec.appliesLoose_calling (g := g) h hdg hn hkY hinitY
      (X.room_calling (g := g) (R' := (headSpec ws rm).room) hsize hmY hcY hframes (by rw [hlY]; omega) h4 h5) h1
  obtain ⟨mid, hmid⟩ := h.above
  have hfr : (U.setTop g).frames = (.java g :: mid) ++ below := by rw [State.frames_setTop' g h.top, hmid]; rfl
  obtain ⟨o, s₂, hsteps, -, hend, hq⟩ := Steps.callFree hM p X.admits X.cas X.clock (acts := []) hfr happ hPc trivial
  have hq' : vx_Q Qc XC mc ms free a (U.calling g mk a) o s₂ := hq
  rw [State.frames_setTop' g h.top] at hend
  obtain ⟨g₀, hg0⟩ := Option.isSome_iff_exists.mp h.top
  obtain ⟨r, hr⟩ := State.topJava?_eq_some.mp hg0
  have hr' : (({ U with heap := s₂.heap, slotsUsed := s₂.slotsUsed } : State).setVm s₂.vm).frames = .java g₀ :: r := hr
  rcases hq' with ⟨hqc, L, hfe, hL⟩ | ⟨q, rfl, E, ce, L, hx, hce, hcv, hcl, hW₂, hsm, hL⟩
  · obtain ⟨⟨v, rfl⟩, hW₂, e2, q2, q3, q4, q5, q6⟩ := id hfe
    have e3 : s₂ = ({ (U.calling g mk a).setFrames s₂.frames with heap := s₂.heap, slotsUsed := s₂.slotsUsed } : State).setVm s₂.vm := by
      have : s₂ = ({ s₂ with vm := (U.calling g mk a).vm } : State).setVm s₂.vm := rfl
      rw [e2] at this
      exact this
    obtain ⟨c₂, i₂, len₂, hc₂, hd₂, hf₂⟩ := hend
    have hW' : U.WarmedH s₂.vm := hW₂
    have hcc : c₂ = c := by
      have h1 : s₂.code? g.method = U.code? g.method := by
        rw [State.code?_eq, State.code?_eq, hW'.alike.method?]
      exact Option.some.inj (hc₂.symm.trans (h1.trans h.code))
    subst hcc
    have hlen : len₂ = len := by rw [hdg] at hd₂; cases hd₂; rfl
    subst hlen
    have hs₂ : s₂ = (({ U with heap := s₂.heap, slotsUsed := s₂.slotsUsed } : State).setVm s₂.vm).setTop { g with pc := g.pc + len₂, stack := v.toList ++ g.stack } := by
      refine e3.trans ?_
      rw [hf₂, State.calling_eq h.top, State.setFrames_setFrames, State.setTop_of_frames _ hr', hr]
      rfl
    have hsame : U.sameButNew ({ U with heap := s₂.heap, slotsUsed := s₂.slotsUsed } : State) L mc ms := by
      refine ⟨?_, q2, q3, q4, q5, q6⟩
      obtain ⟨t, ht, -⟩ := State.frames_cons hr
      show ({ U with heap := s₂.heap, slotsUsed := s₂.slotsUsed } : State) = { U.setFrames U.frames with heap := s₂.heap, slotsUsed := s₂.slotsUsed }
      rw [State.setFrames_self ht]
    subst hg
    refine Or.inl ⟨v, ⟨(({ U with heap := s₂.heap, slotsUsed := s₂.slotsUsed } : State).setVm s₂.vm), Ls ++ L, c0 + mc, s0 + ms⟩,
      ⟨X.admits, X.cas, X.clock, X.frames, X.room, X.hears, X.method, X.code, (X.here.setHeapUsed s₂.heap s₂.slotsUsed).setVm hW'.alike, X.tail, State.WarmedH.trans X.warmed hW', X.limits, X.bytes, X.same.trans (hsame.setVm s.vm)⟩,
      ⟨g, mk, s₂, L, rfl, rfl, hqc, rfl, hL, rfl, rfl⟩, ?_⟩
    show Steps p.tables e below _ ((({ U with heap := s₂.heap, slotsUsed := s₂.slotsUsed } : State).setVm s₂.vm).setTop { g with pc := g.pc + len₂, stack := v.toList ++ g.stack })
    rw [← hs₂]
    exact hsteps
  · obtain ⟨e2, q2, q3, q4, q5, q6⟩ := id hsm
    have e3 : s₂ = ({ (U.calling g mk a).setFrames s₂.frames with heap := s₂.heap, slotsUsed := s₂.slotsUsed } : State).setVm s₂.vm := by
      have : s₂ = ({ s₂ with vm := (U.calling g mk a).vm } : State).setVm s₂.vm := rfl
      rw [e2] at this
      exact this
    have hf₂ : s₂.frames = .throwing q :: .java g :: U.frames.tail := hend
    have hW' : U.WarmedH s₂.vm := hW₂
    have hs₂ : s₂ = ((({ U with heap := s₂.heap, slotsUsed := s₂.slotsUsed } : State).setVm s₂.vm).setTop g).pushFrame (.throwing q) := by
      refine e3.trans ?_
      rw [hf₂, State.calling_eq h.top, State.setFrames_setFrames, State.pushFrame, State.frames_setTop _ hr', State.setTop_of_frames _ hr', State.setFrames_setFrames, hr]
      rfl
    have hsame : U.sameButNew ({ U with heap := s₂.heap, slotsUsed := s₂.slotsUsed } : State) L mc ms := by
      refine ⟨?_, q2, q3, q4, q5, q6⟩
      obtain ⟨t, ht, -⟩ := State.frames_cons hr
      show ({ U with heap := s₂.heap, slotsUsed := s₂.slotsUsed } : State) = { U.setFrames U.frames with heap := s₂.heap, slotsUsed := s₂.slotsUsed }
      rw [State.setFrames_self ht]
    subst hg
    refine Or.inr ⟨q, ⟨(({ U with heap := s₂.heap, slotsUsed := s₂.slotsUsed } : State).setVm s₂.vm), Ls ++ L, c0 + mc, s0 + ms⟩,
      ⟨X.admits, X.cas, X.clock, X.frames, X.room, X.hears, X.method, X.code, (X.here.setHeapUsed s₂.heap s₂.slotsUsed).setVm hW'.alike, X.tail, State.WarmedH.trans X.warmed hW', X.limits, X.bytes, X.same.trans (hsame.setVm s.vm)⟩,
      ⟨g, mk, s₂, L, E, ce, rfl, rfl, hx, hce, hcv, hcl, rfl, hL, rfl, rfl⟩, ?_⟩
    show Steps p.tables e below _ (((({ U with heap := s₂.heap, slotsUsed := s₂.slotsUsed } : State).setVm s₂.vm).setTop g).pushFrame (.throwing q))
    rw [← hs₂]
    exact hsteps
end Payer
section Calls
variable {p : Program} {l : Launch} {e : Env} {R : Room} {s : State} {m : MethodId} {args : Array Value} {below : List Frame} {meth : Method} {c : Code} {T : State} {locs : List Loc} {cells slots : Nat}
theorem vx_callV (X : Stand p l e R s m args below meth c T locs cells slots) (hexec : p.tables.exec = Jvm.exec) {own C : String} {index : Nat} {y : MethodName} {bytes : ByteArray} {maxL : Nat} {ret : Option FieldType}
    (hown : s.vm.findClass own = some m.cls) (hlink : (Cond.methodLink own index y).before args s = true) (hinst : (Cond.instanceMethod y).before args s = true) (hsel : (Cond.selects C y y).before args s = true)
    (hcode : (Cond.code y bytes maxL ret).before args s = true) (hy : y.cls ≠ "java/lang/invoke/MethodHandle" ∧ y.cls ≠ "java/lang/invoke/VarHandle")
    {W9 : Nat} {Pre : Pt → Array Value → Prop} {Post : Pt → Array Value → Option Value → Pt → Prop} {PostX : Pt → Array Value → Addr → Pt → Prop} (hK : vx_Back l R p e below s args y 3 W9 Pre Post PostX)
    {b : Addr} {cellB : Cell} (hcell : T.heap[b]? = some cellB) (hobj : cellB.vm.isStatics = false) (hcls : s.vm.findClass C = some cellB.cls)
    {g : JFrame} (hg : g.method = m) (hsize : g.locals.size = c.maxLocals) {argsL rest : List Value} (hlen : ∀ sig, parseMethodDescriptor y.desc = some sig → argsL.length = sig.parameters.length)
    (hstack : g.stack = argsL.reverse ++ .ref b :: rest) (hW : 2 * g.monitorRoom + (rest.map fun v => v.category).sum ≤ W9) (hdg : decode c.code g.pc = .ok (.invokevirtual index, 3))
    (hpre : ∀ vm₁, s.WarmedH vm₁ → Pre ⟨T.setVm vm₁, locs, cells, slots⟩ (Value.ref b :: argsL).toArray) :
    (∃ (v : Option Value) (vm₁ : Vm) (B : Pt), s.WarmedH vm₁ ∧ Stand p l e R s m args below meth c B.U B.locs B.cells B.slots ∧ Post ⟨T.setVm vm₁, locs, cells, slots⟩ (Value.ref b :: argsL).toArray v B ∧
      ∀ target, Steps p.tables e below (B.U.setTop { g with pc := g.pc + 3, stack := v.toList ++ rest }) target → Steps p.tables e below (T.setTop g) target) ∨
    (∃ (q : Addr) (vm₁ : Vm) (B : Pt), s.WarmedH vm₁ ∧ Stand p l e R s m args below meth c B.U B.locs B.cells B.slots ∧ PostX ⟨T.setVm vm₁, locs, cells, slots⟩ (Value.ref b :: argsL).toArray q B ∧
      Steps p.tables e below (T.setTop g) ((B.U.setTop { g with stack := rest }).pushFrame (.throwing q))) := by
  obtain ⟨mk, methM, hnamed, hmethM, hstM, habM⟩ := Cond.instanceMethod_spec hinst
  obtain ⟨methM', cM, hmethM', -, -, -, -, -, -, hsigM⟩ := Cond.code_spec hnamed hcode
  cases hmethM.symm.trans hmethM'
  obtain ⟨c2, r2, m2, q1, q2, q3, q4, kP, hkP, hkPi⟩ := Cond.selects_spec hsel
  cases hcls.symm.trans q1
  cases (State.methodFound?_of_named hnamed hy).symm.trans q2
  cases hnamed.symm.trans q3
  have hselP : selectMethod e.platform s.vm cellB.cls mk = .method mk := by rw [Launch.admits_selectMethod X.admits]; exact q4
  obtain ⟨vm₁, X₁, hstep₁⟩ := X.invokevirtual hexec hown hlink hnamed hmethM hstM hkP hkPi hy (a := b) (cell := cellB) hcell
    (fun z h => by rw [h] at hobj; cases hobj) hselP hmethM habM hkP hkPi (g := g) hg (argsL := argsL) (rest := rest) (hlen _ hsigM) hstack hdg
  rcases hK m meth c ⟨T.setVm vm₁, locs, cells, slots⟩ { g with stack := rest } (.invokevirtual index) mk (Value.ref b :: argsL).toArray X₁ hg hsize hdg hW (X₁.named hnamed) (hpre vm₁ X₁.warmed) with ⟨v, B, X', hpost, hsteps⟩ | ⟨q, B, X', hpost, hsteps⟩
  · exact Or.inl ⟨v, vm₁, B, X₁.warmed, X', hpost, fun target h => hstep₁ _ fun acts => by rw [doInvoke_state]; exact hsteps.trans h⟩
  · exact Or.inr ⟨q, vm₁, B, X₁.warmed, X', hpost, hstep₁ _ fun acts => by rw [doInvoke_state]; exact hsteps⟩
theorem vx_callS (X : Stand p l e R s m args below meth c T locs cells slots) (hexec : p.tables.exec = Jvm.exec) {own : String} {index : Nat} {y : MethodName} {bytes : ByteArray} {maxL : Nat} {ret : Option FieldType}
    (hown : s.vm.findClass own = some m.cls) (hlink : (Cond.methodLink own index y).before args s = true) (hstat : (Cond.static y).before args s = true) (hinit : (Cond.initialized y.cls).before args s = true)
    (hcode : (Cond.code y bytes maxL ret).before args s = true) (hy : y.cls ≠ "java/lang/invoke/MethodHandle" ∧ y.cls ≠ "java/lang/invoke/VarHandle")
    {W9 : Nat} {Pre : Pt → Array Value → Prop} {Post : Pt → Array Value → Option Value → Pt → Prop} {PostX : Pt → Array Value → Addr → Pt → Prop} (hK : vx_Back l R p e below s args y 3 W9 Pre Post PostX)
    {g : JFrame} (hg : g.method = m) (hsize : g.locals.size = c.maxLocals) {argsL rest : List Value} (hlen : ∀ sig, parseMethodDescriptor y.desc = some sig → argsL.length = sig.parameters.length)
    (hstack : g.stack = argsL.reverse ++ rest) (hW : 2 * g.monitorRoom + (rest.map fun v => v.category).sum ≤ W9) (hdg : decode c.code g.pc = .ok (.invokestatic index, 3))
    (hpre : ∀ vm₁, s.WarmedH vm₁ → Pre ⟨T.setVm vm₁, locs, cells, slots⟩ argsL.toArray) :
    (∃ (v : Option Value) (vm₁ : Vm) (B : Pt), s.WarmedH vm₁ ∧ Stand p l e R s m args below meth c B.U B.locs B.cells B.slots ∧ Post ⟨T.setVm vm₁, locs, cells, slots⟩ argsL.toArray v B ∧
      ∀ target, Steps p.tables e below (B.U.setTop { g with pc := g.pc + 3, stack := v.toList ++ rest }) target → Steps p.tables e below (T.setTop g) target) ∨
    (∃ (q : Addr) (vm₁ : Vm) (B : Pt), s.WarmedH vm₁ ∧ Stand p l e R s m args below meth c B.U B.locs B.cells B.slots ∧ PostX ⟨T.setVm vm₁, locs, cells, slots⟩ argsL.toArray q B ∧
      Steps p.tables e below (T.setTop g) ((B.U.setTop { g with stack := rest }).pushFrame (.throwing q))) := by
  obtain ⟨mk, hnamed⟩ := Cond.code_named hcode
  obtain ⟨methM, cM, hmethM, -, -, -, -, -, -, hsigM⟩ := Cond.code_spec hnamed hcode
  have hstatic : methM.isStatic = true := Cond.static_spec hnamed hmethM hstat
  obtain ⟨kP, hkP, -⟩ := className_of_methodNamed hnamed
  have hinitP : kP.init = .initialized := Cond.initialized_spec (findClass_of_methodNamed hnamed) hkP hinit
  obtain ⟨vm₁, X₁, hstep₁⟩ := X.invokestatic hexec hown hlink hnamed hmethM hstatic hkP hinitP hy (g := g) hg (argsL := argsL) (rest := rest) (hlen _ hsigM) hstack hdg
  rcases hK m meth c ⟨T.setVm vm₁, locs, cells, slots⟩ { g with stack := rest } (.invokestatic index) mk argsL.toArray X₁ hg hsize hdg hW (X₁.named hnamed) (hpre vm₁ X₁.warmed) with ⟨v, B, X', hpost, hsteps⟩ | ⟨q, B, X', hpost, hsteps⟩
  · exact Or.inl ⟨v, vm₁, B, X₁.warmed, X', hpost, fun target h => hstep₁ _ fun acts => by rw [doInvoke_state]; exact hsteps.trans h⟩
  · exact Or.inr ⟨q, vm₁, B, X₁.warmed, X', hpost, hstep₁ _ fun acts => by rw [doInvoke_state]; exact hsteps⟩
end Calls
theorem vx_cls {s : State} {T : State} {vm₁ : Vm} {E : String} {k : ClassId} (hW : s.WarmedH vm₁) (h : (T.setVm vm₁).vm.findClass E = some k) : s.vm.findClass E = some k := by
  have h1 : vm₁.findClass E = some k := h
  rw [hW.alike.findClass] at h1
  exact h1
/-- the method's frame g, with q thrown over it -/
def vx_W (p : Program) (l : Launch) (e : Env) (R : Room) (s : State) (m : MethodId) (args : Array Value) (below : List Frame) (meth : Method) (c : Code) (H : Heap) (locs : List Loc) (cells slots : Nat) (Q : State → Prop) (g : JFrame) (q : Addr) : Prop :=
  ∀ T : State, T.heap = H → Stand p l e R s m args below meth c T locs cells slots → ∃ t, Steps p.tables e below ((T.setTop g).pushFrame (.throwing q)) t ∧ Q t
def vx_Run (p : Program) (l : Launch) (e : Env) (R : Room) (s : State) (m : MethodId) (args : Array Value) (below : List Frame) (meth : Method) (c : Code) (H : Heap) (locs : List Loc) (cells slots mc ms : Nat) (g : JFrame) (rest : List Value) (Qa : State → Outcome → State → Prop) (XC : String → State → State → Prop) (free : Addr → Prop) : Prop :=
  ∀ T : State, T.heap = H → Stand p l e R s m args below meth c T locs cells slots →
    (∃ (v : Option Value) (st₀ t T' : State) (L : List Loc), st₀.heap = H ∧ Stand p l e R s m args below meth c T' (locs ++ L) (cells + mc) (slots + ms) ∧ (∀ q ∈ L, free q.base) ∧ T'.heap = t.heap ∧ T'.vm = t.vm ∧ Qa st₀ (.returned v) t ∧
      Goes p e below T g T' { g with pc := g.pc + 3, stack := v.toList ++ rest }) ∨
    (∃ (q : Addr) (st₀ t T' : State) (L : List Loc) (E : String) (ce : Cell), st₀.heap = H ∧ Stand p l e R s m args below meth c T' (locs ++ L) (cells + mc) (slots + ms) ∧ (∀ z ∈ L, free z.base) ∧ T'.heap = t.heap ∧ T'.vm = t.vm ∧ XC E st₀ t ∧ t.heap[q]? = some ce ∧ ce.vm = .none ∧ s.vm.findClass E = some ce.cls ∧
      Steps p.tables e below (T.setTop g) ((T'.setTop { g with stack := rest }).pushFrame (.throwing q)))
def vx_X {S : Type} (px : S → Prop) (B : String → S → State → Prop) (A : Nat → Prop) : String → State → State → Prop := fun E st t => ∃ u : S, px u ∧ B E u t ∧ va_F A st t
section Runs
variable {p : Program} {l : Launch} {e : Env} {R : Room} {s : State} {m : MethodId} {args : Array Value} {below : List Frame} {meth : Method} {c : Code} {H : Heap} {locs : List Loc} {cells slots : Nat}
variable {y : MethodName} {bytes cc : ByteArray} {maxL nL mc ms n index : Nat} {ret : Option FieldType} {ws : List Cond} {rm : Room} {Pc : Array Value → State → Prop} {Qc : Array Value → State → Outcome → State → Prop} {XC : String → State → State → Prop} {free : Addr → Prop} {Ts : List Cond} {own C : String} {b : Addr} {As rest : List Value} {g : JFrame}
theorem vx_callBack (cb : CallB R s args own index y bytes maxL ret ws rm mc ms n) (hM : vx_Met l y ws rm Pc Qc XC mc ms free) (hbl : FrameBlind Pc) : vx_Back l R p e below s args y 3 8 (PreOf R mc ms Pc) (PostOf Qc mc ms free) (vx_Post XC mc ms free) := by
  obtain ⟨hrc, hrs, hfr, hlo, hws, hcw, -, hini, -⟩ := cb
  exact vx_back (bytes := bytes) (maxL := maxL) (ret := ret) hM hbl hrc hrs hfr hlo hws hcw (fun a' U hW => word_at hW (Or.inl (by first | rfl | simp [Cond.onTables, Cond.keeps, Cond.steady])) hini)
theorem vx_runV (S : CallFix p m c cc nL s args Ts own) (hM : vx_Met l y ws rm Pc Qc XC mc ms free) (cw : CallW R s args own C index y bytes maxL ret ws rm mc ms n) (hp : PreV s H C b Pc As)
    (hg : g.method = m) (hn : As.length = n) (hsize : g.locals.size = nL) (hstack : g.stack = As.reverse ++ .ref b :: rest) (hW : 2 * g.monitorRoom + (rest.map fun v => v.category).sum ≤ 8) (hdg : decode cc g.pc = .ok (.invokevirtual index, 3)) (hf : cells + mc ≤ R.cells ∧ slots + ms ≤ R.slots) :
    vx_Run p l e R s m args below meth c H locs cells slots mc ms g rest (Qc (Value.ref b :: As).toArray) XC free := by
  have hK : vx_Back l R p e below s args y 3 8 (PreOf R mc ms Pc) (PostOf Qc mc ms free) (vx_Post XC mc ms free) := vx_callBack cw.1 hM hp.1
  obtain ⟨⟨-, -, -, -, -, -, hcode, -, hy, hlen, hl⟩, hin, hse⟩ := cw
  obtain ⟨hx, hb, hml, ho, -⟩ := S
  obtain ⟨-, ⟨cellB, hcB, hoB, hclB⟩, hPc⟩ := hp
  intro T hT X
  rcases vx_callV X hx (C := C) (bytes := bytes) (maxL := maxL) (ret := ret) ho hl hin hse hcode hy hK (by rw [hT]; exact hcB) hoB hclB hg (hsize.trans hml.symm) (argsL := As) (rest := rest) (fun sig h => hn.trans (hlen sig h)) hstack hW (by rw [hb]; exact hdg)
    (fun vm₁ hW₁ => ⟨hf.1, hf.2, hPc (T.setVm vm₁) hT hW₁⟩) with ⟨v, vm₁, ⟨U', l2, c2, s2⟩, hW₁, X', ⟨g', mk, t, L, e1, e2, hq, h1, hL, h2, h3⟩, st⟩ | ⟨q, vm₁, ⟨U', l2, c2, s2⟩, hW₁, X', ⟨g', mk, t, L, E, ce, e1, e2, hq, hce, hcv, hcl, h1, hL, h2, h3⟩, st⟩
  · dsimp only [Pt.U, Pt.locs, Pt.cells, Pt.slots] at X' e1 e2 h1 h2 h3 st
    subst h1; subst h2; subst h3
    exact Or.inl ⟨v, (T.setVm vm₁).calling g' mk (Value.ref b :: As).toArray, t, U', L, hT, X', hL, e1, e2, hq, st⟩
  · dsimp only [Pt.U, Pt.locs, Pt.cells, Pt.slots] at X' e1 e2 h1 h2 h3 st hcl
    subst h1; subst h2; subst h3
    exact Or.inr ⟨q, (T.setVm vm₁).calling g' mk (Value.ref b :: As).toArray, t, U', L, E, ce, hT, X', hL, e1, e2, hq, hce, hcv, vx_cls hW₁ hcl, st⟩
theorem vx_runS (S : CallFix p m c cc nL s args Ts own) (hM : vx_Met l y ws rm Pc Qc XC mc ms free) (cw : CallB R s args own index y bytes maxL ret ws rm mc ms n ∧ (Cond.static y).before args s = true) (hp : PreS s H Pc As)
    (hg : g.method = m) (hn : As.length = n) (hsize : g.locals.size = nL) (hstack : g.stack = As.reverse ++ rest) (hW : 2 * g.monitorRoom + (rest.map fun v => v.category).sum ≤ 8) (hdg : decode cc g.pc = .ok (.invokestatic index, 3)) (hf : cells + mc ≤ R.cells ∧ slots + ms ≤ R.slots) :
    vx_Run p l e R s m args below meth c H locs cells slots mc ms g rest (Qc As.toArray) XC free := by
  have hK : vx_Back l R p e below s args y 3 8 (PreOf R mc ms Pc) (PostOf Qc mc ms free) (vx_Post XC mc ms free) := vx_callBack cw.1 hM hp.1
  obtain ⟨⟨-, -, -, -, -, -, hcode, hini, hy, hlen, hl⟩, hstt⟩ := cw
  obtain ⟨hx, hb, hml, ho, -⟩ := S
  intro T hT X
  rcases vx_callS X hx (bytes := bytes) (maxL := maxL) (ret := ret) ho hl hstt hini hcode hy hK hg (hsize.trans hml.symm) (argsL := As) (rest := rest) (fun sig h => hn.trans (hlen sig h)) hstack hW (by rw [hb]; exact hdg)
    (fun vm₁ hW₁ => ⟨hf.1, hf.2, hp.2 (T.setVm vm₁) hT hW₁⟩) with ⟨v, vm₁, ⟨U', l2, c2, s2⟩, hW₁, X', ⟨g', mk, t, L, e1, e2, hq, h1, hL, h2, h3⟩, st⟩ | ⟨q, vm₁, ⟨U', l2, c2, s2⟩, hW₁, X', ⟨g', mk, t, L, E, ce, e1, e2, hq, hce, hcv, hcl, h1, hL, h2, h3⟩, st⟩
  · dsimp only [Pt.U, Pt.locs, Pt.cells, Pt.slots] at X' e1 e2 h1 h2 h3 st
    subst h1; subst h2; subst h3
    exact Or.inl ⟨v, (T.setVm vm₁).calling g' mk As.toArray, t, U', L, hT, X', hL, e1, e2, hq, st⟩
  · dsimp only [Pt.U, Pt.locs, Pt.cells, Pt.slots] at X' e1 e2 h1 h2 h3 st hcl
    subst h1; subst h2; subst h3
    exact Or.inr ⟨q, (T.setVm vm₁).calling g' mk As.toArray, t, U', L, E, ce, hT, X', hL, e1, e2, hq, hce, hcv, vx_cls hW₁ hcl, st⟩
end Runs
section Rows
variable {p : Program} {l : Launch} {e : Env} {R : Room} {s : State} {m : MethodId} {args : Array Value} {below : List Frame} {meth : Method} {c : Code} {H : Heap} {locs : List Loc} {cells slots : Nat} {Q : State → Prop}
variable {mc ms : Nat} {free : Addr → Prop} {A0 A1 : Nat → Prop} {H0 : Heap} {a : Array Value} {pc : Nat} {ls : Array Slot} {st0 rest : List Value}
theorem vx_keep {st₀ t T' : State} {L : List Loc} (h0 : st₀.heap = H) (e1 : T'.heap = t.heap) (hS : va_S A0 H0 H locs) (hA : ∀ q, q < H.size → A1 q → A0 q) (hf : ∀ q, free q → A0 q) (hL : ∀ q ∈ L, free q.base) (hF : va_F A1 st₀ t) :
    H.size ≤ T'.heap.size ∧ (∀ q : Nat, q < H.size → ¬ A1 q → T'.heap[q]? = H[q]?) ∧ va_S A0 H0 T'.heap (locs ++ L) := by
  obtain ⟨hz, hk⟩ := hF
  rw [h0] at hz hk
  exact ⟨by rw [e1]; exact hz, fun q h1 h2 => by rw [e1]; exact hk q h1 h2,
    ⟨Nat.le_trans hS.1 (by rw [e1]; exact hz), fun q h1 h2 => by rw [e1, hk q (Nat.lt_of_lt_of_le h1 hS.1) (fun z => h2 (hA q (Nat.lt_of_lt_of_le h1 hS.1) z))]; exact hS.2.1 q h1 h2, fun q hq => by
      rcases List.mem_append.mp hq with h | h
      · exact hS.2.2 q h
      · exact hf _ (hL q h)⟩⟩
theorem vx_calli {S SX : Type} {post : Int32 → S → Prop} {px : SX → Prop} {B : S → State → Prop} {BX : String → SX → State → Prop} {AX : Nat → Prop} (hr : vx_Run p l e R s m args below meth c H locs cells slots mc ms (F0 m pc ls st0) rest (va_Qi post B A1 a) (vx_X px BX AX) free) (hS : va_S A0 H0 H locs) (hA : ∀ q, q < H.size → A1 q → A0 q) (hf : ∀ q, free q → A0 q) (hAX : ∀ q, q < H.size → AX q → A0 q)
    (kx : ∀ (E : String) (ce : Cell) (q9 : Addr) (u : SX) (t : State) (H1 : Heap) (locs1 : List Loc), t.heap = H1 → s.vm.Alike t.vm → px u → BX E u t → H.size ≤ H1.size → (∀ q : Nat, q < H.size → ¬ AX q → H1[q]? = H[q]?) → va_S A0 H0 H1 locs1 → H1[q9]? = some ce → ce.vm = .none → s.vm.findClass E = some ce.cls → vx_W p l e R s m args below meth c H1 locs1 (cells + mc) (slots + ms) Q (F0 m pc ls rest) q9)
    (kk : ∀ (r : Int32) (u : S) (t : State) (H1 : Heap) (locs1 : List Loc), t.heap = H1 → s.vm.Alike t.vm → post r u → B u t → H.size ≤ H1.size → (∀ q : Nat, q < H.size → ¬ A1 q → H1[q]? = H[q]?) → va_S A0 H0 H1 locs1 → W p l e R s m args below meth c H1 locs1 (cells + mc) (slots + ms) Q (F0 m (pc + 3) ls (.int r :: rest))) : W p l e R s m args below meth c H locs cells slots Q (F0 m pc ls st0) := by
  intro T hT X
  rcases hr T hT X with ⟨v, st₀, t, T', L, h0, X', hL, e1, e2, ⟨⟨r, u, hv, hp, hb⟩, hF⟩, st⟩ | ⟨q, st₀, t, T', L, E, ce, h0, X', hL, e1, e2, ⟨u, hp, hb, hF⟩, hce, hcv, hcl, st⟩
  · cases hv
    obtain ⟨k1, k2, k3⟩ := vx_keep h0 e1 hS hA hf hL hF
    obtain ⟨t2, a1, b1⟩ := kk r u t T'.heap (locs ++ L) e1.symm (by rw [← e2]; exact X'.warmed.alike) hp hb k1 k2 k3 T' rfl X'
    exact ⟨t2, st t2 a1, b1⟩
  · obtain ⟨k1, k2, k3⟩ := vx_keep h0 e1 hS hAX hf hL hF
    obtain ⟨t2, a1, b1⟩ := kx E ce q u t T'.heap (locs ++ L) e1.symm (by rw [← e2]; exact X'.warmed.alike) hp hb k1 k2 k3 (by rw [e1]; exact hce) hcv hcl T' rfl X'
    exact ⟨t2, st.trans a1, b1⟩
theorem vx_calll {S SX : Type} {post : Int64 → S → Prop} {px : SX → Prop} {B : S → State → Prop} {BX : String → SX → State → Prop} {AX : Nat → Prop} (hr : vx_Run p l e R s m args below meth c H locs cells slots mc ms (F0 m pc ls st0) rest (va_Ql post B A1 a) (vx_X px BX AX) free) (hS : va_S A0 H0 H locs) (hA : ∀ q, q < H.size → A1 q → A0 q) (hf : ∀ q, free q → A0 q) (hAX : ∀ q, q < H.size → AX q → A0 q)
    (kx : ∀ (E : String) (ce : Cell) (q9 : Addr) (u : SX) (t : State) (H1 : Heap) (locs1 : List Loc), t.heap = H1 → s.vm.Alike t.vm → px u → BX E u t → H.size ≤ H1.size → (∀ q : Nat, q < H.size → ¬ AX q → H1[q]? = H[q]?) → va_S A0 H0 H1 locs1 → H1[q9]? = some ce → ce.vm = .none → s.vm.findClass E = some ce.cls → vx_W p l e R s m args below meth c H1 locs1 (cells + mc) (slots + ms) Q (F0 m pc ls rest) q9)
    (kk : ∀ (r : Int64) (u : S) (t : State) (H1 : Heap) (locs1 : List Loc), t.heap = H1 → s.vm.Alike t.vm → post r u → B u t → H.size ≤ H1.size → (∀ q : Nat, q < H.size → ¬ A1 q → H1[q]? = H[q]?) → va_S A0 H0 H1 locs1 → W p l e R s m args below meth c H1 locs1 (cells + mc) (slots + ms) Q (F0 m (pc + 3) ls (.long r :: rest))) : W p l e R s m args below meth c H locs cells slots Q (F0 m pc ls st0) := by
  intro T hT X
  rcases hr T hT X with ⟨v, st₀, t, T', L, h0, X', hL, e1, e2, ⟨⟨r, u, hv, hp, hb⟩, hF⟩, st⟩ | ⟨q, st₀, t, T', L, E, ce, h0, X', hL, e1, e2, ⟨u, hp, hb, hF⟩, hce, hcv, hcl, st⟩
  · cases hv
    obtain ⟨k1, k2, k3⟩ := vx_keep h0 e1 hS hA hf hL hF
    obtain ⟨t2, a1, b1⟩ := kk r u t T'.heap (locs ++ L) e1.symm (by rw [← e2]; exact X'.warmed.alike) hp hb k1 k2 k3 T' rfl X'
    exact ⟨t2, st t2 a1, b1⟩
  · obtain ⟨k1, k2, k3⟩ := vx_keep h0 e1 hS hAX hf hL hF
    obtain ⟨t2, a1, b1⟩ := kx E ce q u t T'.heap (locs ++ L) e1.symm (by rw [← e2]; exact X'.warmed.alike) hp hb k1 k2 k3 (by rw [e1]; exact hce) hcv hcl T' rfl X'
    exact ⟨t2, st.trans a1, b1⟩
theorem vx_callf {S SX : Type} {post : UInt32 → S → Prop} {px : SX → Prop} {B : S → State → Prop} {BX : String → SX → State → Prop} {AX : Nat → Prop} (hr : vx_Run p l e R s m args below meth c H locs cells slots mc ms (F0 m pc ls st0) rest (va_Qf post B A1 a) (vx_X px BX AX) free) (hS : va_S A0 H0 H locs) (hA : ∀ q, q < H.size → A1 q → A0 q) (hf : ∀ q, free q → A0 q) (hAX : ∀ q, q < H.size → AX q → A0 q)
    (kx : ∀ (E : String) (ce : Cell) (q9 : Addr) (u : SX) (t : State) (H1 : Heap) (locs1 : List Loc), t.heap = H1 → s.vm.Alike t.vm → px u → BX E u t → H.size ≤ H1.size → (∀ q : Nat, q < H.size → ¬ AX q → H1[q]? = H[q]?) → va_S A0 H0 H1 locs1 → H1[q9]? = some ce → ce.vm = .none → s.vm.findClass E = some ce.cls → vx_W p l e R s m args below meth c H1 locs1 (cells + mc) (slots + ms) Q (F0 m pc ls rest) q9)
    (kk : ∀ (r : UInt32) (u : S) (t : State) (H1 : Heap) (locs1 : List Loc), t.heap = H1 → s.vm.Alike t.vm → post r u → B u t → H.size ≤ H1.size → (∀ q : Nat, q < H.size → ¬ A1 q → H1[q]? = H[q]?) → va_S A0 H0 H1 locs1 → W p l e R s m args below meth c H1 locs1 (cells + mc) (slots + ms) Q (F0 m (pc + 3) ls (.float r :: rest))) : W p l e R s m args below meth c H locs cells slots Q (F0 m pc ls st0) := by
  intro T hT X
  rcases hr T hT X with ⟨v, st₀, t, T', L, h0, X', hL, e1, e2, ⟨⟨r, u, hv, hp, hb⟩, hF⟩, st⟩ | ⟨q, st₀, t, T', L, E, ce, h0, X', hL, e1, e2, ⟨u, hp, hb, hF⟩, hce, hcv, hcl, st⟩
  · cases hv
    obtain ⟨k1, k2, k3⟩ := vx_keep h0 e1 hS hA hf hL hF
    obtain ⟨t2, a1, b1⟩ := kk r u t T'.heap (locs ++ L) e1.symm (by rw [← e2]; exact X'.warmed.alike) hp hb k1 k2 k3 T' rfl X'
    exact ⟨t2, st t2 a1, b1⟩
  · obtain ⟨k1, k2, k3⟩ := vx_keep h0 e1 hS hAX hf hL hF
    obtain ⟨t2, a1, b1⟩ := kx E ce q u t T'.heap (locs ++ L) e1.symm (by rw [← e2]; exact X'.warmed.alike) hp hb k1 k2 k3 (by rw [e1]; exact hce) hcv hcl T' rfl X'
    exact ⟨t2, st.trans a1, b1⟩
theorem vx_calld {S SX : Type} {post : UInt64 → S → Prop} {px : SX → Prop} {B : S → State → Prop} {BX : String → SX → State → Prop} {AX : Nat → Prop} (hr : vx_Run p l e R s m args below meth c H locs cells slots mc ms (F0 m pc ls st0) rest (va_Qd post B A1 a) (vx_X px BX AX) free) (hS : va_S A0 H0 H locs) (hA : ∀ q, q < H.size → A1 q → A0 q) (hf : ∀ q, free q → A0 q) (hAX : ∀ q, q < H.size → AX q → A0 q)
    (kx : ∀ (E : String) (ce : Cell) (q9 : Addr) (u : SX) (t : State) (H1 : Heap) (locs1 : List Loc), t.heap = H1 → s.vm.Alike t.vm → px u → BX E u t → H.size ≤ H1.size → (∀ q : Nat, q < H.size → ¬ AX q → H1[q]? = H[q]?) → va_S A0 H0 H1 locs1 → H1[q9]? = some ce → ce.vm = .none → s.vm.findClass E = some ce.cls → vx_W p l e R s m args below meth c H1 locs1 (cells + mc) (slots + ms) Q (F0 m pc ls rest) q9)
    (kk : ∀ (r : UInt64) (u : S) (t : State) (H1 : Heap) (locs1 : List Loc), t.heap = H1 → s.vm.Alike t.vm → post r u → B u t → H.size ≤ H1.size → (∀ q : Nat, q < H.size → ¬ A1 q → H1[q]? = H[q]?) → va_S A0 H0 H1 locs1 → W p l e R s m args below meth c H1 locs1 (cells + mc) (slots + ms) Q (F0 m (pc + 3) ls (.double r :: rest))) : W p l e R s m args below meth c H locs cells slots Q (F0 m pc ls st0) := by
  intro T hT X
  rcases hr T hT X with ⟨v, st₀, t, T', L, h0, X', hL, e1, e2, ⟨⟨r, u, hv, hp, hb⟩, hF⟩, st⟩ | ⟨q, st₀, t, T', L, E, ce, h0, X', hL, e1, e2, ⟨u, hp, hb, hF⟩, hce, hcv, hcl, st⟩
  · cases hv
    obtain ⟨k1, k2, k3⟩ := vx_keep h0 e1 hS hA hf hL hF
    obtain ⟨t2, a1, b1⟩ := kk r u t T'.heap (locs ++ L) e1.symm (by rw [← e2]; exact X'.warmed.alike) hp hb k1 k2 k3 T' rfl X'
    exact ⟨t2, st t2 a1, b1⟩
  · obtain ⟨k1, k2, k3⟩ := vx_keep h0 e1 hS hAX hf hL hF
    obtain ⟨t2, a1, b1⟩ := kx E ce q u t T'.heap (locs ++ L) e1.symm (by rw [← e2]; exact X'.warmed.alike) hp hb k1 k2 k3 (by rw [e1]; exact hce) hcv hcl T' rfl X'
    exact ⟨t2, st.trans a1, b1⟩
theorem vx_callv {S SX : Type} {post : S → Prop} {px : SX → Prop} {B : S → State → Prop} {BX : String → SX → State → Prop} {AX : Nat → Prop} (hr : vx_Run p l e R s m args below meth c H locs cells slots mc ms (F0 m pc ls st0) rest (va_Qv post B A1 a) (vx_X px BX AX) free) (hS : va_S A0 H0 H locs) (hA : ∀ q, q < H.size → A1 q → A0 q) (hf : ∀ q, free q → A0 q) (hAX : ∀ q, q < H.size → AX q → A0 q)
    (kx : ∀ (E : String) (ce : Cell) (q9 : Addr) (u : SX) (t : State) (H1 : Heap) (locs1 : List Loc), t.heap = H1 → s.vm.Alike t.vm → px u → BX E u t → H.size ≤ H1.size → (∀ q : Nat, q < H.size → ¬ AX q → H1[q]? = H[q]?) → va_S A0 H0 H1 locs1 → H1[q9]? = some ce → ce.vm = .none → s.vm.findClass E = some ce.cls → vx_W p l e R s m args below meth c H1 locs1 (cells + mc) (slots + ms) Q (F0 m pc ls rest) q9)
    (kk : ∀ (u : S) (t : State) (H1 : Heap) (locs1 : List Loc), t.heap = H1 → s.vm.Alike t.vm → post u → B u t → H.size ≤ H1.size → (∀ q : Nat, q < H.size → ¬ A1 q → H1[q]? = H[q]?) → va_S A0 H0 H1 locs1 → W p l e R s m args below meth c H1 locs1 (cells + mc) (slots + ms) Q (F0 m (pc + 3) ls (rest))) : W p l e R s m args below meth c H locs cells slots Q (F0 m pc ls st0) := by
  intro T hT X
  rcases hr T hT X with ⟨v, st₀, t, T', L, h0, X', hL, e1, e2, ⟨⟨u, hv, hp, hb⟩, hF⟩, st⟩ | ⟨q, st₀, t, T', L, E, ce, h0, X', hL, e1, e2, ⟨u, hp, hb, hF⟩, hce, hcv, hcl, st⟩
  · cases hv
    obtain ⟨k1, k2, k3⟩ := vx_keep h0 e1 hS hA hf hL hF
    obtain ⟨t2, a1, b1⟩ := kk u t T'.heap (locs ++ L) e1.symm (by rw [← e2]; exact X'.warmed.alike) hp hb k1 k2 k3 T' rfl X'
    exact ⟨t2, st t2 a1, b1⟩
  · obtain ⟨k1, k2, k3⟩ := vx_keep h0 e1 hS hAX hf hL hF
    obtain ⟨t2, a1, b1⟩ := kx E ce q u t T'.heap (locs ++ L) e1.symm (by rw [← e2]; exact X'.warmed.alike) hp hb k1 k2 k3 (by rw [e1]; exact hce) hcv hcl T' rfl X'
    exact ⟨t2, st.trans a1, b1⟩
/-- caught by the row x of this method's table; the rows ahead don't take it -/
theorem vx_catch {own name : String} {E : String} {ce : Cell} {q : Addr} (hown : s.vm.findClass own = some m.cls) (pre : List ExceptionTableEntry) (x : ExceptionTableEntry) (suf : List ExceptionTableEntry) (hsplit : c.exceptionTable.toList = pre ++ x :: suf)
    (hpass : ∀ z ∈ pre, covers z pc = false ∨ (z.catchType ≠ 0 ∧ ∃ nm : String, (Cond.classLink own z.catchType nm).before args s = true ∧ va_Nc E nm s)) (hx : covers x pc = true) (h0 : x.catchType ≠ 0)
    (hlink : (Cond.classLink own x.catchType name).before args s = true) (hcast : (Cond.castable E name).before args s = true) (hcell : H[q]? = some ce) (hv : ce.vm = .none) (hcl : s.vm.findClass E = some ce.cls)
    (kk : W p l e R s m args below meth c H locs cells slots Q (F0 m x.handlerPc ls [.ref q])) : vx_W p l e R s m args below meth c H locs cells slots Q (F0 m pc ls rest) q := by
  intro T hT X
  have hpl : e.platform.magicAccessors = ({} : Platform).magicAccessors := by rw [X.admits.platform]
  obtain ⟨c3, c4, hc3, hc4, hasg⟩ := Cond.castable_spec hcast
  cases Option.some.inj (hc3.symm.trans hcl)
  obtain ⟨c5, hc5, hcl5⟩ := Cond.classLink_spec hown hlink e.platform hpl
  cases Option.some.inj (hc4.symm.trans hc5)
  obtain ⟨vm', X', st⟩ := X.thenCaughtThrough q (g := F0 m pc ls rest) rfl (Steps.refl _) (by rw [hT]; exact hcell) (by rw [hv]; rfl) (by obtain ⟨k9, h9, -⟩ := Vm.findClass_spec hcl; exact ⟨k9, h9⟩) pre x suf hsplit
    (fun z hz => by
      rcases hpass z hz with h | ⟨hz0, nm, hl1, hn1⟩
      · exact Or.inl h
      · obtain ⟨c6, hc6, hcl6⟩ := Cond.classLink_spec hown hl1 e.platform hpl
        obtain ⟨a8, b8, h1, h2, h3⟩ := hn1
        cases Option.some.inj (h1.symm.trans hcl)
        cases Option.some.inj (h2.symm.trans hc6)
        exact Or.inr ⟨hz0, _, hcl6, h3⟩) hx (Or.inr ⟨h0, c4, hcl5, hasg⟩)
  obtain ⟨t, a1, b1⟩ := kk (T.setVm vm') hT X'
  exact ⟨t, st.trans a1, b1⟩
end Rows
section Ends
variable {p : Program} {l : Launch} {e : Env} {R : Room} {s : State} {m : MethodId} {args : Array Value} {below : List Frame} {meth : Method} {c : Code} {H : Heap} {locs : List Loc} {cells slots : Nat} {Q : State → Prop}
variable {mc ms : Nat} {free : Addr → Prop} {A0 A1 : Nat → Prop} {H0 : Heap} {a : Array Value} {ls : Array Slot} {st0 rest : List Value}
variable {Qc : Array Value → State → Outcome → State → Prop} {XC : String → State → State → Prop}
/-- what a body that may throw owes at its end -/
def vx_MQ (below : List Frame) (Qc : Array Value → State → Outcome → State → Prop) (XC : String → State → State → Prop) (a : Array Value) (s : State) (mc ms : Nat) (free : Addr → Prop) : State → Prop := fun t =>
  ∃ o, t.status = .running ∧ Ended t below o ∧ vx_Q Qc XC mc ms free a s o t
theorem vx_ret {g : JFrame} {mc ms : Nat} (k : W p l e R s m args below meth c H locs cells slots (MQ below Qc args s mc ms free) g) : W p l e R s m args below meth c H locs cells slots (vx_MQ below Qc XC args s mc ms free) g := by
  intro T hT X
  obtain ⟨t, a1, o, b1, b2, b3, b4⟩ := k T hT X
  exact ⟨t, a1, o, b1, b2, Or.inl ⟨b3, b4⟩⟩
/-- not caught here: it goes on to the caller -/
theorem vx_widen {g : JFrame} {q : Addr} {k n : Nat} (h1 : cells ≤ k) (h2 : slots ≤ n) (kk : vx_W p l e R s m args below meth c H locs k n Q g q) : vx_W p l e R s m args below meth c H locs cells slots Q g q := fun T hT X => kk T hT (stand_widen X h1 h2)
theorem vx_out {pc : Nat} {E : String} {ce : Cell} {q : Addr} {mc ms : Nat} (hout : ∀ x ∈ c.exceptionTable.toList, covers x pc = false) (hlocks : meth.locks = false) (hcell : H[q]? = some ce) (hv : ce.vm = .none) (hcl : s.vm.findClass E = some ce.cls)
    (hx : ∀ t : State, t.heap = H → s.vm.Alike t.vm → XC E s t) (hf : ∀ z ∈ locs, free z.base) (hc : cells ≤ mc) (hs : slots ≤ ms) :
    vx_W p l e R s m args below meth c H locs cells slots (vx_MQ below Qc XC args s mc ms free) (F0 m pc ls rest) q := by
  intro T hT X
  obtain ⟨st1, hrun, hend, hW, hsm⟩ := X.leaveThrown q (g := F0 m pc ls rest) rfl rfl rfl hout hlocks
  have hcell9 : (T.setFrames (.throwing q :: below)).heap[q]? = some ce := by
    show T.heap[q]? = some ce
    rw [hT]; exact hcell
  exact ⟨_, st1, .threw q, hrun, hend, Or.inr ⟨q, rfl, E, ce, locs, hx _ hT hW.alike, hcell9, hv, hcl, hW, hsm.mono hc hs, hf⟩⟩
theorem vx_frame {U : State} {k n : Nat} (h : s.sameButNew ({ U with vm := s.vm } : State) locs k n) : s.heap.size ≤ U.heap.size ∧ ∀ q : Nat, q < s.heap.size → (∀ z ∈ locs, z.base ≠ q) → U.heap[q]? = s.heap[q]? := by
  obtain ⟨-, h2, -, -, -, h6⟩ := h
  refine ⟨h2, fun q hq hz => ?_⟩
  obtain ⟨c9, e1, e2, e3, e4⟩ := h6 q _ (Array.getElem?_eq_getElem hq)
  have hs : c9.slots = (s.heap[q]).slots := Array.ext_getElem? fun i => e4 i fun hm => hz _ hm rfl
  have h9 : c9 = s.heap[q] := by
    rw [hs] at e2
    exact e2
  have e5 : U.heap[q]? = some c9 := e1
  rw [e5, h9, Array.getElem?_eq_getElem hq]
/-- the words of a throw but the four that speak of the heap -/
def vx_no (w : Cond) : Bool := decide (w ≠ .isRef (.static Bundle.tN "UNASSIGNED_STACK" Bundle.steD)) && decide (w ≠ .isRef (.static Bundle.tN "SUPPRESSED_SENTINEL" Bundle.listD)) && decide (w ≠ .laysStatic Bundle.tN "UNASSIGNED_STACK" Bundle.steD) && decide (w ≠ .laysStatic Bundle.tN "SUPPRESSED_SENTINEL" Bundle.listD)
def vx_at0 (own : String) (ic : Nat) (X : String) (names : List String) : List Cond := (Bundle.ownAtoms0 own ic X names).filter vx_no
def vx_atS (own : String) (ic : Nat) (X : String) (names : List String) : List Cond := (Bundle.ownAtoms own ic X names).filter vx_no
/-- a word that the tables alone decide, or a good one -/
def vx_ot (w : Cond) : Bool := w.onTables || goodWord w
theorem vx_ot_at {args a' : Array Value} {s U : State} {w : Cond} (hW : s.WarmedH U.vm) (hvm : s.vm = U.vm) (hg : vx_ot w = true) (h : w.before args s = true) : w.before a' U = true := by
  simp only [vx_ot, Bool.or_eq_true] at hg
  rcases hg with hg | hg
  · exact va_tabs hg hvm h
  · exact word_at hW (good_of_word hg) h
/-- a list's words: the good ones out of the method's own list, the others by premises of their own -/
theorem vx_hat {args : Array Value} {s : State} {L B : List Cond} (h1 : ∀ w ∈ L.filter goodWord, w.before args s = true) (h2 : ∀ w ∈ L.filter (fun w => !goodWord w), w ∈ B) (h3 : ∀ w ∈ B, w.before args s = true) : ∀ w ∈ L, w.before args s = true := by
  intro w hw
  by_cases g : goodWord w = true
  · exact h1 w (List.mem_filter.mpr ⟨hw, g⟩)
  · refine h3 w (h2 w (List.mem_filter.mpr ⟨hw, ?_⟩))
    show (!goodWord w) = true
    cases hgw : goodWord w
    · rfl
    · exact absurd hgw g
theorem vx_c {args : Array Value} {s : State} {w : Cond} {B : List Cond} (h : w.before args s = true) (t : ∀ w ∈ B, w.before args s = true) : ∀ w' ∈ w :: B, w'.before args s = true := fun w' h' => (List.mem_cons.mp h').elim (fun e => by rw [e]; exact h) (t w')
theorem vx_n {args : Array Value} {s : State} : ∀ w ∈ ([] : List Cond), w.before args s = true := fun _ h => nomatch h
theorem vx_own {args : Array Value} {s : State} {L : List Cond} (h1 : ∀ w ∈ L.filter vx_no, w.before args s = true)
    (hU : (Cond.isRef (.static Bundle.tN "UNASSIGNED_STACK" Bundle.steD)).before args s = true) (hN : (Cond.isRef (.static Bundle.tN "SUPPRESSED_SENTINEL" Bundle.listD)).before args s = true)
    (lU : (Cond.laysStatic Bundle.tN "UNASSIGNED_STACK" Bundle.steD).before args s = true) (lN : (Cond.laysStatic Bundle.tN "SUPPRESSED_SENTINEL" Bundle.listD).before args s = true) : ∀ w ∈ L, w.before args s = true := by
  intro w hw
  by_cases e1 : w = .isRef (.static Bundle.tN "UNASSIGNED_STACK" Bundle.steD)
  · rw [e1]; exact hU
  · by_cases e2 : w = .isRef (.static Bundle.tN "SUPPRESSED_SENTINEL" Bundle.listD)
    · rw [e2]; exact hN
    · by_cases e3 : w = .laysStatic Bundle.tN "UNASSIGNED_STACK" Bundle.steD
      · rw [e3]; exact lU
      · by_cases e4 : w = .laysStatic Bundle.tN "SUPPRESSED_SENTINEL" Bundle.listD
        · rw [e4]; exact lN
        · exact h1 w (List.mem_filter.mpr ⟨hw, by unfold vx_no; rw [decide_eq_true e1, decide_eq_true e2, decide_eq_true e3, decide_eq_true e4]; rfl⟩)
/-- where a static field lies, its class's statics cell in H -/
def vx_L (C n d : String) (A : Nat → Prop) (U : State) (H : Heap) : Prop := ∃ (c : ClassId) (k : Class) (i : Nat) (f : Field) (a : Nat) (cell : Cell), U.vm.findClass C = some c ∧ U.fieldFound? C n d = some (c, k, i, f) ∧ f.isStatic = true ∧ k.statics = some a ∧ H[a]? = some cell ∧ cell.vm.isStatics = true ∧ cell.cls = c ∧ f.slot < cell.slots.size ∧ k.staticTypes[f.slot]? = some f.type ∧ ¬ A a
theorem vx_L.moved {C n d : String} {A : Nat → Prop} {u U : State} {H : Heap} (hvm : u.vm.Alike U.vm) (h : vx_L C n d A u H) : vx_L C n d A U H := by
  obtain ⟨c, k, i, f, a, cell, h1, h2, h3, h4, h5, h6, h7, h8, h9, h10⟩ := h
  obtain ⟨k', hi', he⟩ := State.fieldFound?_setVm hvm h2
  exact ⟨c, k', i, f, a, cell, by rw [hvm.findClass]; exact h1, hi', h3, by rw [he]; exact h4, h5, h6, h7, h8, by rw [he]; exact h9, h10⟩
theorem vx_L.kept {C n d : String} {A : Nat → Prop} {U : State} {H H1 : Heap} (h : vx_L C n d A U H) (hq : ∀ a : Nat, a < H.size → ¬ A a → H1[a]? = H[a]?) : vx_L C n d A U H1 := by
  obtain ⟨c, k, i, f, a, cell, h1, h2, h3, h4, h5, h6, h7, h8, h9, h10⟩ := h
  exact ⟨c, k, i, f, a, cell, h1, h2, h3, h4, by rw [hq a (Array.getElem?_eq_some_iff.mp h5).1 h10]; exact h5, h6, h7, h8, h9, h10⟩
theorem vx_L.narrow {C n d : String} {A B : Nat → Prop} {U : State} {H : Heap} (h : vx_L C n d A U H) (hAB : ∀ q, B q → A q) : vx_L C n d B U H := by
  obtain ⟨c, k, i, f, a, cell, h1, h2, h3, h4, h5, h6, h7, h8, h9, h10⟩ := h
  exact ⟨c, k, i, f, a, cell, h1, h2, h3, h4, h5, h6, h7, h8, h9, fun z => h10 (hAB _ z)⟩
theorem vx_L.word {C n d : String} {A : Nat → Prop} {s : State} {args : Array Value} (h : vx_L C n d A s s.heap) : (Cond.laysStatic C n d).before args s = true := by
  obtain ⟨c, k, i, f, a, cell, h1, h2, h3, h4, h5, h6, h7, h8, h9, -⟩ := h
  show (Cond.laysStatic C n d).holds args s none s [] = true
  exact Cond.laysStatic_of h1 h2 h3 h4 h5 h6 h7 h8 h9
/-- .. and what it holds: null or some reference -/
def vx_Zq (C n d : String) (A : Nat → Prop) (U : State) (H : Heap) : Prop := va_Zq C n d A U H ∧ vx_L C n d A U H
theorem vx_Zq.moved {C n d : String} {A : Nat → Prop} {u U : State} {H : Heap} (hvm : u.vm.Alike U.vm) (h : vx_Zq C n d A u H) : vx_Zq C n d A U H := ⟨va_Zq.moved hvm h.1, vx_L.moved hvm h.2⟩
theorem vx_Zq.kept {C n d : String} {A : Nat → Prop} {U : State} {H H1 : Heap} (h : vx_Zq C n d A U H) (hq : ∀ a : Nat, a < H.size → ¬ A a → H1[a]? = H[a]?) : vx_Zq C n d A U H1 := ⟨va_Zq.kept h.1 hq, vx_L.kept h.2 hq⟩
theorem vx_Zq.narrow {C n d : String} {A B : Nat → Prop} {U : State} {H : Heap} (h : vx_Zq C n d A U H) (hAB : ∀ q, B q → A q) : vx_Zq C n d B U H := ⟨va_Zq.narrow h.1 hAB, vx_L.narrow h.2 hAB⟩
theorem vx_Zqof {args : Array Value} {s : State} {C n d : String} {A : Nat → Prop} (hl : (Cond.laysStatic C n d).before args s = true) (hini : (Cond.initialized C).before args s = true) (h : (Cond.isRef (.static C n d)).before args s = true) (hA : ∀ a : Nat, a < s.heap.size → ¬ A a) : vx_Zq C n d A s s.heap := by
  refine ⟨va_Zqof hl hini h hA, ?_⟩
  obtain ⟨c, k, i, f, a, cell, h1, h2, h3, h4, h5, h6, h7, h8, h9⟩ := Cond.laysStatic_spec hl
  exact ⟨c, k, i, f, a, cell, h1, h2, h3, h4, h5, h6, h7, h8, h9, hA a (Array.getElem?_eq_some_iff.mp h5).1⟩
theorem vx_isRef {C n d : String} {v : Value} {A : Nat → Prop} {s : State} {args : Array Value} (h : va_Z C n d v A s s.heap) (hv : v.isRef = true) : (Cond.isRef (.static C n d)).before args s = true := by
  obtain ⟨cf, kf, fi, f, a, cell, h1, h2, h3, h4, h5, h6, h7, -⟩ := h
  have he : (Term.static C n d).eval args s none [] s = some v := by
    simp [Term.eval, State.fieldNamed?, h1, h2, h4, h5, h6, h7]
  simp only [Cond.before, Cond.holds, Cond.value, he]
  cases v <;> simp_all [Value.isRef]
theorem vx_isRefq {C n d : String} {A : Nat → Prop} {s : State} {args : Array Value} (h : va_Zq C n d A s s.heap) : (Cond.isRef (.static C n d)).before args s = true := by
  rcases h with h | ⟨t, h⟩
  · exact vx_isRef h rfl
  · exact vx_isRef h rfl
/-- the same frame, seen from here: as if the method were called anew in this heap -/
theorem vx_rebase {T : State} (X : Stand p l e R s m args below meth c T locs cells slots) {R' : Room} (hf : R'.frames ≤ R.frames) (hl : R'.locals ≤ R.locals) (hc : cells + R'.cells ≤ R.cells) (hs : slots + R'.slots ≤ R.slots) :
    Stand p l e R' ((T.setVm s.vm).setFrames (.invoking m args :: below)) m args below meth c T [] 0 0 := by
  have htop : (T.setVm s.vm).topJava?.isSome := X.here.top
  have hF : ((T.setVm s.vm).setFrames (.invoking m args :: below)).frames = .invoking m args :: below := State.frames_setFrames _ (State.cur_lt_of_top htop)
  obtain ⟨g₀, hg0⟩ := Option.isSome_iff_exists.mp htop
  obtain ⟨r, hr⟩ := State.topJava?_eq_some.mp hg0
  have hl9 : e.platform.stackLimits (T.setVm s.vm).me = e.platform.stackLimits s.me := X.limits
  have hb9 : (T.setVm s.vm).me.stackBytes = s.me.stackBytes := X.bytes
  refine ⟨X.admits, X.cas, X.clock, hF, ?_, X.hears, X.method, X.code, X.here, X.tail, X.warmed, ?_, ?_, ?_⟩
  · have h := X.room
    have hU : ((T.setVm s.vm).setFrames (.invoking m args :: below)).localsInUse = s.localsInUse := by
      rw [State.localsInUse_invoking hF (meth := meth) (c := c) X.method X.code, State.localsInUse_invoking X.frames X.method X.code]
    simp only [State.hasRoom, Bool.and_eq_true, decide_eq_true_eq] at h ⊢
    obtain ⟨⟨⟨⟨h1, h2, h3, h4, h5, h6⟩, h7⟩, h8⟩, h9⟩ := h
    rw [X.frames, List.length_cons] at h2 h3
    have q1 := X.heapSize
    have q2 := X.used
    simp only [hF, hU, List.length_cons, State.stackLimits_setFrames, State.stackBytes_setFrames, hl9, hb9]
    refine ⟨⟨⟨⟨by omega, by omega, by omega, by omega, by omega, h6⟩, ?_⟩, ?_⟩, X.book⟩
    · show T.heap.size + R'.cells ≤ e.platform.maxCells
      omega
    · show T.slotsUsed + R'.slots ≤ e.platform.maxSlots
      omega
  · rw [State.stackLimits_setFrames]; rfl
  · rw [State.stackBytes_setFrames]; rfl
  · refine ⟨?_, Nat.le_refl _, Nat.le_refl _, ?_, ?_, fun a c9 h9 => ⟨c9, h9, rfl, rfl, fun _ _ => rfl⟩⟩
    · obtain ⟨t, ht, -⟩ := State.frames_cons hr
      show T.setVm s.vm = { ((T.setVm s.vm).setFrames (.invoking m args :: below)).setFrames (T.setVm s.vm).frames with heap := T.heap, slotsUsed := T.slotsUsed }
      rw [State.setFrames_setFrames, State.setFrames_self ht]
      rfl
    · show T.slotsUsed = T.slotsUsed + ((T.heap.toList.drop T.heap.size).map (·.slots.size)).sum
      rw [List.drop_eq_nil_of_le (Nat.le_of_eq Array.length_toList)]
      rfl
    · show ((T.heap.toList.drop T.heap.size).map (·.slots.size)).sum ≤ 0
      rw [List.drop_eq_nil_of_le (Nat.le_of_eq Array.length_toList)]
      exact Nat.le_refl _
/-- 'throw new E()': new; dup; invokespecial; athrow -/
theorem vx_throw0 {cc : ByteArray} {pc : Nat} (hexec : p.tables.exec = Jvm.exec) (hb : c.code = cc) (hl : l.stackTraces = false) {own cls : String} {names : List String} {ik ic mc ms : Nat} {A : Nat → Prop}
    (hown : s.vm.findClass own = some m.cls) (hcls : Bundle.fit cls = true) (hnames : ∀ n ∈ names, Bundle.fit n = true)
    (hk : (Cond.classLink own ik cls).before args s = true) (hini : (Cond.initialized cls).before args s = true) (hat : ∀ w ∈ vx_at0 own ic cls names, w.before args s = true)
    (hgood : ∀ w ∈ Cond.classLink own ik cls :: Cond.initialized cls :: vx_at0 own ic cls names, vx_ot w = true)
    (hU : vx_Zq Bundle.tN "UNASSIGNED_STACK" Bundle.steD A s s.heap) (hN : vx_Zq Bundle.tN "SUPPRESSED_SENTINEL" Bundle.listD A s s.heap) (hS : va_S A s.heap H locs) (hsize : ls.size = c.maxLocals)
    (d0 : decode cc pc = .ok (.new ik, 3)) (d3 : decode cc (pc + 3) = .ok (.dup, 1)) (d4 : decode cc (pc + 4) = .ok (.invokespecial ic, 3)) (d7 : decode cc (pc + 7) = .ok (.athrow, 1))
    (hout : ∀ x ∈ c.exceptionTable.toList, covers x (pc + 7) = false)
    (hRframes : names.length + 3 < R.frames) (hRlocals : (rest.map fun v => v.category).sum + (13 * (names.length + 1) + 42) ≤ R.locals) (hRcells : cells + 1 ≤ R.cells) (hRslots : slots + 6 ≤ R.slots) (hlocks : meth.locks = false)
    (hx : ∀ t : State, s.vm.Alike t.vm → H.size ≤ t.heap.size → (∀ q : Nat, q < H.size → t.heap[q]? = H[q]?) → XC cls s t)
    (hf : ∀ z ∈ locs, free z.base) (hc : cells + 1 ≤ mc) (hs : slots + 6 ≤ ms) :
    W p l e R s m args below meth c H locs cells slots (vx_MQ below Qc XC args s mc ms free) (F0 m pc ls rest) := by
  intro T hT X
  have htr : e.platform.stackTraces = false := (show e.platform.stackTraces = l.stackTraces by rw [X.admits.platform]).trans hl
  have Y := vx_rebase X (R' := { frames := R.frames, locals := R.locals, cells := 1, slots := 6 }) (Nat.le_refl _) (Nat.le_refl _) hRcells hRslots
  obtain ⟨s', hA⟩ : ∃ z, z = (T.setVm s.vm).setFrames (.invoking m args :: below) := ⟨_, rfl⟩
  rw [← hA] at Y
  have hvm : s'.vm = s.vm := by rw [hA]; rfl
  have hhp : s'.heap = H := by rw [hA]; exact hT
  have hW0 : s.WarmedH s'.vm := by rw [hvm]; exact State.WarmedH.refl s
  have hat' : ∀ w ∈ vx_at0 own ic cls names, w.before args s' = true := fun w hw => vx_ot_at hW0 hvm.symm (hgood w (List.mem_cons_of_mem _ (List.mem_cons_of_mem _ hw))) (hat w hw)
  have hk' : (Cond.classLink own ik cls).before args s' = true := vx_ot_at hW0 hvm.symm (hgood _ List.mem_cons_self) hk
  have hini' : (Cond.initialized cls).before args s' = true := vx_ot_at hW0 hvm.symm (hgood _ (List.mem_cons_of_mem _ List.mem_cons_self)) hini
  have hU' : vx_Zq Bundle.tN "UNASSIGNED_STACK" Bundle.steD A s' s'.heap := by rw [hhp]; exact vx_Zq.moved hW0.alike (hU.kept hS.2.1)
  have hN' : vx_Zq Bundle.tN "SUPPRESSED_SENTINEL" Bundle.listD A s' s'.heap := by rw [hhp]; exact vx_Zq.moved hW0.alike (hN.kept hS.2.1)
  have h : ∀ w ∈ Bundle.ownAtoms0 own ic cls names, w.before args s' = true := vx_own hat' (vx_isRefq hU'.1) (vx_isRefq hN'.1) hU'.2.word hN'.2.word
  have hown' : s'.vm.findClass own = some m.cls := by rw [hvm]; exact hown
  have hins : (Cond.instantiable cls 6).before args s' = true := h _ (by simp [Bundle.ownAtoms0])
  obtain ⟨vm₁, cX, kX, hfX, hkX, -, -, X₁, st1⟩ := Y.newCold hexec (own := own) (C := cls) (index := ik) (n := 6) hown' hk' hins hini'
    (g := F0 m pc ls rest) rfl (by rw [hb]; exact d0) (Nat.le_refl _) (Nat.le_refl _)
  generalize hT1 : (T.setVm vm₁).pushCell { cls := cX, slots := kX.instanceTypes.map defaultValue, vm := .none } = T1 at X₁ st1
  have hcat : (Value.ref T.heap.size).category = 1 := rfl
  have hcellA : T1.heap[T.heap.size]? = some (freshCell cX kX) := by rw [← hT1]; exact State.heap_pushCell_size _ _
  have d3' : decode c.code (pc + 3) = .ok (.dup, 1) := by rw [hb]; exact d3
  obtain ⟨U, hsteps, hrun, hend, hW, hsame, ce, hce, hO⟩ := X₁.ctorThrow0 hexec htr (own := own) (cls := cls) (names := names) (ic := ic) hown' hcls hnames h (fun x hx => nomatch hx) hfX hkX hcellA (by rw [hhp, hT]; exact Nat.le_refl _)
    (g := { method := m, pc := pc + 4, locals := ls, stack := .ref T.heap.size :: .ref T.heap.size :: rest, locked := none }) rfl hsize rfl rfl (rest := rest) rfl
    (by rw [hb]; exact d4) (by rw [hb]; exact d7) hout hRframes (by simp only [List.map_cons, List.sum_cons, hcat]; omega) hlocks
  obtain ⟨f1, f2⟩ := vx_frame hsame
  rw [hhp] at f1 f2
  have hWs : s.WarmedH U.vm := State.WarmedH.trans hW0 hW
  have hcl : s.vm.findClass cls = some ce.cls := by
    have h9 := hO.cls
    rw [hvm] at h9
    exact h9
  have hall : s.sameButNew ({ U with vm := s.vm } : State) locs mc ms := by
    subst hA
    obtain ⟨e1, e2⟩ := hsame
    rw [State.setFrames_setFrames] at e1
    have h2 : (T.setVm s.vm).sameButNew ({ U with vm := s.vm } : State) [] (0 + 1) (0 + 6) := ⟨e1, e2⟩
    have h3 := X.same.trans h2
    rw [List.append_nil] at h3
    exact h3.mono hc hs
  refine ⟨U, ?_, .threw T.heap.size, hrun, hend, Or.inr ⟨T.heap.size, rfl, cls, ce, locs, hx U hWs.alike f1 (fun q hq => f2 q hq (fun z hz => nomatch hz)), hce, hO.vm, hcl, hWs, hall, hf⟩⟩
  refine st1 _ ?_
  show Steps p.tables e below (T1.setTop { method := m, pc := pc + 3, locals := ls, stack := .ref T.heap.size :: rest, locked := none }) _
  jvm_step X₁.here [X₁.here.top, hexec, d3', Value.category]
  exact hsteps
/-- 'throw new E("text")': new; dup; ldc; invokespecial; athrow -/
theorem vx_throwS {cc : ByteArray} {pc : Nat} (hexec : p.tables.exec = Jvm.exec) (hb : c.code = cc) (hl : l.stackTraces = false) {own cls text : String} {names : List String} {ik is ic mc ms sa : Nat} {A : Nat → Prop}
    (hown : s.vm.findClass own = some m.cls) (hcls : Bundle.fit cls = true) (hnames : ∀ n ∈ names, Bundle.fit n = true)
    (hk : (Cond.classLink own ik cls).before args s = true) (hini : (Cond.initialized cls).before args s = true) (hstr : vk_R own is text sa s) (hat : ∀ w ∈ vx_atS own ic cls names, w.before args s = true)
    (hgood : ∀ w ∈ Cond.classLink own ik cls :: Cond.initialized cls :: vx_atS own ic cls names, vx_ot w = true)
    (hU : vx_Zq Bundle.tN "UNASSIGNED_STACK" Bundle.steD A s s.heap) (hN : vx_Zq Bundle.tN "SUPPRESSED_SENTINEL" Bundle.listD A s s.heap) (hS : va_S A s.heap H locs) (hsize : ls.size = c.maxLocals)
    (d0 : decode cc pc = .ok (.new ik, 3)) (d3 : decode cc (pc + 3) = .ok (.dup, 1)) (d4 : decode cc (pc + 4) = .ok (.ldc is, 2)) (d6 : decode cc (pc + 6) = .ok (.invokespecial ic, 3)) (d9 : decode cc (pc + 9) = .ok (.athrow, 1))
    (hout : ∀ x ∈ c.exceptionTable.toList, covers x (pc + 9) = false)
    (hRframes : names.length + 3 < R.frames) (hRlocals : (rest.map fun v => v.category).sum + (13 * (names.length + 1) + 43) ≤ R.locals) (hRcells : cells + 1 ≤ R.cells) (hRslots : slots + 6 ≤ R.slots) (hlocks : meth.locks = false)
    (hx : ∀ t : State, s.vm.Alike t.vm → H.size ≤ t.heap.size → (∀ q : Nat, q < H.size → t.heap[q]? = H[q]?) → XC cls s t)
    (hf : ∀ z ∈ locs, free z.base) (hc : cells + 1 ≤ mc) (hs : slots + 6 ≤ ms) :
    W p l e R s m args below meth c H locs cells slots (vx_MQ below Qc XC args s mc ms free) (F0 m pc ls rest) := by
  intro T hT X
  have htr : e.platform.stackTraces = false := (show e.platform.stackTraces = l.stackTraces by rw [X.admits.platform]).trans hl
  have Y := vx_rebase X (R' := { frames := R.frames, locals := R.locals, cells := 1, slots := 6 }) (Nat.le_refl _) (Nat.le_refl _) hRcells hRslots
  obtain ⟨s', hA⟩ : ∃ z, z = (T.setVm s.vm).setFrames (.invoking m args :: below) := ⟨_, rfl⟩
  rw [← hA] at Y
  have hvm : s'.vm = s.vm := by rw [hA]; rfl
  have hhp : s'.heap = H := by rw [hA]; exact hT
  have hW0 : s.WarmedH s'.vm := by rw [hvm]; exact State.WarmedH.refl s
  have hat' : ∀ w ∈ vx_atS own ic cls names, w.before args s' = true := fun w hw => vx_ot_at hW0 hvm.symm (hgood w (List.mem_cons_of_mem _ (List.mem_cons_of_mem _ hw))) (hat w hw)
  have hk' : (Cond.classLink own ik cls).before args s' = true := vx_ot_at hW0 hvm.symm (hgood _ List.mem_cons_self) hk
  have hini' : (Cond.initialized cls).before args s' = true := vx_ot_at hW0 hvm.symm (hgood _ (List.mem_cons_of_mem _ List.mem_cons_self)) hini
  have hU' : vx_Zq Bundle.tN "UNASSIGNED_STACK" Bundle.steD A s' s'.heap := by rw [hhp]; exact vx_Zq.moved hW0.alike (hU.kept hS.2.1)
  have hN' : vx_Zq Bundle.tN "SUPPRESSED_SENTINEL" Bundle.listD A s' s'.heap := by rw [hhp]; exact vx_Zq.moved hW0.alike (hN.kept hS.2.1)
  have h : ∀ w ∈ Bundle.ownAtoms own ic cls names, w.before args s' = true := vx_own hat' (vx_isRefq hU'.1) (vx_isRefq hN'.1) hU'.2.word hN'.2.word
  have hown' : s'.vm.findClass own = some m.cls := by rw [hvm]; exact hown
  have hins : (Cond.instantiable cls 6).before args s' = true := h _ (by simp [Bundle.ownAtoms])
  obtain ⟨vm₁, cX, kX, hfX, hkX, -, -, X₁, st1⟩ := Y.newCold hexec (own := own) (C := cls) (index := ik) (n := 6) hown' hk' hins hini'
    (g := F0 m pc ls rest) rfl (by rw [hb]; exact d0) (Nat.le_refl _) (Nat.le_refl _)
  generalize hT1 : (T.setVm vm₁).pushCell { cls := cX, slots := kX.instanceTypes.map defaultValue, vm := .none } = T1 at X₁ st1
  have hcat : (Value.ref T.heap.size).category = 1 := rfl
  have hcellA : T1.heap[T.heap.size]? = some (freshCell cX kX) := by rw [← hT1]; exact State.heap_pushCell_size _ _
  have d3' : decode c.code (pc + 3) = .ok (.dup, 1) := by rw [hb]; exact d3
  have d4' : decode c.code (pc + 4) = .ok (.ldc is, 2) := by rw [hb]; exact d4
  have hstr' : vk_R own is text sa s' := vk_R.warm hW0 hstr
  obtain ⟨U, hsteps, hrun, hend, hW, hsame, ce, hce, hO⟩ := X₁.ctorThrowS hexec htr (own := own) (cls := cls) (names := names) (ic := ic) hown' hcls hnames h (fun x hx => nomatch hx) hfX hkX hcellA (by rw [hhp, hT]; exact Nat.le_refl _) (msg := .ref sa) rfl
    (g := { method := m, pc := pc + 6, locals := ls, stack := .ref sa :: .ref T.heap.size :: .ref T.heap.size :: rest, locked := none }) rfl hsize rfl rfl (rest := rest) rfl
    (by rw [hb]; exact d6) (by rw [hb]; exact d9) hout hRframes (by simp only [List.map_cons, List.sum_cons, hcat]; omega) hlocks
  obtain ⟨f1, f2⟩ := vx_frame hsame
  rw [hhp] at f1 f2
  have hWs : s.WarmedH U.vm := State.WarmedH.trans hW0 hW
  have hcl : s.vm.findClass cls = some ce.cls := by
    have h9 := hO.cls
    rw [hvm] at h9
    exact h9
  have hall : s.sameButNew ({ U with vm := s.vm } : State) locs mc ms := by
    subst hA
    obtain ⟨e1, e2⟩ := hsame
    rw [State.setFrames_setFrames] at e1
    have h2 : (T.setVm s.vm).sameButNew ({ U with vm := s.vm } : State) [] (0 + 1) (0 + 6) := ⟨e1, e2⟩
    have h3 := X.same.trans h2
    rw [List.append_nil] at h3
    exact h3.mono hc hs
  refine ⟨U, ?_, .threw T.heap.size, hrun, hend, Or.inr ⟨T.heap.size, rfl, cls, ce, locs, hx U hWs.alike f1 (fun q hq => f2 q hq (fun z hz => nomatch hz)), hce, hO.vm, hcl, hWs, hall, hf⟩⟩
  refine st1 _ ?_
  show Steps p.tables e below (T1.setTop { method := m, pc := pc + 3, locals := ls, stack := .ref T.heap.size :: rest, locked := none }) _
  jvm_step X₁.here [X₁.here.top, hexec, d3', Value.category]
  exact X₁.ldcString hexec (own := own) (text := text) (index := is) (a := sa) hown' hstr'.1 hstr'.2
    (g := { method := m, pc := pc + 4, locals := ls, stack := .ref T.heap.size :: .ref T.heap.size :: rest, locked := none }) rfl d4' _ hsteps
/-- 'throw new E("text")', the text by a wide index -/
theorem vx_throwSW {cc : ByteArray} {pc : Nat} (hexec : p.tables.exec = Jvm.exec) (hb : c.code = cc) (hl : l.stackTraces = false) {own cls text : String} {names : List String} {ik is ic mc ms sa : Nat} {A : Nat → Prop}
    (hown : s.vm.findClass own = some m.cls) (hcls : Bundle.fit cls = true) (hnames : ∀ n ∈ names, Bundle.fit n = true)
    (hk : (Cond.classLink own ik cls).before args s = true) (hini : (Cond.initialized cls).before args s = true) (hstr : vk_R own is text sa s) (hat : ∀ w ∈ vx_atS own ic cls names, w.before args s = true)
    (hgood : ∀ w ∈ Cond.classLink own ik cls :: Cond.initialized cls :: vx_atS own ic cls names, vx_ot w = true)
    (hU : vx_Zq Bundle.tN "UNASSIGNED_STACK" Bundle.steD A s s.heap) (hN : vx_Zq Bundle.tN "SUPPRESSED_SENTINEL" Bundle.listD A s s.heap) (hS : va_S A s.heap H locs) (hsize : ls.size = c.maxLocals)
    (d0 : decode cc pc = .ok (.new ik, 3)) (d3 : decode cc (pc + 3) = .ok (.dup, 1)) (d4 : decode cc (pc + 4) = .ok (.ldc_w is, 3)) (d7 : decode cc (pc + 7) = .ok (.invokespecial ic, 3)) (d10 : decode cc (pc + 10) = .ok (.athrow, 1))
    (hout : ∀ x ∈ c.exceptionTable.toList, covers x (pc + 10) = false)
    (hRframes : names.length + 3 < R.frames) (hRlocals : (rest.map fun v => v.category).sum + (13 * (names.length + 1) + 43) ≤ R.locals) (hRcells : cells + 1 ≤ R.cells) (hRslots : slots + 6 ≤ R.slots) (hlocks : meth.locks = false)
    (hx : ∀ t : State, s.vm.Alike t.vm → H.size ≤ t.heap.size → (∀ q : Nat, q < H.size → t.heap[q]? = H[q]?) → XC cls s t)
    (hf : ∀ z ∈ locs, free z.base) (hc : cells + 1 ≤ mc) (hs : slots + 6 ≤ ms) :
    W p l e R s m args below meth c H locs cells slots (vx_MQ below Qc XC args s mc ms free) (F0 m pc ls rest) := by
  intro T hT X
  have htr : e.platform.stackTraces = false := (show e.platform.stackTraces = l.stackTraces by rw [X.admits.platform]).trans hl
  have Y := vx_rebase X (R' := { frames := R.frames, locals := R.locals, cells := 1, slots := 6 }) (Nat.le_refl _) (Nat.le_refl _) hRcells hRslots
  obtain ⟨s', hA⟩ : ∃ z, z = (T.setVm s.vm).setFrames (.invoking m args :: below) := ⟨_, rfl⟩
  rw [← hA] at Y
  have hvm : s'.vm = s.vm := by rw [hA]; rfl
  have hhp : s'.heap = H := by rw [hA]; exact hT
  have hW0 : s.WarmedH s'.vm := by rw [hvm]; exact State.WarmedH.refl s
  have hat' : ∀ w ∈ vx_atS own ic cls names, w.before args s' = true := fun w hw => vx_ot_at hW0 hvm.symm (hgood w (List.mem_cons_of_mem _ (List.mem_cons_of_mem _ hw))) (hat w hw)
  have hk' : (Cond.classLink own ik cls).before args s' = true := vx_ot_at hW0 hvm.symm (hgood _ List.mem_cons_self) hk
  have hini' : (Cond.initialized cls).before args s' = true := vx_ot_at hW0 hvm.symm (hgood _ (List.mem_cons_of_mem _ List.mem_cons_self)) hini
  have hU' : vx_Zq Bundle.tN "UNASSIGNED_STACK" Bundle.steD A s' s'.heap := by rw [hhp]; exact vx_Zq.moved hW0.alike (hU.kept hS.2.1)
  have hN' : vx_Zq Bundle.tN "SUPPRESSED_SENTINEL" Bundle.listD A s' s'.heap := by rw [hhp]; exact vx_Zq.moved hW0.alike (hN.kept hS.2.1)
  have h : ∀ w ∈ Bundle.ownAtoms own ic cls names, w.before args s' = true := vx_own hat' (vx_isRefq hU'.1) (vx_isRefq hN'.1) hU'.2.word hN'.2.word
  have hown' : s'.vm.findClass own = some m.cls := by rw [hvm]; exact hown
  have hins : (Cond.instantiable cls 6).before args s' = true := h _ (by simp [Bundle.ownAtoms])
  obtain ⟨vm₁, cX, kX, hfX, hkX, -, -, X₁, st1⟩ := Y.newCold hexec (own := own) (C := cls) (index := ik) (n := 6) hown' hk' hins hini'
    (g := F0 m pc ls rest) rfl (by rw [hb]; exact d0) (Nat.le_refl _) (Nat.le_refl _)
  generalize hT1 : (T.setVm vm₁).pushCell { cls := cX, slots := kX.instanceTypes.map defaultValue, vm := .none } = T1 at X₁ st1
  have hcat : (Value.ref T.heap.size).category = 1 := rfl
  have hcellA : T1.heap[T.heap.size]? = some (freshCell cX kX) := by rw [← hT1]; exact State.heap_pushCell_size _ _
  have d3' : decode c.code (pc + 3) = .ok (.dup, 1) := by rw [hb]; exact d3
  have d4' : decode c.code (pc + 4) = .ok (.ldc_w is, 3) := by rw [hb]; exact d4
  have hstr' : vk_R own is text sa s' := vk_R.warm hW0 hstr
  obtain ⟨U, hsteps, hrun, hend, hW, hsame, ce, hce, hO⟩ := X₁.ctorThrowS hexec htr (own := own) (cls := cls) (names := names) (ic := ic) hown' hcls hnames h (fun x hx => nomatch hx) hfX hkX hcellA (by rw [hhp, hT]; exact Nat.le_refl _) (msg := .ref sa) rfl
    (g := { method := m, pc := pc + 7, locals := ls, stack := .ref sa :: .ref T.heap.size :: .ref T.heap.size :: rest, locked := none }) rfl hsize rfl rfl (rest := rest) rfl
    (by rw [hb]; exact d7) (by rw [hb]; exact d10) hout hRframes (by simp only [List.map_cons, List.sum_cons, hcat]; omega) hlocks
  obtain ⟨f1, f2⟩ := vx_frame hsame
  rw [hhp] at f1 f2
  have hWs : s.WarmedH U.vm := State.WarmedH.trans hW0 hW
  have hcl : s.vm.findClass cls = some ce.cls := by
    have h9 := hO.cls
    rw [hvm] at h9
    exact h9
  have hall : s.sameButNew ({ U with vm := s.vm } : State) locs mc ms := by
    subst hA
    obtain ⟨e1, e2⟩ := hsame
    rw [State.setFrames_setFrames] at e1
    have h2 : (T.setVm s.vm).sameButNew ({ U with vm := s.vm } : State) [] (0 + 1) (0 + 6) := ⟨e1, e2⟩
    have h3 := X.same.trans h2
    rw [List.append_nil] at h3
    exact h3.mono hc hs
  refine ⟨U, ?_, .threw T.heap.size, hrun, hend, Or.inr ⟨T.heap.size, rfl, cls, ce, locs, hx U hWs.alike f1 (fun q hq => f2 q hq (fun z hz => nomatch hz)), hce, hO.vm, hcl, hWs, hall, hf⟩⟩
  refine st1 _ ?_
  show Steps p.tables e below (T1.setTop { method := m, pc := pc + 3, locals := ls, stack := .ref T.heap.size :: rest, locked := none }) _
  jvm_step X₁.here [X₁.here.top, hexec, d3', Value.category]
  exact X₁.ldcStringW hexec (own := own) (text := text) (index := is) (a := sa) hown' hstr'.1 hstr'.2
    (g := { method := m, pc := pc + 4, locals := ls, stack := .ref T.heap.size :: .ref T.heap.size :: rest, locked := none }) rfl d4' _ hsteps
end Ends
section Bodies
variable {l : Launch}
theorem vx_ofW {y : MethodName} {ws ws' : List Cond} {rm : Room} {Pc : Array Value → State → Prop} {Qc : Array Value → State → Outcome → State → Prop} {XC : String → State → State → Prop} {mc ms : Nat} {free : Addr → Prop} {cc : ByteArray} {maxL : Nat} {ret : Option FieldType}
    (hy : plainName y.cls = true) (hw : ws = Cond.code y cc maxL ret :: ws')
    (body : ∀ p e s m args below meth c s₁, BodyLoose p l y (headSpec ws rm) cc maxL ret e s m args below meth c s₁ → c.maxLocals = maxL → (∀ x ∈ c.exceptionTable.toList, False) → Pc args s →
      W p l e (headSpec ws rm).room s m args below meth c s.heap [] 0 0 (vx_MQ below Qc XC args s mc ms free) (entryFrame m args maxL)) : vx_Met l y ws rm Pc Qc XC mc ms free := by
  refine MetFree.of_bodyS (code := cc) (maxLocals := maxL) (ret := ret) hy ?_ ?_
  · intro args s m h hn
    obtain ⟨meth, c, h1, h2, h3, h4, h5, h6, -, -⟩ := Cond.code_spec hn (atoms_spec (ws := ws) h _ (by rw [hw]; exact List.mem_cons_self))
    exact ⟨meth, c, h1, h2, h3, h4, h5, h6⟩
  · intro p e s m args below meth c s₁ B hml hP _
    have hh0 : s₁.heap = s.heap := by rw [B.state]; rfl
    have ht : ∀ x ∈ c.exceptionTable.toList, False := by
      obtain ⟨meth9, c9, h1, h2, -, -, -, -, h7, -⟩ := Cond.code_spec B.named (atoms_spec (ws := ws) B.pre _ (by rw [hw]; exact List.mem_cons_self))
      cases Option.some.inj (h1.symm.trans B.method)
      cases Option.some.inj (h2.symm.trans (Stand.of_body B).code)
      intro x hx
      rw [Array.isEmpty_iff.mp h7] at hx
      cases hx
    obtain ⟨t, a1, o, b1, b2, b3⟩ := body p e s m args below meth c s₁ B hml ht hP s₁ hh0 (Stand.of_body B)
    exact ⟨t, o, a1, b1, b2, b3⟩
/-- the table of a body with handlers -/
theorem vx_table {p : Program} {x y : MethodName} {S : Spec} {cc bytes : ByteArray} {maxL maxL' : Nat} {ret ret' : Option FieldType} {e : Env} {s s₁ : State} {m : MethodId} {args : Array Value} {below : List Frame} {meth : Method} {c : Code} {hh : List (Nat × Nat × Nat × Nat)}
    (B : BodyLoose p l y S cc maxL ret e s m args below meth c s₁) (h : (Cond.codeWith y bytes maxL' ret' hh).before args s = true) : c.exceptionTable.toList = tableOf hh := by
  obtain ⟨m9, meth9, c9, hn9, h1, h2, -, -, h6, -⟩ := Cond.codeWith_spec h
  cases Option.some.inj (hn9.symm.trans B.named)
  cases Option.some.inj (h1.symm.trans B.method)
  cases Option.some.inj (h2.symm.trans (Stand.of_body B).code)
  rw [← h6, table_eq]
end Bodies
end VXA
/-! ===== END ===== -/
/-! ===== BEGIN a static call of a method with an exception table ===== -/
section VXS
variable {p : Program} {l : Launch} {e : Env} {R : Room} {s : State} {m : MethodId} {args : Array Value} {below : List Frame} {meth : Method} {c : Code} {T : State} {H : Heap} {locs : List Loc} {cells slots : Nat}
abbrev vx_CSW (R : Room) (s : State) (args : Array Value) (own : String) (index : Nat) (y : MethodName) (bytes : ByteArray) (maxL : Nat) (ret : Option FieldType) (hh : List (Nat × Nat × Nat × Nat)) (ws : List Cond) (rm : Room) (mc ms n : Nat) : Prop :=
  (rm.cells = mc ∧ rm.slots = ms ∧ rm.frames + 1 ≤ R.frames ∧ 8 + (maxL + 11) + rm.locals ≤ R.locals ∧ (∀ w ∈ ws, ∀ (a' : Array Value) (U : State), s.WarmedH U.vm → w.before a' U = true) ∧ Cond.codeWith y bytes maxL ret hh ∈ ws) ∧
  (Cond.codeWith y bytes maxL ret hh).before args s = true ∧ (Cond.initialized y.cls).before args s = true ∧ (y.cls ≠ "java/lang/invoke/MethodHandle" ∧ y.cls ≠ "java/lang/invoke/VarHandle") ∧
  (∀ sig, parseMethodDescriptor y.desc = some sig → n = sig.parameters.length) ∧ (Cond.methodLink own index y).before args s = true ∧ (Cond.static y).before args s = true
theorem vx_cwSW {own : String} {index maxL mc ms : Nat} {y : MethodName} {bytes : ByteArray} {ret : Option FieldType} {hh : List (Nat × Nat × Nat × Nat)} {Ts ws ws' : List Cond} {rm : Room} (n : Nat) (ht : ∀ w ∈ Ts, w.before args s = true) (hT : GoodIn Ts (va_wsS own index y ws)) (hw : ws = Cond.codeWith y bytes maxL ret hh :: ws') (hrc : rm.cells = mc) (hrs : rm.slots = ms)
    (hd : y.cls ≠ "java/lang/invoke/MethodHandle" ∧ y.cls ≠ "java/lang/invoke/VarHandle" ∧ (parseMethodDescriptor y.desc).map (fun d => d.parameters.length) = some n) (hR : rm.frames + 1 ≤ R.frames ∧ 8 + (maxL + 11) + rm.locals ≤ R.locals) :
    vx_CSW R s args own index y bytes maxL ret hh ws rm mc ms n := by
  have ok : ∀ w ∈ va_wsS own index y ws, w.before args s = true := fun w h => ht w (hT w h).1
  have hG : GoodIn Ts ws := fun w h => hT w (by unfold va_wsS; exact List.mem_append_right _ h)
  have hc : Cond.codeWith y bytes maxL ret hh ∈ ws := by rw [hw]; exact List.mem_cons_self
  refine ⟨⟨hrc, hrs, hR.1, hR.2, pay_in ht hG, hc⟩, ht _ (hG _ hc).1, ok _ (by simp [va_wsS]), ⟨hd.1, hd.2.1⟩, fun sig h => ?_, ok _ (by simp [va_wsS]), ok _ (by simp [va_wsS])⟩
  have h2 := hd.2.2
  rw [h] at h2
  exact (Option.some.inj h2).symm
theorem vx_callSW (X : Stand p l e R s m args below meth c T locs cells slots) (hexec : p.tables.exec = Jvm.exec) {own : String} {index : Nat} {y : MethodName} {bytes : ByteArray} {maxL : Nat} {ret : Option FieldType} {hh : List (Nat × Nat × Nat × Nat)}
    (hown : s.vm.findClass own = some m.cls) (hlink : (Cond.methodLink own index y).before args s = true) (hstat : (Cond.static y).before args s = true) (hinit : (Cond.initialized y.cls).before args s = true)
    (hcode : (Cond.codeWith y bytes maxL ret hh).before args s = true) (hy : y.cls ≠ "java/lang/invoke/MethodHandle" ∧ y.cls ≠ "java/lang/invoke/VarHandle")
    {W9 : Nat} {Pre : Pt → Array Value → Prop} {Post : Pt → Array Value → Option Value → Pt → Prop} (hK : Back l R p e below s args y 3 W9 Pre Post)
    {g : JFrame} (hg : g.method = m) (hsize : g.locals.size = c.maxLocals) {argsL rest : List Value} (hlen : ∀ sig, parseMethodDescriptor y.desc = some sig → argsL.length = sig.parameters.length)
    (hstack : g.stack = argsL.reverse ++ rest) (hW : 2 * g.monitorRoom + (rest.map fun v => v.category).sum ≤ W9) (hdg : decode c.code g.pc = .ok (.invokestatic index, 3))
    (hpre : ∀ vm₁, s.WarmedH vm₁ → Pre ⟨T.setVm vm₁, locs, cells, slots⟩ argsL.toArray) :
    ∃ (v : Option Value) (vm₁ : Vm) (B : Pt), s.WarmedH vm₁ ∧ Stand p l e R s m args below meth c B.U B.locs B.cells B.slots ∧ Post ⟨T.setVm vm₁, locs, cells, slots⟩ argsL.toArray v B ∧
      ∀ target, Steps p.tables e below (B.U.setTop { g with pc := g.pc + 3, stack := v.toList ++ rest }) target → Steps p.tables e below (T.setTop g) target := by
  obtain ⟨mk, methM, cM, hnamed, hmethM, -, -, -, -, -, -, hsigM⟩ := Cond.codeWith_spec hcode
  have hstatic : methM.isStatic = true := Cond.static_spec hnamed hmethM hstat
  obtain ⟨kP, hkP, -⟩ := className_of_methodNamed hnamed
  have hinitP : kP.init = .initialized := Cond.initialized_spec (findClass_of_methodNamed hnamed) hkP hinit
  obtain ⟨vm₁, X₁, hstep₁⟩ := X.invokestatic hexec hown hlink hnamed hmethM hstatic hkP hinitP hy (g := g) hg (argsL := argsL) (rest := rest) (hlen _ hsigM) hstack hdg
  obtain ⟨v, B, X', hpost, hsteps⟩ := hK m meth c ⟨T.setVm vm₁, locs, cells, slots⟩ { g with stack := rest } (.invokestatic index) mk argsL.toArray X₁ hg hsize hdg hW (X₁.named hnamed) (hpre vm₁ X₁.warmed)
  exact ⟨v, vm₁, B, X₁.warmed, X', hpost, fun target h => hstep₁ _ fun acts => by rw [doInvoke_state]; exact hsteps.trans h⟩
theorem vx_runSW {y : MethodName} {bytes cc : ByteArray} {maxL nL mc ms n index : Nat} {ret : Option FieldType} {hh : List (Nat × Nat × Nat × Nat)} {ws : List Cond} {rm : Room} {Pc : Array Value → State → Prop} {Qc : Array Value → State → Outcome → State → Prop} {free : Addr → Prop} {Ts : List Cond} {own : String} {As rest : List Value} {g : JFrame}
    (S : CallFix p m c cc nL s args Ts own) (hM : Met l y ws rm Pc Qc mc ms free) (cw : vx_CSW R s args own index y bytes maxL ret hh ws rm mc ms n) (hp : PreS s H Pc As)
    (hg : g.method = m) (hn : As.length = n) (hsize : g.locals.size = nL) (hstack : g.stack = As.reverse ++ rest) (hW : 2 * g.monitorRoom + (rest.map fun v => v.category).sum ≤ 8) (hdg : decode cc g.pc = .ok (.invokestatic index, 3)) (hf : cells + mc ≤ R.cells ∧ slots + ms ≤ R.slots) :
    va_Run p l e R s m args below meth c H locs cells slots mc ms g rest (Qc As.toArray) (free) := by
  obtain ⟨⟨hrc, hrs, hfr, hlo, hws, hcw⟩, hcode, hini, hy, hlen, hl, hstt⟩ := cw
  have hK : Back l R p e below s args y 3 8 (PreOf R mc ms Pc) (PostOf Qc mc ms free) := va_backW (hh := hh) (bytes := bytes) (maxL := maxL) (ret := ret) hM hp.1 hrc hrs hfr hlo hws hcw (fun a' U hW => word_at hW (Or.inl (by first | rfl | simp [Cond.onTables, Cond.keeps, Cond.steady])) hini)
  obtain ⟨hx, hb, hml, ho, -⟩ := S
  intro T hT X
  obtain ⟨v, vm₁, ⟨U', l2, c2, s2⟩, hW₁, X', ⟨g', mk, t, L, e1, e2, hq, h1, hL, h2, h3⟩, st⟩ := vx_callSW X hx (hh := hh) (bytes := bytes) (maxL := maxL) (ret := ret) ho hl hstt hini hcode hy hK hg (hsize.trans hml.symm) (argsL := As) (rest := rest) (fun sig h => hn.trans (hlen sig h)) hstack hW (by rw [hb]; exact hdg)
    (fun vm₁ hW₁ => ⟨hf.1, hf.2, hp.2 (T.setVm vm₁) hT hW₁⟩)
  dsimp only [Pt.U, Pt.locs, Pt.cells, Pt.slots] at X' e1 e2 h1 h2 h3 st
  subst h1; subst h2; subst h3
  exact ⟨v, (T.setVm vm₁).calling g' mk As.toArray, t, U', L, hT, X', hL, e1, e2, hq, st⟩
/-- not caught here, past rows that name other classes: it goes on to the caller -/
theorem vx_outP {p : Program} {l : Launch} {e : Env} {R : Room} {s : State} {m : MethodId} {args : Array Value} {below : List Frame} {meth : Method} {c : Code} {H : Heap} {locs : List Loc} {cells slots : Nat} {free : Addr → Prop} {ls : Array Slot} {rest : List Value} {Qc : Array Value → State → Outcome → State → Prop} {XC : String → State → State → Prop}
    {pc : Nat} {own E : String} {ce : Cell} {q : Addr} {mc ms : Nat} (hown : s.vm.findClass own = some m.cls) (hlocks : meth.locks = false)
    (hpass : ∀ z ∈ c.exceptionTable.toList, covers z pc = false ∨ (z.catchType ≠ 0 ∧ ∃ nm : String, (Cond.classLink own z.catchType nm).before args s = true ∧ va_Nc E nm s)) (hcell : H[q]? = some ce) (hv : ce.vm = .none) (hcl : s.vm.findClass E = some ce.cls)
    (hx : ∀ t : State, t.heap = H → s.vm.Alike t.vm → XC E s t) (hf : ∀ z ∈ locs, free z.base) (hc : cells ≤ mc) (hs : slots ≤ ms) :
    vx_W p l e R s m args below meth c H locs cells slots (vx_MQ below Qc XC args s mc ms free) (F0 m pc ls rest) q := by
  intro T hT X
  have hpl : e.platform.magicAccessors = ({} : Platform).magicAccessors := by rw [X.admits.platform]
  obtain ⟨vm', hW', X', st⟩ := X.outThrough hlocks q (g := F0 m pc ls rest) rfl rfl rfl (cell := ce) (by rw [hT]; exact hcell) (by rw [hv]; rfl)
    (by obtain ⟨k9, h9, -⟩ := Vm.findClass_spec hcl; exact ⟨k9, h9⟩) (fun z hz => by
      rcases hpass z hz with h | ⟨hz0, nm, hl1, hn1⟩
      · exact Or.inl h
      · obtain ⟨c6, hc6, hcl6⟩ := Cond.classLink_spec hown hl1 e.platform hpl
        obtain ⟨a8, b8, h1, h2, h3⟩ := hn1
        cases Option.some.inj (h1.symm.trans hcl)
        cases Option.some.inj (h2.symm.trans hc6)
        exact Or.inr ⟨hz0, _, hcl6, h3⟩)
  obtain ⟨g₀, hfr⟩ := X'.frames_eq
  have hcell9 : ((T.setVm vm').setFrames (.throwing q :: below)).heap[q]? = some ce := by
    show T.heap[q]? = some ce
    rw [hT]; exact hcell
  have hend : Ended ((T.setVm vm').setFrames (.throwing q :: below)) below (.threw q) := State.frames_setFrames _ (State.cur_lt_of_frames hfr)
  refine ⟨(T.setVm vm').setFrames (.throwing q :: below), ?_, .threw q, X'.here.running, hend, Or.inr ⟨q, rfl, E, ce, locs, hx _ hT (X'.ends _).1.alike, hcell9, hv, hcl, (X'.ends _).1, (X'.ends _).2.mono hc hs, hf⟩⟩
  rw [X.pushThrowing_eq]
  exact st
/-- a thing of a world lies in the heap -/
theorem vx_lt {D : va_G} {cl : List vw_C} {ws : va_W} {H1 : Heap} (h : va_P D cl ws H1) {k : Nat} {q : Nat × va_E} (hk : ws[k]? = some q) : q.1 < H1.size := (h k q hk).lt
end VXS
/-! ===== END ===== -/
/-! ===== BEGIN methods with a table of their own: called by a name, returning or throwing ===== -/
section VXH
/-! vx_backW, vx_callVX, vx_callSX, vx_callVW, vx_runVW, vx_runVX, vx_runSX, vx_ofWH follow the same proofs as their sisters above (Free/Laws.lean, Shelf42/LK1.lean); vx_outP calls Shelf42/NT130.lean (outThrough). -/
section
variable {l : Launch} {R : Room} {p : Program} {e : Env} {below : List Frame} {s : State} {sargs : Array Value} {y : MethodName} {len W9 : Nat}
theorem vx_backW {ws : List Cond} {rm : Room} {Pc : Array Value → State → Prop} {Qc : Array Value → State → Outcome → State → Prop} {XC : String → State → State → Prop} {mc ms : Nat} {free : Addr → Prop} {bytes : ByteArray} {maxL : Nat} {ret : Option FieldType} {hh : List (Nat × Nat × Nat × Nat)}
    (hM : vx_Met l y ws rm Pc Qc XC mc ms free) (hblind : FrameBlind Pc) (hrc : rm.cells = mc) (hrs : rm.slots = ms)
    (hframes : rm.frames + 1 ≤ R.frames) (hlocals : W9 + (maxL + 11) + rm.locals ≤ R.locals)
    (hws : ∀ w ∈ ws, ∀ a' U, s.WarmedH U.vm → w.before a' U = true) (hcode : Cond.codeWith y bytes maxL ret hh ∈ ws) (hinit : ∀ a' U, s.WarmedH U.vm → (Cond.initialized y.cls).before a' U = true) :
    vx_Back l R p e below s sargs y len W9 (PreOf R mc ms Pc) (PostOf Qc mc ms free) (vx_Post XC mc ms free) := by
  intro m meth c A g ig mk a X hg hsize hdg hW hn hp
  have h1 : (headSpec ws rm).pre.before a A.U = true := atoms_intro fun w hw => hws w hw _ _ X.warmed
  have h2 : (Cond.codeWith y bytes maxL ret hh).before a A.U = true := hws _ hcode _ _ X.warmed
  have h3 : (Cond.initialized y.cls).before a A.U = true := hinit _ _ X.warmed
  have h4 : A.cells + (headSpec ws rm).room.cells ≤ R.cells := by rw [show (headSpec ws rm).room.cells = mc from hrc]; exact hp.1
  have h5 : A.slots + (headSpec ws rm).room.slots ≤ R.slots := by rw [show (headSpec ws rm).room.slots = ms from hrs]; exact hp.2.1
  have hPc : Pc a (A.U.calling g mk a) := hblind _ _ _ _ hp.2.2
  obtain ⟨U, Ls, c0, s0⟩ := A
  dsimp only [Pt.U, Pt.locs, Pt.cells, Pt.slots] at h1 h2 h3 h4 h5 X hn hPc ⊢
  obtain ⟨m9, methY, cY, hn9, hmY, hcY, -, hlY, -⟩ := Cond.codeWith_spec h2
  cases Option.some.inj (hn9.symm.trans hn)
  obtain ⟨kY, hkY, -⟩ := className_of_methodNamed hn
  have hinitY : kY.init = .initialized := Cond.initialized_spec (findClass_of_methodNamed hn) hkY h3
  have h : At U g.method c below := by rw [hg]; exact X.here
  have hlocals9 : W9 + (maxL + 11) + (headSpec ws rm).room.locals ≤ R.locals := hlocals
  have happ : (headSpec ws rm).appliesLoose y e.platform (U.calling g mk a) = true :=
    Spec.appliesLoose_calling (g := g) h hdg hn hkY hinitY
      (X.room_calling (g := g) (R' := (headSpec ws rm).room) hsize hmY hcY hframes (by rw [hlY]; omega) h4 h5) h1
  obtain ⟨mid, hmid⟩ := h.above
  have hfr : (U.setTop g).frames = (.java g :: mid) ++ below := by rw [State.frames_setTop' g h.top, hmid]; rfl
  obtain ⟨o, s₂, hsteps, -, hend, hq⟩ := Steps.callFree hM p X.admits X.cas X.clock (acts := []) hfr happ hPc trivial
  have hq' : vx_Q Qc XC mc ms free a (U.calling g mk a) o s₂ := hq
  rw [State.frames_setTop' g h.top] at hend
  obtain ⟨g₀, hg0⟩ := Option.isSome_iff_exists.mp h.top
  obtain ⟨r, hr⟩ := State.topJava?_eq_some.mp hg0
  have hr' : (({ U with heap := s₂.heap, slotsUsed := s₂.slotsUsed } : State).setVm s₂.vm).frames = .java g₀ :: r := hr
  rcases hq' with ⟨hqc, L, hfe, hL⟩ | ⟨q, rfl, E, ce, L, hx, hce, hcv, hcl, hW₂, hsm, hL⟩
  · obtain ⟨⟨v, rfl⟩, hW₂, e2, q2, q3, q4, q5, q6⟩ := id hfe
    have e3 : s₂ = ({ (U.calling g mk a).setFrames s₂.frames with heap := s₂.heap, slotsUsed := s₂.slotsUsed } : State).setVm s₂.vm := by
      have : s₂ = ({ s₂ with vm := (U.calling g mk a).vm } : State).setVm s₂.vm := rfl
      rw [e2] at this
      exact this
    obtain ⟨c₂, i₂, len₂, hc₂, hd₂, hf₂⟩ := hend
    have hW' : U.WarmedH s₂.vm := hW₂
    have hcc : c₂ = c := by
      have h1 : s₂.code? g.method = U.code? g.method := by
        rw [State.code?_eq, State.code?_eq, hW'.alike.method?]
      exact Option.some.inj (hc₂.symm.trans (h1.trans h.code))
    subst hcc
    have hlen : len₂ = len := by rw [hdg] at hd₂; cases hd₂; rfl
    subst hlen
    have hs₂ : s₂ = (({ U with heap := s₂.heap, slotsUsed := s₂.slotsUsed } : State).setVm s₂.vm).setTop { g with pc := g.pc + len₂, stack := v.toList ++ g.stack } := by
      refine e3.trans ?_
      rw [hf₂, State.calling_eq h.top, State.setFrames_setFrames, State.setTop_of_frames _ hr', hr]
      rfl
    have hsame : U.sameButNew ({ U with heap := s₂.heap, slotsUsed := s₂.slotsUsed } : State) L mc ms := by
      refine ⟨?_, q2, q3, q4, q5, q6⟩
      obtain ⟨t, ht, -⟩ := State.frames_cons hr
      show ({ U with heap := s₂.heap, slotsUsed := s₂.slotsUsed } : State) = { U.setFrames U.frames with heap := s₂.heap, slotsUsed := s₂.slotsUsed }
      rw [State.setFrames_self ht]
    subst hg
    refine Or.inl ⟨v, ⟨(({ U with heap := s₂.heap, slotsUsed := s₂.slotsUsed } : State).setVm s₂.vm), Ls ++ L, c0 + mc, s0 + ms⟩,
      ⟨X.admits, X.cas, X.clock, X.frames, X.room, X.hears, X.method, X.code, (X.here.setHeapUsed s₂.heap s₂.slotsUsed).setVm hW'.alike, X.tail, State.WarmedH.trans X.warmed hW', X.limits, X.bytes, X.same.trans (hsame.setVm s.vm)⟩,
      ⟨g, mk, s₂, L, rfl, rfl, hqc, rfl, hL, rfl, rfl⟩, ?_⟩
    show Steps p.tables e below _ ((({ U with heap := s₂.heap, slotsUsed := s₂.slotsUsed } : State).setVm s₂.vm).setTop { g with pc := g.pc + len₂, stack := v.toList ++ g.stack })
    rw [← hs₂]
    exact hsteps
  · obtain ⟨e2, q2, q3, q4, q5, q6⟩ := id hsm
    have e3 : s₂ = ({ (U.calling g mk a).setFrames s₂.frames with heap := s₂.heap, slotsUsed := s₂.slotsUsed } : State).setVm s₂.vm := by
      have : s₂ = ({ s₂ with vm := (U.calling g mk a).vm } : State).setVm s₂.vm := rfl
      rw [e2] at this
      exact this
    have hf₂ : s₂.frames = .throwing q :: .java g :: U.frames.tail := hend
    have hW' : U.WarmedH s₂.vm := hW₂
    have hs₂ : s₂ = ((({ U with heap := s₂.heap, slotsUsed := s₂.slotsUsed } : State).setVm s₂.vm).setTop g).pushFrame (.throwing q) := by
      refine e3.trans ?_
      rw [hf₂, State.calling_eq h.top, State.setFrames_setFrames, State.pushFrame, State.frames_setTop _ hr', State.setTop_of_frames _ hr', State.setFrames_setFrames, hr]
      rfl
    have hsame : U.sameButNew ({ U with heap := s₂.heap, slotsUsed := s₂.slotsUsed } : State) L mc ms := by
      refine ⟨?_, q2, q3, q4, q5, q6⟩
      obtain ⟨t, ht, -⟩ := State.frames_cons hr
      show ({ U with heap := s₂.heap, slotsUsed := s₂.slotsUsed } : State) = { U.setFrames U.frames with heap := s₂.heap, slotsUsed := s₂.slotsUsed }
      rw [State.setFrames_self ht]
    subst hg
    refine Or.inr ⟨q, ⟨(({ U with heap := s₂.heap, slotsUsed := s₂.slotsUsed } : State).setVm s₂.vm), Ls ++ L, c0 + mc, s0 + ms⟩,
      ⟨X.admits, X.cas, X.clock, X.frames, X.room, X.hears, X.method, X.code, (X.here.setHeapUsed s₂.heap s₂.slotsUsed).setVm hW'.alike, X.tail, State.WarmedH.trans X.warmed hW', X.limits, X.bytes, X.same.trans (hsame.setVm s.vm)⟩,
      ⟨g, mk, s₂, L, E, ce, rfl, rfl, hx, hce, hcv, hcl, rfl, hL, rfl, rfl⟩, ?_⟩
    show Steps p.tables e below _ (((({ U with heap := s₂.heap, slotsUsed := s₂.slotsUsed } : State).setVm s₂.vm).setTop g).pushFrame (.throwing q))
    rw [← hs₂]
    exact hsteps
end
variable {p : Program} {l : Launch} {e : Env} {R : Room} {s : State} {m : MethodId} {args : Array Value} {below : List Frame} {meth : Method} {c : Code} {T : State} {H : Heap} {locs : List Loc} {cells slots : Nat}
theorem vx_callVX (X : Stand p l e R s m args below meth c T locs cells slots) (hexec : p.tables.exec = Jvm.exec) {own C : String} {index : Nat} {y : MethodName} {bytes : ByteArray} {maxL : Nat} {ret : Option FieldType} {hh : List (Nat × Nat × Nat × Nat)}
    (hown : s.vm.findClass own = some m.cls) (hlink : (Cond.methodLink own index y).before args s = true) (hinst : (Cond.instanceMethod y).before args s = true) (hsel : (Cond.selects C y y).before args s = true)
    (hcode : (Cond.codeWith y bytes maxL ret hh).before args s = true) (hy : y.cls ≠ "java/lang/invoke/MethodHandle" ∧ y.cls ≠ "java/lang/invoke/VarHandle")
    {W9 : Nat} {Pre : Pt → Array Value → Prop} {Post : Pt → Array Value → Option Value → Pt → Prop} {PostX : Pt → Array Value → Addr → Pt → Prop} (hK : vx_Back l R p e below s args y 3 W9 Pre Post PostX)
    {b : Addr} {cellB : Cell} (hcell : T.heap[b]? = some cellB) (hobj : cellB.vm.isStatics = false) (hcls : s.vm.findClass C = some cellB.cls)
    {g : JFrame} (hg : g.method = m) (hsize : g.locals.size = c.maxLocals) {argsL rest : List Value} (hlen : ∀ sig, parseMethodDescriptor y.desc = some sig → argsL.length = sig.parameters.length)
    (hstack : g.stack = argsL.reverse ++ .ref b :: rest) (hW : 2 * g.monitorRoom + (rest.map fun v => v.category).sum ≤ W9) (hdg : decode c.code g.pc = .ok (.invokevirtual index, 3))
    (hpre : ∀ vm₁, s.WarmedH vm₁ → Pre ⟨T.setVm vm₁, locs, cells, slots⟩ (Value.ref b :: argsL).toArray) :
    (∃ (v : Option Value) (vm₁ : Vm) (B : Pt), s.WarmedH vm₁ ∧ Stand p l e R s m args below meth c B.U B.locs B.cells B.slots ∧ Post ⟨T.setVm vm₁, locs, cells, slots⟩ (Value.ref b :: argsL).toArray v B ∧
      ∀ target, Steps p.tables e below (B.U.setTop { g with pc := g.pc + 3, stack := v.toList ++ rest }) target → Steps p.tables e below (T.setTop g) target) ∨
    (∃ (q : Addr) (vm₁ : Vm) (B : Pt), s.WarmedH vm₁ ∧ Stand p l e R s m args below meth c B.U B.locs B.cells B.slots ∧ PostX ⟨T.setVm vm₁, locs, cells, slots⟩ (Value.ref b :: argsL).toArray q B ∧
      Steps p.tables e below (T.setTop g) ((B.U.setTop { g with stack := rest }).pushFrame (.throwing q))) := by
  obtain ⟨mk, methM, hnamed, hmethM, hstM, habM⟩ := Cond.instanceMethod_spec hinst
  obtain ⟨m8, methM', cM, hn8, hmethM', -, -, -, -, -, -, hsigM⟩ := Cond.codeWith_spec hcode
  cases Option.some.inj (hn8.symm.trans hnamed)
  cases hmethM.symm.trans hmethM'
  obtain ⟨c2, r2, m2, q1, q2, q3, q4, kP, hkP, hkPi⟩ := Cond.selects_spec hsel
  cases hcls.symm.trans q1
  cases (State.methodFound?_of_named hnamed hy).symm.trans q2
  cases hnamed.symm.trans q3
  have hselP : selectMethod e.platform s.vm cellB.cls mk = .method mk := by rw [Launch.admits_selectMethod X.admits]; exact q4
  obtain ⟨vm₁, X₁, hstep₁⟩ := X.invokevirtual hexec hown hlink hnamed hmethM hstM hkP hkPi hy (a := b) (cell := cellB) hcell
    (fun z h => by rw [h] at hobj; cases hobj) hselP hmethM habM hkP hkPi (g := g) hg (argsL := argsL) (rest := rest) (hlen _ hsigM) hstack hdg
  rcases hK m meth c ⟨T.setVm vm₁, locs, cells, slots⟩ { g with stack := rest } (.invokevirtual index) mk (Value.ref b :: argsL).toArray X₁ hg hsize hdg hW (X₁.named hnamed) (hpre vm₁ X₁.warmed) with ⟨v, B, X', hpost, hsteps⟩ | ⟨q, B, X', hpost, hsteps⟩
  · exact Or.inl ⟨v, vm₁, B, X₁.warmed, X', hpost, fun target h => hstep₁ _ fun acts => by rw [doInvoke_state]; exact hsteps.trans h⟩
  · exact Or.inr ⟨q, vm₁, B, X₁.warmed, X', hpost, hstep₁ _ fun acts => by rw [doInvoke_state]; exact hsteps⟩
theorem vx_callSX (X : Stand p l e R s m args below meth c T locs cells slots) (hexec : p.tables.exec = Jvm.exec) {own : String} {index : Nat} {y : MethodName} {bytes : ByteArray} {maxL : Nat} {ret : Option FieldType} {hh : List (Nat × Nat × Nat × Nat)}
    (hown : s.vm.findClass own = some m.cls) (hlink : (Cond.methodLink own index y).before args s = true) (hstat : (Cond.static y).before args s = true) (hinit : (Cond.initialized y.cls).before args s = true)
    (hcode : (Cond.codeWith y bytes maxL ret hh).before args s = true) (hy : y.cls ≠ "java/lang/invoke/MethodHandle" ∧ y.cls ≠ "java/lang/invoke/VarHandle")
    {W9 : Nat} {Pre : Pt → Array Value → Prop} {Post : Pt → Array Value → Option Value → Pt → Prop} {PostX : Pt → Array Value → Addr → Pt → Prop} (hK : vx_Back l R p e below s args y 3 W9 Pre Post PostX)
    {g : JFrame} (hg : g.method = m) (hsize : g.locals.size = c.maxLocals) {argsL rest : List Value} (hlen : ∀ sig, parseMethodDescriptor y.desc = some sig → argsL.length = sig.parameters.length)
    (hstack : g.stack = argsL.reverse ++ rest) (hW : 2 * g.monitorRoom + (rest.map fun v => v.category).sum ≤ W9) (hdg : decode c.code g.pc = .ok (.invokestatic index, 3))
    (hpre : ∀ vm₁, s.WarmedH vm₁ → Pre ⟨T.setVm vm₁, locs, cells, slots⟩ argsL.toArray) :
    (∃ (v : Option Value) (vm₁ : Vm) (B : Pt), s.WarmedH vm₁ ∧ Stand p l e R s m args below meth c B.U B.locs B.cells B.slots ∧ Post ⟨T.setVm vm₁, locs, cells, slots⟩ argsL.toArray v B ∧
      ∀ target, Steps p.tables e below (B.U.setTop { g with pc := g.pc + 3, stack := v.toList ++ rest }) target → Steps p.tables e below (T.setTop g) target) ∨
    (∃ (q : Addr) (vm₁ : Vm) (B : Pt), s.WarmedH vm₁ ∧ Stand p l e R s m args below meth c B.U B.locs B.cells B.slots ∧ PostX ⟨T.setVm vm₁, locs, cells, slots⟩ argsL.toArray q B ∧
      Steps p.tables e below (T.setTop g) ((B.U.setTop { g with stack := rest }).pushFrame (.throwing q))) := by
  obtain ⟨mk, methM, cM, hnamed, hmethM, -, -, -, -, -, -, hsigM⟩ := Cond.codeWith_spec hcode
  have hstatic : methM.isStatic = true := Cond.static_spec hnamed hmethM hstat
  obtain ⟨kP, hkP, -⟩ := className_of_methodNamed hnamed
  have hinitP : kP.init = .initialized := Cond.initialized_spec (findClass_of_methodNamed hnamed) hkP hinit
  obtain ⟨vm₁, X₁, hstep₁⟩ := X.invokestatic hexec hown hlink hnamed hmethM hstatic hkP hinitP hy (g := g) hg (argsL := argsL) (rest := rest) (hlen _ hsigM) hstack hdg
  rcases hK m meth c ⟨T.setVm vm₁, locs, cells, slots⟩ { g with stack := rest } (.invokestatic index) mk argsL.toArray X₁ hg hsize hdg hW (X₁.named hnamed) (hpre vm₁ X₁.warmed) with ⟨v, B, X', hpost, hsteps⟩ | ⟨q, B, X', hpost, hsteps⟩
  · exact Or.inl ⟨v, vm₁, B, X₁.warmed, X', hpost, fun target h => hstep₁ _ fun acts => by rw [doInvoke_state]; exact hsteps.trans h⟩
  · exact Or.inr ⟨q, vm₁, B, X₁.warmed, X', hpost, hstep₁ _ fun acts => by rw [doInvoke_state]; exact hsteps⟩
theorem vx_callVW (X : Stand p l e R s m args below meth c T locs cells slots) (hexec : p.tables.exec = Jvm.exec) {own C : String} {index : Nat} {y : MethodName} {bytes : ByteArray} {maxL : Nat} {ret : Option FieldType} {hh : List (Nat × Nat × Nat × Nat)}
    (hown : s.vm.findClass own = some m.cls) (hlink : (Cond.methodLink own index y).before args s = true) (hinst : (Cond.instanceMethod y).before args s = true) (hsel : (Cond.selects C y y).before args s = true)
    (hcode : (Cond.codeWith y bytes maxL ret hh).before args s = true) (hy : y.cls ≠ "java/lang/invoke/MethodHandle" ∧ y.cls ≠ "java/lang/invoke/VarHandle")
    {W9 : Nat} {Pre : Pt → Array Value → Prop} {Post : Pt → Array Value → Option Value → Pt → Prop} (hK : Back l R p e below s args y 3 W9 Pre Post)
    {b : Addr} {cellB : Cell} (hcell : T.heap[b]? = some cellB) (hobj : cellB.vm.isStatics = false) (hcls : s.vm.findClass C = some cellB.cls)
    {g : JFrame} (hg : g.method = m) (hsize : g.locals.size = c.maxLocals) {argsL rest : List Value} (hlen : ∀ sig, parseMethodDescriptor y.desc = some sig → argsL.length = sig.parameters.length)
    (hstack : g.stack = argsL.reverse ++ .ref b :: rest) (hW : 2 * g.monitorRoom + (rest.map fun v => v.category).sum ≤ W9) (hdg : decode c.code g.pc = .ok (.invokevirtual index, 3))
    (hpre : ∀ vm₁, s.WarmedH vm₁ → Pre ⟨T.setVm vm₁, locs, cells, slots⟩ (Value.ref b :: argsL).toArray) :
    ∃ (v : Option Value) (vm₁ : Vm) (B : Pt), s.WarmedH vm₁ ∧ Stand p l e R s m args below meth c B.U B.locs B.cells B.slots ∧ Post ⟨T.setVm vm₁, locs, cells, slots⟩ (Value.ref b :: argsL).toArray v B ∧
      ∀ target, Steps p.tables e below (B.U.setTop { g with pc := g.pc + 3, stack := v.toList ++ rest }) target → Steps p.tables e below (T.setTop g) target := by
  obtain ⟨mk, methM, hnamed, hmethM, hstM, habM⟩ := Cond.instanceMethod_spec hinst
  obtain ⟨m8, methM', cM, hn8, hmethM', -, -, -, -, -, -, hsigM⟩ := Cond.codeWith_spec hcode
  cases Option.some.inj (hn8.symm.trans hnamed)
  cases hmethM.symm.trans hmethM'
  obtain ⟨c2, r2, m2, q1, q2, q3, q4, kP, hkP, hkPi⟩ := Cond.selects_spec hsel
  cases hcls.symm.trans q1
  cases (State.methodFound?_of_named hnamed hy).symm.trans q2
  cases hnamed.symm.trans q3
  have hselP : selectMethod e.platform s.vm cellB.cls mk = .method mk := by rw [Launch.admits_selectMethod X.admits]; exact q4
  obtain ⟨vm₁, X₁, hstep₁⟩ := X.invokevirtual hexec hown hlink hnamed hmethM hstM hkP hkPi hy (a := b) (cell := cellB) hcell
    (fun z h => by rw [h] at hobj; cases hobj) hselP hmethM habM hkP hkPi (g := g) hg (argsL := argsL) (rest := rest) (hlen _ hsigM) hstack hdg
  obtain ⟨v, B, X', hpost, hsteps⟩ := hK m meth c ⟨T.setVm vm₁, locs, cells, slots⟩ { g with stack := rest } (.invokevirtual index) mk (Value.ref b :: argsL).toArray X₁ hg hsize hdg hW (X₁.named hnamed) (hpre vm₁ X₁.warmed)
  exact ⟨v, vm₁, B, X₁.warmed, X', hpost, fun target h => hstep₁ _ fun acts => by rw [doInvoke_state]; exact hsteps.trans h⟩
abbrev vx_CVW (R : Room) (s : State) (args : Array Value) (own C : String) (index : Nat) (y : MethodName) (bytes : ByteArray) (maxL : Nat) (ret : Option FieldType) (hh : List (Nat × Nat × Nat × Nat)) (ws : List Cond) (rm : Room) (mc ms n : Nat) : Prop :=
  (rm.cells = mc ∧ rm.slots = ms ∧ rm.frames + 1 ≤ R.frames ∧ 8 + (maxL + 11) + rm.locals ≤ R.locals ∧ (∀ w ∈ ws, ∀ (a' : Array Value) (U : State), s.WarmedH U.vm → w.before a' U = true) ∧ Cond.codeWith y bytes maxL ret hh ∈ ws) ∧
  (Cond.codeWith y bytes maxL ret hh).before args s = true ∧ (Cond.initialized y.cls).before args s = true ∧ (y.cls ≠ "java/lang/invoke/MethodHandle" ∧ y.cls ≠ "java/lang/invoke/VarHandle") ∧
  (∀ sig, parseMethodDescriptor y.desc = some sig → n = sig.parameters.length) ∧ (Cond.methodLink own index y).before args s = true ∧ (Cond.instanceMethod y).before args s = true ∧ (Cond.selects C y y).before args s = true
theorem vx_cwVW {own C : String} {index maxL mc ms : Nat} {y : MethodName} {bytes : ByteArray} {ret : Option FieldType} {hh : List (Nat × Nat × Nat × Nat)} {Ts ws ws' : List Cond} {rm : Room} (n : Nat) (ht : ∀ w ∈ Ts, w.before args s = true) (hT : GoodIn Ts (wsV own index C y ws)) (hw : ws = Cond.codeWith y bytes maxL ret hh :: ws') (hrc : rm.cells = mc) (hrs : rm.slots = ms)
    (hd : y.cls = C ∧ y.cls ≠ "java/lang/invoke/MethodHandle" ∧ y.cls ≠ "java/lang/invoke/VarHandle" ∧ (parseMethodDescriptor y.desc).map (fun d => d.parameters.length) = some n) (hR : rm.frames + 1 ≤ R.frames ∧ 8 + (maxL + 11) + rm.locals ≤ R.locals) :
    vx_CVW R s args own C index y bytes maxL ret hh ws rm mc ms n := by
  obtain ⟨hC, hd⟩ := hd
  subst hC
  have ok : ∀ w ∈ wsV own index y.cls y ws, w.before args s = true := fun w h => ht w (hT w h).1
  have hG : GoodIn Ts ws := fun w h => hT w (by unfold wsV; exact List.mem_append_right _ h)
  have hc : Cond.codeWith y bytes maxL ret hh ∈ ws := by rw [hw]; exact List.mem_cons_self
  refine ⟨⟨hrc, hrs, hR.1, hR.2, pay_in ht hG, hc⟩, ht _ (hG _ hc).1, ok _ (by simp [wsV]), ⟨hd.1, hd.2.1⟩, fun sig h => ?_, ok _ (by simp [wsV]), ok _ (by simp [wsV]), ok _ (by simp [wsV])⟩
  have h2 := hd.2.2
  rw [h] at h2
  exact (Option.some.inj h2).symm
theorem vx_runVW {y : MethodName} {bytes cc : ByteArray} {maxL nL mc ms n index : Nat} {ret : Option FieldType} {hh : List (Nat × Nat × Nat × Nat)} {ws : List Cond} {rm : Room} {Pc : Array Value → State → Prop} {Qc : Array Value → State → Outcome → State → Prop} {free : Addr → Prop} {Ts : List Cond} {own C : String} {b : Addr} {As rest : List Value} {g : JFrame}
    (S : CallFix p m c cc nL s args Ts own) (hM : Met l y ws rm Pc Qc mc ms free) (cw : vx_CVW R s args own C index y bytes maxL ret hh ws rm mc ms n) (hp : PreV s H C b Pc As)
    (hg : g.method = m) (hn : As.length = n) (hsize : g.locals.size = nL) (hstack : g.stack = As.reverse ++ .ref b :: rest) (hW : 2 * g.monitorRoom + (rest.map fun v => v.category).sum ≤ 8) (hdg : decode cc g.pc = .ok (.invokevirtual index, 3)) (hf : cells + mc ≤ R.cells ∧ slots + ms ≤ R.slots) :
    va_Run p l e R s m args below meth c H locs cells slots mc ms g rest (Qc (Value.ref b :: As).toArray) free := by
  obtain ⟨⟨hrc, hrs, hfr, hlo, hws, hcw⟩, hcode, hini, hy, hlen, hl, hin, hse⟩ := cw
  have hK : Back l R p e below s args y 3 8 (PreOf R mc ms Pc) (PostOf Qc mc ms free) := va_backW (hh := hh) (bytes := bytes) (maxL := maxL) (ret := ret) hM hp.1 hrc hrs hfr hlo hws hcw (fun a' U hW => word_at hW (Or.inl (by first | rfl | simp [Cond.onTables, Cond.keeps, Cond.steady])) hini)
  obtain ⟨hx, hb, hml, ho, -⟩ := S
  obtain ⟨-, ⟨cellB, hcB, hoB, hclB⟩, hPc⟩ := hp
  intro T hT X
  obtain ⟨v, vm₁, ⟨U', l2, c2, s2⟩, hW₁, X', ⟨g', mk, t, L, e1, e2, hq, h1, hL, h2, h3⟩, st⟩ := vx_callVW X hx (C := C) (hh := hh) (bytes := bytes) (maxL := maxL) (ret := ret) ho hl hin hse hcode hy hK (by rw [hT]; exact hcB) hoB hclB hg (hsize.trans hml.symm) (argsL := As) (rest := rest) (fun sig h => hn.trans (hlen sig h)) hstack hW (by rw [hb]; exact hdg)
    (fun vm₁ hW₁ => ⟨hf.1, hf.2, hPc (T.setVm vm₁) hT hW₁⟩)
  dsimp only [Pt.U, Pt.locs, Pt.cells, Pt.slots] at X' e1 e2 h1 h2 h3 st
  subst h1; subst h2; subst h3
  exact ⟨v, (T.setVm vm₁).calling g' mk (Value.ref b :: As).toArray, t, U', L, hT, X', hL, e1, e2, hq, st⟩
section
variable {y : MethodName} {bytes cc : ByteArray} {maxL nL mc ms n index : Nat} {ret : Option FieldType} {ws : List Cond} {rm : Room} {Pc : Array Value → State → Prop} {Qc : Array Value → State → Outcome → State → Prop} {XC : String → State → State → Prop} {free : Addr → Prop} {Ts : List Cond} {own C : String} {b : Addr} {As rest : List Value} {g : JFrame}
theorem vx_runVX {hh : List (Nat × Nat × Nat × Nat)} (S : CallFix p m c cc nL s args Ts own) (hM : vx_Met l y ws rm Pc Qc XC mc ms free) (cw : vx_CVW R s args own C index y bytes maxL ret hh ws rm mc ms n) (hp : PreV s H C b Pc As)
    (hg : g.method = m) (hn : As.length = n) (hsize : g.locals.size = nL) (hstack : g.stack = As.reverse ++ .ref b :: rest) (hW : 2 * g.monitorRoom + (rest.map fun v => v.category).sum ≤ 8) (hdg : decode cc g.pc = .ok (.invokevirtual index, 3)) (hf : cells + mc ≤ R.cells ∧ slots + ms ≤ R.slots) :
    vx_Run p l e R s m args below meth c H locs cells slots mc ms g rest (Qc (Value.ref b :: As).toArray) XC free := by
  obtain ⟨⟨hrc, hrs, hfr, hlo, hws, hcw⟩, hcode, hini, hy, hlen, hl, hin, hse⟩ := cw
  have hK : vx_Back l R p e below s args y 3 8 (PreOf R mc ms Pc) (PostOf Qc mc ms free) (vx_Post XC mc ms free) := vx_backW (hh := hh) (bytes := bytes) (maxL := maxL) (ret := ret) hM hp.1 hrc hrs hfr hlo hws hcw (fun a' U hW => word_at hW (Or.inl (by first | rfl | simp [Cond.onTables, Cond.keeps, Cond.steady])) hini)
  obtain ⟨hx, hb, hml, ho, -⟩ := S
  obtain ⟨-, ⟨cellB, hcB, hoB, hclB⟩, hPc⟩ := hp
  intro T hT X
  rcases vx_callVX X hx (C := C) (hh := hh) (bytes := bytes) (maxL := maxL) (ret := ret) ho hl hin hse hcode hy hK (by rw [hT]; exact hcB) hoB hclB hg (hsize.trans hml.symm) (argsL := As) (rest := rest) (fun sig h => hn.trans (hlen sig h)) hstack hW (by rw [hb]; exact hdg)
    (fun vm₁ hW₁ => ⟨hf.1, hf.2, hPc (T.setVm vm₁) hT hW₁⟩) with ⟨v, vm₁, ⟨U', l2, c2, s2⟩, hW₁, X', ⟨g', mk, t, L, e1, e2, hq, h1, hL, h2, h3⟩, st⟩ | ⟨q, vm₁, ⟨U', l2, c2, s2⟩, hW₁, X', ⟨g', mk, t, L, E, ce, e1, e2, hq, hce, hcv, hcl, h1, hL, h2, h3⟩, st⟩
  · dsimp only [Pt.U, Pt.locs, Pt.cells, Pt.slots] at X' e1 e2 h1 h2 h3 st
    subst h1; subst h2; subst h3
    exact Or.inl ⟨v, (T.setVm vm₁).calling g' mk (Value.ref b :: As).toArray, t, U', L, hT, X', hL, e1, e2, hq, st⟩
  · dsimp only [Pt.U, Pt.locs, Pt.cells, Pt.slots] at X' e1 e2 h1 h2 h3 st hcl
    subst h1; subst h2; subst h3
    exact Or.inr ⟨q, (T.setVm vm₁).calling g' mk (Value.ref b :: As).toArray, t, U', L, E, ce, hT, X', hL, e1, e2, hq, hce, hcv, vx_cls hW₁ hcl, st⟩
theorem vx_runSX {hh : List (Nat × Nat × Nat × Nat)} (S : CallFix p m c cc nL s args Ts own) (hM : vx_Met l y ws rm Pc Qc XC mc ms free) (cw : vx_CSW R s args own index y bytes maxL ret hh ws rm mc ms n) (hp : PreS s H Pc As)
    (hg : g.method = m) (hn : As.length = n) (hsize : g.locals.size = nL) (hstack : g.stack = As.reverse ++ rest) (hW : 2 * g.monitorRoom + (rest.map fun v => v.category).sum ≤ 8) (hdg : decode cc g.pc = .ok (.invokestatic index, 3)) (hf : cells + mc ≤ R.cells ∧ slots + ms ≤ R.slots) :
    vx_Run p l e R s m args below meth c H locs cells slots mc ms g rest (Qc As.toArray) XC free := by
  obtain ⟨⟨hrc, hrs, hfr, hlo, hws, hcw⟩, hcode, hini, hy, hlen, hl, hstt⟩ := cw
  have hK : vx_Back l R p e below s args y 3 8 (PreOf R mc ms Pc) (PostOf Qc mc ms free) (vx_Post XC mc ms free) := vx_backW (hh := hh) (bytes := bytes) (maxL := maxL) (ret := ret) hM hp.1 hrc hrs hfr hlo hws hcw (fun a' U hW => word_at hW (Or.inl (by first | rfl | simp [Cond.onTables, Cond.keeps, Cond.steady])) hini)
  obtain ⟨hx, hb, hml, ho, -⟩ := S
  intro T hT X
  rcases vx_callSX X hx (hh := hh) (bytes := bytes) (maxL := maxL) (ret := ret) ho hl hstt hini hcode hy hK hg (hsize.trans hml.symm) (argsL := As) (rest := rest) (fun sig h => hn.trans (hlen sig h)) hstack hW (by rw [hb]; exact hdg)
    (fun vm₁ hW₁ => ⟨hf.1, hf.2, hp.2 (T.setVm vm₁) hT hW₁⟩) with ⟨v, vm₁, ⟨U', l2, c2, s2⟩, hW₁, X', ⟨g', mk, t, L, e1, e2, hq, h1, hL, h2, h3⟩, st⟩ | ⟨q, vm₁, ⟨U', l2, c2, s2⟩, hW₁, X', ⟨g', mk, t, L, E, ce, e1, e2, hq, hce, hcv, hcl, h1, hL, h2, h3⟩, st⟩
  · dsimp only [Pt.U, Pt.locs, Pt.cells, Pt.slots] at X' e1 e2 h1 h2 h3 st
    subst h1; subst h2; subst h3
    exact Or.inl ⟨v, (T.setVm vm₁).calling g' mk As.toArray, t, U', L, hT, X', hL, e1, e2, hq, st⟩
  · dsimp only [Pt.U, Pt.locs, Pt.cells, Pt.slots] at X' e1 e2 h1 h2 h3 st hcl
    subst h1; subst h2; subst h3
    exact Or.inr ⟨q, (T.setVm vm₁).calling g' mk As.toArray, t, U', L, E, ce, hT, X', hL, e1, e2, hq, hce, hcv, vx_cls hW₁ hcl, st⟩
end
end VXH
theorem vx_ofWH {l : Launch} {y : MethodName} {ws ws' : List Cond} {rm : Room} {Pc : Array Value → State → Prop} {Qc : Array Value → State → Outcome → State → Prop} {XC : String → State → State → Prop} {mc ms : Nat} {free : Addr → Prop} {cc : ByteArray} {maxL : Nat} {ret : Option FieldType} {hh : List (Nat × Nat × Nat × Nat)}
    (hy : plainName y.cls = true) (hw : ws = Cond.codeWith y cc maxL ret hh :: ws')
    (body : ∀ p e s m args below meth c s₁, BodyLoose p l y (headSpec ws rm) cc maxL ret e s m args below meth c s₁ → c.maxLocals = maxL → Pc args s →
      W p l e (headSpec ws rm).room s m args below meth c s.heap [] 0 0 (vx_MQ below Qc XC args s mc ms free) (entryFrame m args maxL)) : vx_Met l y ws rm Pc Qc XC mc ms free := by
  refine MetFree.of_bodyS (code := cc) (maxLocals := maxL) (ret := ret) hy ?_ ?_
  · intro args s m h hn
    obtain ⟨m9, meth, c, hn9, h1, h2, h3, h4, -, h5, h6, -⟩ := Cond.codeWith_spec (atoms_spec (ws := ws) h _ (by rw [hw]; exact List.mem_cons_self))
    cases hn.symm.trans hn9
    exact ⟨meth, c, h1, h2, h3, h4, h5, h6⟩
  · intro p e s m args below meth c s₁ B hml hP _
    have hh0 : s₁.heap = s.heap := by rw [B.state]; rfl
    obtain ⟨t, a1, o, b1, b2, b3⟩ := body p e s m args below meth c s₁ B hml hP s₁ hh0 (Stand.of_body B)
    exact ⟨t, o, a1, b1, b2, b3⟩
/-! ===== END ===== -/
theorem vr_outer (c : ClassId) (N h0 : Nat) : ∀ i : Nat, Jvm.Free.Multi.outerC c N h0 i = arrV c N (fun j => va_rf (if j < i then some (h0 + 1 + j) else none))
  | 0 => by
    show ({ cls := c, slots := Array.replicate N .null, vm := .none } : Cell) = _
    rw [arrV_new]
    refine congrArg (arrV c N) (funext fun j => ?_)
    simp [va_rf]
  | i + 1 => by
    show (Jvm.Free.Multi.outerC c N h0 i).setSlot i (.ref (h0 + 1 + i)) = _
    rw [vr_outer c N h0 i, arrV_store]
    refine congrArg (arrV c N) (funext fun j => ?_)
    by_cases e : j = i
    · subst e
      simp [updV, va_rf]
    · by_cases h : j < i
      · simp [updV, e, h, Nat.lt_succ_of_lt h]
      · simp [updV, e, h, show ¬ j < i + 1 by omega]
def RX0 : String := "ColourSums$Equations"
def TX0 : u_T := fun k => match k with
  | 0 => ("ColourSums$Equations", "cells", "I", true)
  | 1 => ("ColourSums$Equations", "rows", "[[I", true)
  | 2 => ("ColourSums$Equations", "leads", "[Z", true)
  | 3 => ("ColourSums$Equations", "work", "[I", true)
  | _ => ("ColourSums$Equations", "modulus", "I", false)
def tyX0 : Nat → FieldType := fun k => match k with
  | 0 => .int
  | 1 => .array (.array .int)
  | 2 => .array .boolean
  | 3 => .array .int
  | _ => .int
theorem nmX0 : ∀ a, a < 5 → ∀ b, b < 5 → a ≠ b → (TX0 a).2.1 ≠ (TX0 b).2.1 := by decide +kernel
theorem tyX0_ok : ∀ k, k < 5 → parseFieldDescriptor (TX0 k).2.2.1 = some (tyX0 k) := by decide +kernel
abbrev cX0_init : ByteArray := prog_2_method_1_code
def yX0_init : MethodName := ⟨RX0, "<init>", "(I)V"⟩
abbrev cX0_begin : ByteArray := prog_2_method_2_code
def yX0_begin : MethodName := ⟨RX0, "begin", "(I)V"⟩
abbrev cX0_add : ByteArray := prog_2_method_3_code
def yX0_add : MethodName := ⟨RX0, "add", "(JI)Z"⟩
abbrev cX0_leastValue : ByteArray := prog_2_method_4_code
def yX0_leastValue : MethodName := ⟨RX0, "leastValue", "(I)I"⟩
abbrev cX0_keepWork : ByteArray := prog_2_method_5_code
def yX0_keepWork : MethodName := ⟨RX0, "keepWork", "(I)V"⟩
abbrev cX0_subtractRow : ByteArray := prog_2_method_6_code
def yX0_subtractRow : MethodName := ⟨RX0, "subtractRow", "(II[I)V"⟩
abbrev cX0_lastCellOfWork : ByteArray := prog_2_method_7_code
def yX0_lastCellOfWork : MethodName := ⟨RX0, "lastCellOfWork", "()I"⟩
abbrev cX0_inverse : ByteArray := prog_2_method_8_code
def yX0_inverse : MethodName := ⟨RX0, "inverse", "(I)I"⟩
def RX1 : String := "ColourSums$Form"
def TX1 : u_T := fun k => match k with
  | 0 => ("ColourSums$Form", "gridWidth", "I", true)
  | 1 => ("ColourSums$Form", "gridHeight", "I", true)
  | 2 => ("ColourSums$Form", "ways", "[I", true)
  | 3 => ("ColourSums$Form", "sets", "[J", true)
  | 4 => ("ColourSums$Form", "squares", "I", false)
  | 5 => ("ColourSums$Form", "wayCount", "I", false)
  | 6 => ("ColourSums$Form", "setCount", "I", false)
  | _ => ("ColourSums$Form", "shapeSeen", "J", false)
def tyX1 : Nat → FieldType := fun k => match k with
  | 0 => .int
  | 1 => .int
  | 2 => .array .int
  | 3 => .array .long
  | 4 => .int
  | 5 => .int
  | 6 => .int
  | _ => .long
theorem nmX1 : ∀ a, a < 8 → ∀ b, b < 8 → a ≠ b → (TX1 a).2.1 ≠ (TX1 b).2.1 := by decide +kernel
theorem tyX1_ok : ∀ k, k < 8 → parseFieldDescriptor (TX1 k).2.2.1 = some (tyX1 k) := by decide +kernel
abbrev cX1_init : ByteArray := prog_3_method_1_code
def yX1_init : MethodName := ⟨RX1, "<init>", "(II)V"⟩
abbrev cX1_size : ByteArray := prog_3_method_2_code
def yX1_size : MethodName := ⟨RX1, "size", "()I"⟩
abbrev cX1_take : ByteArray := prog_3_method_3_code
def yX1_take : MethodName := ⟨RX1, "take", "(II)Z"⟩
abbrev cX1_prepare : ByteArray := prog_3_method_4_code
def yX1_prepare : MethodName := ⟨RX1, "prepare", "(J)V"⟩
abbrev cX1_findWays : ByteArray := prog_3_method_5_code
def yX1_findWays : MethodName := ⟨RX1, "findWays", "()V"⟩
abbrev cX1_keepWay : ByteArray := prog_3_method_6_code
def yX1_keepWay : MethodName := ⟨RX1, "keepWay", "(I)V"⟩
abbrev cX1_placeWay : ByteArray := prog_3_method_7_code
def yX1_placeWay : MethodName := ⟨RX1, "placeWay", "(I)V"⟩
abbrev cX1_insert : ByteArray := prog_3_method_8_code
def yX1_insert : MethodName := ⟨RX1, "insert", "(J)V"⟩
abbrev cX1_cellsInCorner : ByteArray := prog_3_method_9_code
def yX1_cellsInCorner : MethodName := ⟨RX1, "cellsInCorner", "(I)J"⟩
abbrev cX1_columnsOf : ByteArray := prog_3_method_10_code
def yX1_columnsOf : MethodName := ⟨RX1, "columnsOf", "(I)I"⟩
abbrev cX1_rowsOf : ByteArray := prog_3_method_11_code
def yX1_rowsOf : MethodName := ⟨RX1, "rowsOf", "(I)I"⟩
abbrev cX1_pushedToCorner : ByteArray := prog_3_method_12_code
def yX1_pushedToCorner : MethodName := ⟨RX1, "pushedToCorner", "(I)I"⟩
abbrev cX1_quarterTurned : ByteArray := prog_3_method_13_code
def yX1_quarterTurned : MethodName := ⟨RX1, "quarterTurned", "(I)I"⟩
abbrev cX1_turnedOver : ByteArray := prog_3_method_14_code
def yX1_turnedOver : MethodName := ⟨RX1, "turnedOver", "(I)I"⟩
def RX2 : String := "ColourSums$Outline"
def TX2 : u_T := fun k => match k with
  | 0 => ("ColourSums$Outline", "gridWidth", "I", true)
  | 1 => ("ColourSums$Outline", "gridHeight", "I", true)
  | 2 => ("ColourSums$Outline", "letters", "[I", true)
  | 3 => ("ColourSums$Outline", "axes", "[I", true)
  | 4 => ("ColourSums$Outline", "amounts", "[I", true)
  | 5 => ("ColourSums$Outline", "length", "I", false)
  | 6 => ("ColourSums$Outline", "runCount", "I", false)
  | _ => ("ColourSums$Outline", "shapeSeen", "J", false)
def tyX2 : Nat → FieldType := fun k => match k with
  | 0 => .int
  | 1 => .int
  | 2 => .array .int
  | 3 => .array .int
  | 4 => .array .int
  | 5 => .int
  | 6 => .int
  | _ => .long
theorem nmX2 : ∀ a, a < 8 → ∀ b, b < 8 → a ≠ b → (TX2 a).2.1 ≠ (TX2 b).2.1 := by decide +kernel
theorem tyX2_ok : ∀ k, k < 8 → parseFieldDescriptor (TX2 k).2.2.1 = some (tyX2 k) := by decide +kernel
abbrev cX2_init : ByteArray := prog_4_method_1_code
def yX2_init : MethodName := ⟨RX2, "<init>", "(II)V"⟩
abbrev cX2_trace : ByteArray := prog_4_method_2_code
def yX2_trace : MethodName := ⟨RX2, "trace", "(J)V"⟩
abbrev cX2_fold : ByteArray := prog_4_method_3_code
def yX2_fold : MethodName := ⟨RX2, "fold", "(I)V"⟩
abbrev cX2_follow : ByteArray := prog_4_method_4_code
def yX2_follow : MethodName := ⟨RX2, "follow", "(II)V"⟩
abbrev cX2_nextLetter : ByteArray := prog_4_method_5_code
def yX2_nextLetter : MethodName := ⟨RX2, "nextLetter", "(III)I"⟩
abbrev cX2_mayGo : ByteArray := prog_4_method_6_code
def yX2_mayGo : MethodName := ⟨RX2, "mayGo", "(III)Z"⟩
abbrev cX2_has : ByteArray := prog_4_method_7_code
def yX2_has : MethodName := ⟨RX2, "has", "(II)Z"⟩
abbrev cX2_foldLetter : ByteArray := prog_4_method_8_code
def yX2_foldLetter : MethodName := ⟨RX2, "foldLetter", "(III)V"⟩
abbrev cX2_pushRun : ByteArray := prog_4_method_9_code
def yX2_pushRun : MethodName := ⟨RX2, "pushRun", "(II)V"⟩
def RX3 : String := "ColourSums"
def TX3 : u_T := fun k => match k with
  | 0 => ("ColourSums", "width", "I", true)
  | 1 => ("ColourSums", "height", "I", true)
  | 2 => ("ColourSums", "forms", "[LColourSums$Form;", true)
  | 3 => ("ColourSums", "ownWeights", "[I", true)
  | 4 => ("ColourSums", "foundWeights", "[I", true)
  | 5 => ("ColourSums", "equations", "LColourSums$Equations;", true)
  | 6 => ("ColourSums", "outline", "LColourSums$Outline;", true)
  | 7 => ("ColourSums", "formCount", "I", false)
  | 8 => ("ColourSums", "shape", "J", false)
  | _ => ("ColourSums", "found", "Z", false)
def tyX3 : Nat → FieldType := fun k => match k with
  | 0 => .int
  | 1 => .int
  | 2 => .array (.object "ColourSums$Form")
  | 3 => .array .int
  | 4 => .array .int
  | 5 => .object "ColourSums$Equations"
  | 6 => .object "ColourSums$Outline"
  | 7 => .int
  | 8 => .long
  | _ => .boolean
theorem nmX3 : ∀ a, a < 10 → ∀ b, b < 10 → a ≠ b → (TX3 a).2.1 ≠ (TX3 b).2.1 := by decide +kernel
theorem tyX3_ok : ∀ k, k < 10 → parseFieldDescriptor (TX3 k).2.2.1 = some (tyX3 k) := by decide +kernel
abbrev cX3_init : ByteArray := prog_1_method_1_code
def yX3_init : MethodName := ⟨RX3, "<init>", "(II)V"⟩
abbrev cX3_cell : ByteArray := prog_1_method_2_code
def yX3_cell : MethodName := ⟨RX3, "cell", "(IIZ)Z"⟩
abbrev cX3_piece : ByteArray := prog_1_method_3_code
def yX3_piece : MethodName := ⟨RX3, "piece", "()I"⟩
abbrev cX3_square : ByteArray := prog_1_method_4_code
def yX3_square : MethodName := ⟨RX3, "square", "(III)Z"⟩
abbrev cX3_placements : ByteArray := prog_1_method_5_code
def yX3_placements : MethodName := ⟨RX3, "placements", "(I)I"⟩
abbrev cX3_placement : ByteArray := prog_1_method_6_code
def yX3_placement : MethodName := ⟨RX3, "placement", "(III)I"⟩
abbrev cX3_sizes : ByteArray := prog_1_method_7_code
def yX3_sizes : MethodName := ⟨RX3, "sizes", "()Z"⟩
abbrev cX3_colour : ByteArray := prog_1_method_8_code
def yX3_colour : MethodName := ⟨RX3, "colour", "(I)I"⟩
abbrev cX3_weight : ByteArray := prog_1_method_9_code
def yX3_weight : MethodName := ⟨RX3, "weight", "(II)I"⟩
abbrev cX3_text : ByteArray := prog_1_method_10_code
def yX3_text : MethodName := ⟨RX3, "text", "(I)I"⟩
abbrev cX3_own : ByteArray := prog_1_method_11_code
def yX3_own : MethodName := ⟨RX3, "own", "(III)Z"⟩
abbrev cX3_sum : ByteArray := prog_1_method_12_code
def yX3_sum : MethodName := ⟨RX3, "sum", "()I"⟩
abbrev cX3_bad : ByteArray := prog_1_method_13_code
def yX3_bad : MethodName := ⟨RX3, "bad", "(I)I"⟩
abbrev cX3_proves : ByteArray := prog_1_method_14_code
def yX3_proves : MethodName := ⟨RX3, "proves", "(I)Z"⟩
abbrev cX3_border : ByteArray := prog_1_method_15_code
def yX3_border : MethodName := ⟨RX3, "border", "(I)I"⟩
abbrev cX3_runs : ByteArray := prog_1_method_16_code
def yX3_runs : MethodName := ⟨RX3, "runs", "(I)I"⟩
abbrev cX3_run : ByteArray := prog_1_method_17_code
def yX3_run : MethodName := ⟨RX3, "run", "(II)I"⟩
abbrev cX3_numberOfCell : ByteArray := prog_1_method_18_code
def yX3_numberOfCell : MethodName := ⟨RX3, "numberOfCell", "(II)I"⟩
abbrev cX3_formOf : ByteArray := prog_1_method_19_code
def yX3_formOf : MethodName := ⟨RX3, "formOf", "(I)LColourSums$Form;"⟩
abbrev cX3_inShape : ByteArray := prog_1_method_20_code
def yX3_inShape : MethodName := ⟨RX3, "inShape", "(I)Z"⟩
abbrev cX3_reachable : ByteArray := prog_1_method_21_code
def yX3_reachable : MethodName := ⟨RX3, "reachable", "(JI)Z"⟩
abbrev cX3_addPlacementSums : ByteArray := prog_1_method_22_code
def yX3_addPlacementSums : MethodName := ⟨RX3, "addPlacementSums", "(LColourSums$Form;)V"⟩
abbrev cX3_ownOver : ByteArray := prog_1_method_23_code
def yX3_ownOver : MethodName := ⟨RX3, "ownOver", "(J)I"⟩
abbrev cX3_cellOfSet : ByteArray := prog_1_method_24_code
def yX3_cellOfSet : MethodName := ⟨RX3, "cellOfSet", "(JI)I"⟩
abbrev cX3_isColourPrime : ByteArray := prog_1_method_25_code
def yX3_isColourPrime : MethodName := ⟨RX3, "isColourPrime", "(I)Z"⟩
def RX4 : String := "ColourSumsModel"
def TX4 : u_T := fun k => match k with
  | 0 => ("ColourSumsModel", "thrown", "I", false)
  | 1 => ("ColourSumsModel", "width", "I", true)
  | 2 => ("ColourSumsModel", "height", "I", true)
  | 3 => ("ColourSumsModel", "isIn", "[Z", true)
  | 4 => ("ColourSumsModel", "pieces", "I", false)
  | 5 => ("ColourSumsModel", "sizes", "[I", true)
  | 6 => ("ColourSumsModel", "squares", "[I", true)
  | 7 => ("ColourSumsModel", "own", "[I", true)
  | 8 => ("ColourSumsModel", "placed", "I", false)
  | 9 => ("ColourSumsModel", "places", "[J", true)
  | 10 => ("ColourSumsModel", "isKept", "[Z", true)
  | 11 => ("ColourSumsModel", "kept", "[I", true)
  | 12 => ("ColourSumsModel", "row", "[I", true)
  | 13 => ("ColourSumsModel", "isFound", "Z", false)
  | 14 => ("ColourSumsModel", "weights", "[I", true)
  | 15 => ("ColourSumsModel", "length", "I", false)
  | 16 => ("ColourSumsModel", "word", "[I", true)
  | 17 => ("ColourSumsModel", "runs", "I", false)
  | 18 => ("ColourSumsModel", "axes", "[I", true)
  | 19 => ("ColourSumsModel", "amounts", "[I", true)
  | _ => ("ColourSumsModel", "canBe", "[Z", true)
def tyX4 : Nat → FieldType := fun k => match k with
  | 0 => .int
  | 1 => .int
  | 2 => .int
  | 3 => .array .boolean
  | 4 => .int
  | 5 => .array .int
  | 6 => .array .int
  | 7 => .array .int
  | 8 => .int
  | 9 => .array .long
  | 10 => .array .boolean
  | 11 => .array .int
  | 12 => .array .int
  | 13 => .boolean
  | 14 => .array .int
  | 15 => .int
  | 16 => .array .int
  | 17 => .int
  | 18 => .array .int
  | 19 => .array .int
  | _ => .array .boolean
theorem nmX4 : ∀ a, a < 21 → ∀ b, b < 21 → a ≠ b → (TX4 a).2.1 ≠ (TX4 b).2.1 := by decide +kernel
theorem tyX4_ok : ∀ k, k < 21 → parseFieldDescriptor (TX4 k).2.2.1 = some (tyX4 k) := by decide +kernel
abbrev cX4_init : ByteArray := prog_6_method_1_code
def yX4_init : MethodName := ⟨RX4, "<init>", "(II)V"⟩
abbrev cX4_throwsIf : ByteArray := prog_6_method_3_code
def yX4_throwsIf : MethodName := ⟨RX4, "throwsIf", "(IZ)Z"⟩
abbrev cX4_isCell : ByteArray := prog_6_method_4_code
def yX4_isCell : MethodName := ⟨RX4, "isCell", "(II)Z"⟩
abbrev cX4_cells : ByteArray := prog_6_method_5_code
def yX4_cells : MethodName := ⟨RX4, "cells", "()I"⟩
abbrev cX4_isPiece : ByteArray := prog_6_method_6_code
def yX4_isPiece : MethodName := ⟨RX4, "isPiece", "(I)Z"⟩
abbrev cX4_cell : ByteArray := prog_6_method_7_code
def yX4_cell : MethodName := ⟨RX4, "cell", "(IIZ)Z"⟩
abbrev cX4_piece : ByteArray := prog_6_method_8_code
def yX4_piece : MethodName := ⟨RX4, "piece", "()I"⟩
abbrev cX4_square : ByteArray := prog_6_method_9_code
def yX4_square : MethodName := ⟨RX4, "square", "(III)Z"⟩
abbrev cX4_setOf : ByteArray := prog_6_method_10_code
def yX4_setOf : MethodName := ⟨RX4, "setOf", "(IIII)J"⟩
abbrev cX4_addPlace : ByteArray := prog_6_method_11_code
def yX4_addPlace : MethodName := ⟨RX4, "addPlace", "(J)V"⟩
abbrev cX4_place : ByteArray := prog_6_method_12_code
def yX4_place : MethodName := ⟨RX4, "place", "(I)V"⟩
abbrev cX4_placements : ByteArray := prog_6_method_13_code
def yX4_placements : MethodName := ⟨RX4, "placements", "(I)I"⟩
abbrev cX4_placement : ByteArray := prog_6_method_14_code
def yX4_placement : MethodName := ⟨RX4, "placement", "(III)I"⟩
abbrev cX4_size : ByteArray := prog_6_method_15_code
def yX4_size : MethodName := ⟨RX4, "size", "()I"⟩
abbrev cX4_sizes : ByteArray := prog_6_method_16_code
def yX4_sizes : MethodName := ⟨RX4, "sizes", "()Z"⟩
abbrev cX4_inverse : ByteArray := prog_6_method_17_code
def yX4_inverse : MethodName := ⟨RX4, "inverse", "(II)I"⟩
abbrev cX4_keep : ByteArray := prog_6_method_18_code
def yX4_keep : MethodName := ⟨RX4, "keep", "(I)Z"⟩
abbrev cX4_equations : ByteArray := prog_6_method_19_code
def yX4_equations : MethodName := ⟨RX4, "equations", "(I)Z"⟩
abbrev cX4_colour : ByteArray := prog_6_method_20_code
def yX4_colour : MethodName := ⟨RX4, "colour", "(I)I"⟩
abbrev cX4_weight : ByteArray := prog_6_method_21_code
def yX4_weight : MethodName := ⟨RX4, "weight", "(II)I"⟩
abbrev cX4_text : ByteArray := prog_6_method_22_code
def yX4_text : MethodName := ⟨RX4, "text", "(I)I"⟩
abbrev cX4_own : ByteArray := prog_6_method_23_code
def yX4_own : MethodName := ⟨RX4, "own", "(III)Z"⟩
abbrev cX4_sumOver : ByteArray := prog_6_method_24_code
def yX4_sumOver : MethodName := ⟨RX4, "sumOver", "()I"⟩
abbrev cX4_sum : ByteArray := prog_6_method_25_code
def yX4_sum : MethodName := ⟨RX4, "sum", "()I"⟩
abbrev cX4_countBad : ByteArray := prog_6_method_26_code
def yX4_countBad : MethodName := ⟨RX4, "countBad", "(I)I"⟩
abbrev cX4_bad : ByteArray := prog_6_method_27_code
def yX4_bad : MethodName := ⟨RX4, "bad", "(I)I"⟩
abbrev cX4_proves : ByteArray := prog_6_method_28_code
def yX4_proves : MethodName := ⟨RX4, "proves", "(I)Z"⟩
abbrev cX4_isThere : ByteArray := prog_6_method_29_code
def yX4_isThere : MethodName := ⟨RX4, "isThere", "(II)Z"⟩
abbrev cX4_isSide : ByteArray := prog_6_method_30_code
def yX4_isSide : MethodName := ⟨RX4, "isSide", "(III)Z"⟩
abbrev cX4_walk : ByteArray := prog_6_method_31_code
def yX4_walk : MethodName := ⟨RX4, "walk", "()V"⟩
abbrev cX4_border : ByteArray := prog_6_method_32_code
def yX4_border : MethodName := ⟨RX4, "border", "(I)I"⟩
abbrev cX4_takeRuns : ByteArray := prog_6_method_33_code
def yX4_takeRuns : MethodName := ⟨RX4, "takeRuns", "(I)V"⟩
abbrev cX4_runs : ByteArray := prog_6_method_34_code
def yX4_runs : MethodName := ⟨RX4, "runs", "(I)I"⟩
abbrev cX4_run : ByteArray := prog_6_method_35_code
def yX4_run : MethodName := ⟨RX4, "run", "(II)I"⟩
def RJx00060 : String := "java/lang/ArrayIndexOutOfBoundsException"
def TJx00060 : u_T := fun k => match k with
  | 0 => ("java/lang/Throwable", "backtrace", "Ljava/lang/Object;", false)
  | 1 => ("java/lang/Throwable", "detailMessage", "Ljava/lang/String;", false)
  | 2 => ("java/lang/Throwable", "cause", "Ljava/lang/Throwable;", false)
  | 3 => ("java/lang/Throwable", "stackTrace", "[Ljava/lang/StackTraceElement;", false)
  | 4 => ("java/lang/Throwable", "depth", "I", false)
  | _ => ("java/lang/Throwable", "suppressedExceptions", "Ljava/util/List;", false)
def tyJx00060 : Nat → FieldType := fun k => match k with
  | 0 => .object "java/lang/Object"
  | 1 => .object "java/lang/String"
  | 2 => .object "java/lang/Throwable"
  | 3 => .array (.object "java/lang/StackTraceElement")
  | 4 => .int
  | _ => .object "java/util/List"
theorem nmJx00060 : ∀ a, a < 6 → ∀ b, b < 6 → a ≠ b → (TJx00060 a).2.1 ≠ (TJx00060 b).2.1 := by decide +kernel
theorem tyJx00060_ok : ∀ k, k < 6 → parseFieldDescriptor (TJx00060 k).2.2.1 = some (tyJx00060 k) := by decide +kernel
abbrev cJx00060_init_a7421 : ByteArray := prog_7_method_2_code
def yJx00060_init_a7421 : MethodName := ⟨RJx00060, "<init>", "(Ljava/lang/String;)V"⟩
def RJ6 : String := "java/lang/Integer"
def TJ6 : u_T := fun k => match k with
  | _ => ("", "", "", false)
def tyJ6 : Nat → FieldType := fun k => match k with
  | _ => .int
theorem nmJ6 : ∀ a, a < 0 → ∀ b, b < 0 → a ≠ b → (TJ6 a).2.1 ≠ (TJ6 b).2.1 := by decide +kernel
theorem tyJ6_ok : ∀ k, k < 0 → parseFieldDescriptor (TJ6 k).2.2.1 = some (tyJ6 k) := by decide +kernel
abbrev cJ6_bitCount_0f7a4 : ByteArray := prog_11_method_49_code
def yJ6_bitCount_0f7a4 : MethodName := ⟨RJ6, "bitCount", "(I)I"⟩
def RJ13 : String := "java/lang/Long"
def TJ13 : u_T := fun k => match k with
  | _ => ("", "", "", false)
def tyJ13 : Nat → FieldType := fun k => match k with
  | _ => .int
theorem nmJ13 : ∀ a, a < 0 → ∀ b, b < 0 → a ≠ b → (TJ13 a).2.1 ≠ (TJ13 b).2.1 := by decide +kernel
theorem tyJ13_ok : ∀ k, k < 0 → parseFieldDescriptor (TJ13 k).2.2.1 = some (tyJ13 k) := by decide +kernel
abbrev cJ13_bitCount_95d88 : ByteArray := prog_12_method_50_code
def yJ13_bitCount_95d88 : MethodName := ⟨RJ13, "bitCount", "(J)I"⟩
def RJ9 : String := "java/lang/Math"
def TJ9 : u_T := fun k => match k with
  | _ => ("", "", "", false)
def tyJ9 : Nat → FieldType := fun k => match k with
  | _ => .int
theorem nmJ9 : ∀ a, a < 0 → ∀ b, b < 0 → a ≠ b → (TJ9 a).2.1 ≠ (TJ9 b).2.1 := by decide +kernel
theorem tyJ9_ok : ∀ k, k < 0 → parseFieldDescriptor (TJ9 k).2.2.1 = some (tyJ9 k) := by decide +kernel
abbrev cJ9_max_7cf53 : ByteArray := prog_13_method_65_code
def yJ9_max_7cf53 : MethodName := ⟨RJ9, "max", "(II)I"⟩
abbrev cJ9_min_7cf53 : ByteArray := prog_13_method_69_code
def yJ9_min_7cf53 : MethodName := ⟨RJ9, "min", "(II)I"⟩
def RJ0 : String := "java/lang/String"
def TJ0 : u_T := fun k => match k with
  | 0 => ("java/lang/String", "value", "[B", true)
  | _ => ("java/lang/String", "coder", "B", true)
def tyJ0 : Nat → FieldType := fun k => match k with
  | 0 => .array .byte
  | _ => .byte
theorem nmJ0 : ∀ a, a < 2 → ∀ b, b < 2 → a ≠ b → (TJ0 a).2.1 ≠ (TJ0 b).2.1 := by decide +kernel
theorem tyJ0_ok : ∀ k, k < 2 → parseFieldDescriptor (TJ0 k).2.2.1 = some (tyJ0 k) := by decide +kernel
def RL : String := "ColourSumsLaw"
abbrev cL_cell : ByteArray := method_2_code
def yL_cell : MethodName := ⟨RL, "cell", "([II)I"⟩
abbrev cL_cell_ : ByteArray := method_3_code
def yL_cell_ : MethodName := ⟨RL, "cell", "(LColourSums;IIZ[J)I"⟩
abbrev cL_square : ByteArray := method_4_code
def yL_square : MethodName := ⟨RL, "square", "(LColourSums;III[J)I"⟩
abbrev cL_placements : ByteArray := method_5_code
def yL_placements : MethodName := ⟨RL, "placements", "(LColourSums;I[J)I"⟩
abbrev cL_placement : ByteArray := method_6_code
def yL_placement : MethodName := ⟨RL, "placement", "(LColourSums;III[J)I"⟩
abbrev cL_weight : ByteArray := method_7_code
def yL_weight : MethodName := ⟨RL, "weight", "(LColourSums;II[J)I"⟩
abbrev cL_own : ByteArray := method_8_code
def yL_own : MethodName := ⟨RL, "own", "(LColourSums;III[J)I"⟩
abbrev cL_law : ByteArray := code
def yL_law : MethodName := ⟨RL, "law", "([I)Z"⟩
end
section
def px_y (j : Nat) : MethodName := match j with
  | 0 => yJ13_bitCount_95d88
  | 1 => yJ6_bitCount_0f7a4
  | 2 => yJ9_max_7cf53
  | 3 => yJ9_min_7cf53
  | 4 => yL_cell
  | 5 => yL_cell_
  | 6 => yL_law
  | 7 => yL_own
  | 8 => yL_placement
  | 9 => yL_placements
  | 10 => yL_square
  | 11 => yL_weight
  | 12 => yX0_add
  | 13 => yX0_begin
  | 14 => yX0_init
  | 15 => yX0_inverse
  | 16 => yX0_keepWork
  | 17 => yX0_lastCellOfWork
  | 18 => yX0_leastValue
  | 19 => yX0_subtractRow
  | 20 => yX1_cellsInCorner
  | 21 => yX1_columnsOf
  | 22 => yX1_findWays
  | 23 => yX1_init
  | 24 => yX1_insert
  | 25 => yX1_keepWay
  | 26 => yX1_placeWay
  | 27 => yX1_prepare
  | 28 => yX1_pushedToCorner
  | 29 => yX1_quarterTurned
  | 30 => yX1_rowsOf
  | 31 => yX1_size
  | 32 => yX1_take
  | 33 => yX1_turnedOver
  | 34 => yX2_fold
  | 35 => yX2_foldLetter
  | 36 => yX2_follow
  | 37 => yX2_has
  | 38 => yX2_init
  | 39 => yX2_mayGo
  | 40 => yX2_nextLetter
  | 41 => yX2_pushRun
  | 42 => yX2_trace
  | 43 => yX3_addPlacementSums
  | 44 => yX3_bad
  | 45 => yX3_border
  | 46 => yX3_cell
  | 47 => yX3_cellOfSet
  | 48 => yX3_colour
  | 49 => yX3_formOf
  | 50 => yX3_inShape
  | 51 => yX3_init
  | 52 => yX3_isColourPrime
  | 53 => yX3_numberOfCell
  | 54 => yX3_own
  | 55 => yX3_ownOver
  | 56 => yX3_piece
  | 57 => yX3_placement
  | 58 => yX3_placements
  | 59 => yX3_proves
  | 60 => yX3_reachable
  | 61 => yX3_run
  | 62 => yX3_runs
  | 63 => yX3_sizes
  | 64 => yX3_square
  | 65 => yX3_sum
  | 66 => yX3_text
  | 67 => yX3_weight
  | 68 => yX4_addPlace
  | 69 => yX4_bad
  | 70 => yX4_border
  | 71 => yX4_cell
  | 72 => yX4_cells
  | 73 => yX4_colour
  | 74 => yX4_countBad
  | 75 => yX4_equations
  | 76 => yX4_init
  | 77 => yX4_inverse
  | 78 => yX4_isCell
  | 79 => yX4_isPiece
  | 80 => yX4_isSide
  | 81 => yX4_isThere
  | 82 => yX4_keep
  | 83 => yX4_own
  | 84 => yX4_piece
  | 85 => yX4_place
  | 86 => yX4_placement
  | 87 => yX4_placements
  | 88 => yX4_proves
  | 89 => yX4_run
  | 90 => yX4_runs
  | 91 => yX4_setOf
  | 92 => yX4_size
  | 93 => yX4_sizes
  | 94 => yX4_square
  | 95 => yX4_sum
  | 96 => yX4_sumOver
  | 97 => yX4_takeRuns
  | 98 => yX4_text
  | 99 => yX4_throwsIf
  | 100 => yX4_walk
  | 101 => yX4_weight
  | _ => ⟨"", "", ""⟩
def px_c (j : Nat) : ByteArray := match j with
  | 0 => cJ13_bitCount_95d88
  | 1 => cJ6_bitCount_0f7a4
  | 2 => cJ9_max_7cf53
  | 3 => cJ9_min_7cf53
  | 4 => cL_cell
  | 5 => cL_cell_
  | 6 => cL_law
  | 7 => cL_own
  | 8 => cL_placement
  | 9 => cL_placements
  | 10 => cL_square
  | 11 => cL_weight
  | 12 => cX0_add
  | 13 => cX0_begin
  | 14 => cX0_init
  | 15 => cX0_inverse
  | 16 => cX0_keepWork
  | 17 => cX0_lastCellOfWork
  | 18 => cX0_leastValue
  | 19 => cX0_subtractRow
  | 20 => cX1_cellsInCorner
  | 21 => cX1_columnsOf
  | 22 => cX1_findWays
  | 23 => cX1_init
  | 24 => cX1_insert
  | 25 => cX1_keepWay
  | 26 => cX1_placeWay
  | 27 => cX1_prepare
  | 28 => cX1_pushedToCorner
  | 29 => cX1_quarterTurned
  | 30 => cX1_rowsOf
  | 31 => cX1_size
  | 32 => cX1_take
  | 33 => cX1_turnedOver
  | 34 => cX2_fold
  | 35 => cX2_foldLetter
  | 36 => cX2_follow
  | 37 => cX2_has
  | 38 => cX2_init
  | 39 => cX2_mayGo
  | 40 => cX2_nextLetter
  | 41 => cX2_pushRun
  | 42 => cX2_trace
  | 43 => cX3_addPlacementSums
  | 44 => cX3_bad
  | 45 => cX3_border
  | 46 => cX3_cell
  | 47 => cX3_cellOfSet
  | 48 => cX3_colour
  | 49 => cX3_formOf
  | 50 => cX3_inShape
  | 51 => cX3_init
  | 52 => cX3_isColourPrime
  | 53 => cX3_numberOfCell
  | 54 => cX3_own
  | 55 => cX3_ownOver
  | 56 => cX3_piece
  | 57 => cX3_placement
  | 58 => cX3_placements
  | 59 => cX3_proves
  | 60 => cX3_reachable
  | 61 => cX3_run
  | 62 => cX3_runs
  | 63 => cX3_sizes
  | 64 => cX3_square
  | 65 => cX3_sum
  | 66 => cX3_text
  | 67 => cX3_weight
  | 68 => cX4_addPlace
  | 69 => cX4_bad
  | 70 => cX4_border
  | 71 => cX4_cell
  | 72 => cX4_cells
  | 73 => cX4_colour
  | 74 => cX4_countBad
  | 75 => cX4_equations
  | 76 => cX4_init
  | 77 => cX4_inverse
  | 78 => cX4_isCell
  | 79 => cX4_isPiece
  | 80 => cX4_isSide
  | 81 => cX4_isThere
  | 82 => cX4_keep
  | 83 => cX4_own
  | 84 => cX4_piece
  | 85 => cX4_place
  | 86 => cX4_placement
  | 87 => cX4_placements
  | 88 => cX4_proves
  | 89 => cX4_run
  | 90 => cX4_runs
  | 91 => cX4_setOf
  | 92 => cX4_size
  | 93 => cX4_sizes
  | 94 => cX4_square
  | 95 => cX4_sum
  | 96 => cX4_sumOver
  | 97 => cX4_takeRuns
  | 98 => cX4_text
  | 99 => cX4_throwsIf
  | 100 => cX4_walk
  | 101 => cX4_weight
  | _ => ⟨#[]⟩
def px_ml (j : Nat) : Nat := match j with
  | 0 => 2
  | 1 => 1
  | 2 => 2
  | 3 => 2
  | 4 => 2
  | 5 => 6
  | 6 => 7
  | 7 => 6
  | 8 => 6
  | 9 => 4
  | 10 => 6
  | 11 => 5
  | 12 => 5
  | 13 => 3
  | 14 => 2
  | 15 => 3
  | 16 => 5
  | 17 => 2
  | 18 => 2
  | 19 => 7
  | 20 => 5
  | 21 => 3
  | 22 => 3
  | 23 => 3
  | 24 => 4
  | 25 => 3
  | 26 => 10
  | 27 => 4
  | 28 => 3
  | 29 => 5
  | 30 => 3
  | 31 => 1
  | 32 => 4
  | 33 => 4
  | 34 => 4
  | 35 => 6
  | 36 => 7
  | 37 => 3
  | 38 => 3
  | 39 => 4
  | 40 => 5
  | 41 => 3
  | 42 => 4
  | 43 => 3
  | 44 => 6
  | 45 => 2
  | 46 => 5
  | 47 => 6
  | 48 => 3
  | 49 => 2
  | 50 => 2
  | 51 => 5
  | 52 => 1
  | 53 => 3
  | 54 => 5
  | 55 => 5
  | 56 => 1
  | 57 => 5
  | 58 => 3
  | 59 => 2
  | 60 => 6
  | 61 => 3
  | 62 => 2
  | 63 => 4
  | 64 => 5
  | 65 => 1
  | 66 => 5
  | 67 => 4
  | 68 => 5
  | 69 => 2
  | 70 => 2
  | 71 => 4
  | 72 => 1
  | 73 => 5
  | 74 => 7
  | 75 => 5
  | 76 => 3
  | 77 => 3
  | 78 => 3
  | 79 => 2
  | 80 => 4
  | 81 => 3
  | 82 => 5
  | 83 => 4
  | 84 => 1
  | 85 => 7
  | 86 => 6
  | 87 => 2
  | 88 => 2
  | 89 => 3
  | 90 => 2
  | 91 => 12
  | 92 => 3
  | 93 => 4
  | 94 => 5
  | 95 => 1
  | 96 => 3
  | 97 => 4
  | 98 => 4
  | 99 => 3
  | 100 => 6
  | 101 => 3
  | _ => 0
def px_rt (j : Nat) : Option FieldType := match j with
  | 0 => (Option.some Jvm.ClassFile.FieldType.int)
  | 1 => (Option.some Jvm.ClassFile.FieldType.int)
  | 2 => (Option.some Jvm.ClassFile.FieldType.int)
  | 3 => (Option.some Jvm.ClassFile.FieldType.int)
  | 4 => (Option.some Jvm.ClassFile.FieldType.int)
  | 5 => (Option.some Jvm.ClassFile.FieldType.int)
  | 6 => ret
  | 7 => (Option.some Jvm.ClassFile.FieldType.int)
  | 8 => (Option.some Jvm.ClassFile.FieldType.int)
  | 9 => (Option.some Jvm.ClassFile.FieldType.int)
  | 10 => (Option.some Jvm.ClassFile.FieldType.int)
  | 11 => (Option.some Jvm.ClassFile.FieldType.int)
  | 12 => (Option.some Jvm.ClassFile.FieldType.boolean)
  | 13 => (Option.none : Option Jvm.ClassFile.FieldType)
  | 14 => (Option.none : Option Jvm.ClassFile.FieldType)
  | 15 => (Option.some Jvm.ClassFile.FieldType.int)
  | 16 => (Option.none : Option Jvm.ClassFile.FieldType)
  | 17 => (Option.some Jvm.ClassFile.FieldType.int)
  | 18 => (Option.some Jvm.ClassFile.FieldType.int)
  | 19 => (Option.none : Option Jvm.ClassFile.FieldType)
  | 20 => (Option.some Jvm.ClassFile.FieldType.long)
  | 21 => (Option.some Jvm.ClassFile.FieldType.int)
  | 22 => (Option.none : Option Jvm.ClassFile.FieldType)
  | 23 => (Option.none : Option Jvm.ClassFile.FieldType)
  | 24 => (Option.none : Option Jvm.ClassFile.FieldType)
  | 25 => (Option.none : Option Jvm.ClassFile.FieldType)
  | 26 => (Option.none : Option Jvm.ClassFile.FieldType)
  | 27 => (Option.none : Option Jvm.ClassFile.FieldType)
  | 28 => (Option.some Jvm.ClassFile.FieldType.int)
  | 29 => (Option.some Jvm.ClassFile.FieldType.int)
  | 30 => (Option.some Jvm.ClassFile.FieldType.int)
  | 31 => (Option.some Jvm.ClassFile.FieldType.int)
  | 32 => (Option.some Jvm.ClassFile.FieldType.boolean)
  | 33 => (Option.some Jvm.ClassFile.FieldType.int)
  | 34 => (Option.none : Option Jvm.ClassFile.FieldType)
  | 35 => (Option.none : Option Jvm.ClassFile.FieldType)
  | 36 => (Option.none : Option Jvm.ClassFile.FieldType)
  | 37 => (Option.some Jvm.ClassFile.FieldType.boolean)
  | 38 => (Option.none : Option Jvm.ClassFile.FieldType)
  | 39 => (Option.some Jvm.ClassFile.FieldType.boolean)
  | 40 => (Option.some Jvm.ClassFile.FieldType.int)
  | 41 => (Option.none : Option Jvm.ClassFile.FieldType)
  | 42 => (Option.none : Option Jvm.ClassFile.FieldType)
  | 43 => (Option.none : Option Jvm.ClassFile.FieldType)
  | 44 => (Option.some Jvm.ClassFile.FieldType.int)
  | 45 => (Option.some Jvm.ClassFile.FieldType.int)
  | 46 => (Option.some Jvm.ClassFile.FieldType.boolean)
  | 47 => (Option.some Jvm.ClassFile.FieldType.int)
  | 48 => (Option.some Jvm.ClassFile.FieldType.int)
  | 49 => (Option.some (Jvm.ClassFile.FieldType.object "ColourSums$Form"))
  | 50 => (Option.some Jvm.ClassFile.FieldType.boolean)
  | 51 => (Option.none : Option Jvm.ClassFile.FieldType)
  | 52 => (Option.some Jvm.ClassFile.FieldType.boolean)
  | 53 => (Option.some Jvm.ClassFile.FieldType.int)
  | 54 => (Option.some Jvm.ClassFile.FieldType.boolean)
  | 55 => (Option.some Jvm.ClassFile.FieldType.int)
  | 56 => (Option.some Jvm.ClassFile.FieldType.int)
  | 57 => (Option.some Jvm.ClassFile.FieldType.int)
  | 58 => (Option.some Jvm.ClassFile.FieldType.int)
  | 59 => (Option.some Jvm.ClassFile.FieldType.boolean)
  | 60 => (Option.some Jvm.ClassFile.FieldType.boolean)
  | 61 => (Option.some Jvm.ClassFile.FieldType.int)
  | 62 => (Option.some Jvm.ClassFile.FieldType.int)
  | 63 => (Option.some Jvm.ClassFile.FieldType.boolean)
  | 64 => (Option.some Jvm.ClassFile.FieldType.boolean)
  | 65 => (Option.some Jvm.ClassFile.FieldType.int)
  | 66 => (Option.some Jvm.ClassFile.FieldType.int)
  | 67 => (Option.some Jvm.ClassFile.FieldType.int)
  | 68 => (Option.none : Option Jvm.ClassFile.FieldType)
  | 69 => (Option.some Jvm.ClassFile.FieldType.int)
  | 70 => (Option.some Jvm.ClassFile.FieldType.int)
  | 71 => (Option.some Jvm.ClassFile.FieldType.boolean)
  | 72 => (Option.some Jvm.ClassFile.FieldType.int)
  | 73 => (Option.some Jvm.ClassFile.FieldType.int)
  | 74 => (Option.some Jvm.ClassFile.FieldType.int)
  | 75 => (Option.some Jvm.ClassFile.FieldType.boolean)
  | 76 => (Option.none : Option Jvm.ClassFile.FieldType)
  | 77 => (Option.some Jvm.ClassFile.FieldType.int)
  | 78 => (Option.some Jvm.ClassFile.FieldType.boolean)
  | 79 => (Option.some Jvm.ClassFile.FieldType.boolean)
  | 80 => (Option.some Jvm.ClassFile.FieldType.boolean)
  | 81 => (Option.some Jvm.ClassFile.FieldType.boolean)
  | 82 => (Option.some Jvm.ClassFile.FieldType.boolean)
  | 83 => (Option.some Jvm.ClassFile.FieldType.boolean)
  | 84 => (Option.some Jvm.ClassFile.FieldType.int)
  | 85 => (Option.none : Option Jvm.ClassFile.FieldType)
  | 86 => (Option.some Jvm.ClassFile.FieldType.int)
  | 87 => (Option.some Jvm.ClassFile.FieldType.int)
  | 88 => (Option.some Jvm.ClassFile.FieldType.boolean)
  | 89 => (Option.some Jvm.ClassFile.FieldType.int)
  | 90 => (Option.some Jvm.ClassFile.FieldType.int)
  | 91 => (Option.some Jvm.ClassFile.FieldType.long)
  | 92 => (Option.some Jvm.ClassFile.FieldType.int)
  | 93 => (Option.some Jvm.ClassFile.FieldType.boolean)
  | 94 => (Option.some Jvm.ClassFile.FieldType.boolean)
  | 95 => (Option.some Jvm.ClassFile.FieldType.int)
  | 96 => (Option.some Jvm.ClassFile.FieldType.int)
  | 97 => (Option.none : Option Jvm.ClassFile.FieldType)
  | 98 => (Option.some Jvm.ClassFile.FieldType.int)
  | 99 => (Option.some Jvm.ClassFile.FieldType.boolean)
  | 100 => (Option.none : Option Jvm.ClassFile.FieldType)
  | 101 => (Option.some Jvm.ClassFile.FieldType.int)
  | _ => none
def px_hh (j : Nat) : List (Nat × Nat × Nat × Nat) := match j with
  | 5 => [((0 : Nat), (19 : Nat), (22 : Nat), (13 : Nat))]
  | 7 => [((0 : Nat), (19 : Nat), (22 : Nat), (13 : Nat))]
  | 8 => [((0 : Nat), (12 : Nat), (15 : Nat), (13 : Nat))]
  | 9 => [((0 : Nat), (9 : Nat), (12 : Nat), (13 : Nat))]
  | 10 => [((0 : Nat), (19 : Nat), (22 : Nat), (13 : Nat)), ((0 : Nat), (19 : Nat), (26 : Nat), (19 : Nat))]
  | 11 => [((0 : Nat), (10 : Nat), (13 : Nat), (13 : Nat))]
  | _ => []
def px_cn (j : Nat) : Nat := match j with
  | 0 => 7
  | 1 => 6
  | 2 => 8
  | 3 => 8
  | 4 => 5
  | 5 => 5
  | 6 => 5
  | 7 => 5
  | 8 => 5
  | 9 => 5
  | 10 => 5
  | 11 => 5
  | 12 => 0
  | 13 => 0
  | 14 => 0
  | 15 => 0
  | 16 => 0
  | 17 => 0
  | 18 => 0
  | 19 => 0
  | 20 => 1
  | 21 => 1
  | 22 => 1
  | 23 => 1
  | 24 => 1
  | 25 => 1
  | 26 => 1
  | 27 => 1
  | 28 => 1
  | 29 => 1
  | 30 => 1
  | 31 => 1
  | 32 => 1
  | 33 => 1
  | 34 => 2
  | 35 => 2
  | 36 => 2
  | 37 => 2
  | 38 => 2
  | 39 => 2
  | 40 => 2
  | 41 => 2
  | 42 => 2
  | 43 => 3
  | 44 => 3
  | 45 => 3
  | 46 => 3
  | 47 => 3
  | 48 => 3
  | 49 => 3
  | 50 => 3
  | 51 => 3
  | 52 => 3
  | 53 => 3
  | 54 => 3
  | 55 => 3
  | 56 => 3
  | 57 => 3
  | 58 => 3
  | 59 => 3
  | 60 => 3
  | 61 => 3
  | 62 => 3
  | 63 => 3
  | 64 => 3
  | 65 => 3
  | 66 => 3
  | 67 => 3
  | 68 => 4
  | 69 => 4
  | 70 => 4
  | 71 => 4
  | 72 => 4
  | 73 => 4
  | 74 => 4
  | 75 => 4
  | 76 => 4
  | 77 => 4
  | 78 => 4
  | 79 => 4
  | 80 => 4
  | 81 => 4
  | 82 => 4
  | 83 => 4
  | 84 => 4
  | 85 => 4
  | 86 => 4
  | 87 => 4
  | 88 => 4
  | 89 => 4
  | 90 => 4
  | 91 => 4
  | 92 => 4
  | 93 => 4
  | 94 => 4
  | 95 => 4
  | 96 => 4
  | 97 => 4
  | 98 => 4
  | 99 => 4
  | 100 => 4
  | 101 => 4
  | _ => 99
def px_pc (j : Nat) : Nat := match j with
  | 0 => 220
  | 1 => 214
  | 2 => 67
  | 3 => 64
  | 4 => 372
  | 5 => 375
  | 7 => 539
  | 8 => 522
  | 9 => 515
  | 10 => 464
  | 11 => 532
  | 12 => 266
  | 13 => 234
  | 14 => 108
  | 15 => 282
  | 16 => 278
  | 17 => 274
  | 18 => 286
  | 19 => 270
  | 20 => 257
  | 21 => 250
  | 22 => 499
  | 23 => 73
  | 24 => 262
  | 25 => 509
  | 26 => 247
  | 27 => 243
  | 28 => 505
  | 29 => 512
  | 30 => 253
  | 31 => 211
  | 32 => 494
  | 33 => 502
  | 34 => 356
  | 35 => 360
  | 36 => 324
  | 37 => 344
  | 38 => 133
  | 39 => 336
  | 40 => 332
  | 41 => 364
  | 42 => 319
  | 43 => 239
  | 44 => 306
  | 45 => 315
  | 46 => 454
  | 47 => 529
  | 48 => 227
  | 49 => 473
  | 50 => 294
  | 51 => 58
  | 52 => 230
  | 53 => 458
  | 54 => 543
  | 55 => 302
  | 56 => 199
  | 57 => 526
  | 58 => 519
  | 59 => 310
  | 60 => 207
  | 61 => 368
  | 62 => 352
  | 63 => 203
  | 64 => 469
  | 65 => 298
  | 66 => 290
  | 67 => 536
  | 68 => 653
  | 69 => 708
  | 70 => 720
  | 71 => 617
  | 72 => 661
  | 73 => 673
  | 74 => 712
  | 75 => 677
  | 76 => 548
  | 77 => 684
  | 78 => 621
  | 79 => 637
  | 80 => 728
  | 81 => 732
  | 82 => 681
  | 83 => 696
  | 84 => 629
  | 85 => 645
  | 86 => 657
  | 87 => 641
  | 88 => 716
  | 89 => 744
  | 90 => 736
  | 91 => 649
  | 92 => 669
  | 93 => 665
  | 94 => 633
  | 95 => 700
  | 96 => 704
  | 97 => 740
  | 98 => 692
  | 99 => 625
  | 100 => 724
  | 101 => 688
  | _ => 0
def px_kd (j : Nat) : Nat := match j with
  | 0 => 0
  | 1 => 0
  | 2 => 0
  | 3 => 0
  | 4 => 0
  | 5 => 0
  | 6 => 0
  | 7 => 0
  | 8 => 0
  | 9 => 0
  | 10 => 0
  | 11 => 0
  | 12 => 1
  | 13 => 1
  | 14 => 2
  | 15 => 1
  | 16 => 1
  | 17 => 1
  | 18 => 1
  | 19 => 1
  | 20 => 1
  | 21 => 0
  | 22 => 1
  | 23 => 2
  | 24 => 1
  | 25 => 1
  | 26 => 1
  | 27 => 1
  | 28 => 0
  | 29 => 0
  | 30 => 0
  | 31 => 1
  | 32 => 1
  | 33 => 0
  | 34 => 1
  | 35 => 1
  | 36 => 1
  | 37 => 1
  | 38 => 2
  | 39 => 1
  | 40 => 1
  | 41 => 1
  | 42 => 1
  | 43 => 1
  | 44 => 1
  | 45 => 1
  | 46 => 1
  | 47 => 0
  | 48 => 1
  | 49 => 1
  | 50 => 1
  | 51 => 2
  | 52 => 0
  | 53 => 1
  | 54 => 1
  | 55 => 1
  | 56 => 1
  | 57 => 1
  | 58 => 1
  | 59 => 1
  | 60 => 1
  | 61 => 1
  | 62 => 1
  | 63 => 1
  | 64 => 1
  | 65 => 1
  | 66 => 1
  | 67 => 1
  | 68 => 1
  | 69 => 1
  | 70 => 1
  | 71 => 1
  | 72 => 1
  | 73 => 1
  | 74 => 1
  | 75 => 1
  | 76 => 2
  | 77 => 0
  | 78 => 1
  | 79 => 1
  | 80 => 1
  | 81 => 1
  | 82 => 1
  | 83 => 1
  | 84 => 1
  | 85 => 1
  | 86 => 1
  | 87 => 1
  | 88 => 1
  | 89 => 1
  | 90 => 1
  | 91 => 1
  | 92 => 1
  | 93 => 1
  | 94 => 1
  | 95 => 1
  | 96 => 1
  | 97 => 1
  | 98 => 1
  | 99 => 1
  | 100 => 1
  | 101 => 1
  | _ => 9
def px_np (j : Nat) : Nat := match j with
  | 0 => 1
  | 1 => 1
  | 2 => 2
  | 3 => 2
  | 4 => 2
  | 5 => 5
  | 6 => 1
  | 7 => 5
  | 8 => 5
  | 9 => 3
  | 10 => 5
  | 11 => 4
  | 12 => 2
  | 13 => 1
  | 14 => 1
  | 15 => 1
  | 16 => 1
  | 17 => 0
  | 18 => 1
  | 19 => 3
  | 20 => 1
  | 21 => 1
  | 22 => 0
  | 23 => 2
  | 24 => 1
  | 25 => 1
  | 26 => 1
  | 27 => 1
  | 28 => 1
  | 29 => 1
  | 30 => 1
  | 31 => 0
  | 32 => 2
  | 33 => 1
  | 34 => 1
  | 35 => 3
  | 36 => 2
  | 37 => 2
  | 38 => 2
  | 39 => 3
  | 40 => 3
  | 41 => 2
  | 42 => 1
  | 43 => 1
  | 44 => 1
  | 45 => 1
  | 46 => 3
  | 47 => 2
  | 48 => 1
  | 49 => 1
  | 50 => 1
  | 51 => 2
  | 52 => 1
  | 53 => 2
  | 54 => 3
  | 55 => 1
  | 56 => 0
  | 57 => 3
  | 58 => 1
  | 59 => 1
  | 60 => 2
  | 61 => 2
  | 62 => 1
  | 63 => 0
  | 64 => 3
  | 65 => 0
  | 66 => 1
  | 67 => 2
  | 68 => 1
  | 69 => 1
  | 70 => 1
  | 71 => 3
  | 72 => 0
  | 73 => 1
  | 74 => 1
  | 75 => 1
  | 76 => 2
  | 77 => 2
  | 78 => 2
  | 79 => 1
  | 80 => 3
  | 81 => 2
  | 82 => 1
  | 83 => 3
  | 84 => 0
  | 85 => 1
  | 86 => 3
  | 87 => 1
  | 88 => 1
  | 89 => 2
  | 90 => 1
  | 91 => 4
  | 92 => 0
  | 93 => 0
  | 94 => 3
  | 95 => 0
  | 96 => 0
  | 97 => 1
  | 98 => 1
  | 99 => 2
  | 100 => 0
  | 101 => 2
  | _ => 0
def px_R (j : Nat) : String := match j with
  | 0 => RX0
  | 1 => RX1
  | 2 => RX2
  | 3 => RX3
  | 4 => RX4
  | 5 => RL
  | 6 => RJ6
  | 7 => RJ13
  | 8 => RJ9
  | _ => ""
def px_t0 : List (Nat × Instr) := [(0, .lload_n 0), (1, .lload_n 0), (2, .iconst 1), (3, .lushr), (4, .ldc2_w 314), (7, .land), (8, .lsub), (9, .lstore_n 0), (10, .lload_n 0), (11, .ldc2_w 316), (14, .land), (15, .lload_n 0), (16, .iconst 2), (17, .lushr), (18, .ldc2_w 316), (21, .land), (22, .ladd), (23, .lstore_n 0), (24, .lload_n 0), (25, .lload_n 0), (26, .iconst 4), (27, .lushr), (28, .ladd), (29, .ldc2_w 318), (32, .land), (33, .lstore_n 0), (34, .lload_n 0), (35, .lload_n 0), (36, .bipush 8), (38, .lushr), (39, .ladd), (40, .lstore_n 0), (41, .lload_n 0), (42, .lload_n 0), (43, .bipush 16), (45, .lushr), (46, .ladd), (47, .lstore_n 0), (48, .lload_n 0), (49, .lload_n 0), (50, .bipush 32), (52, .lushr), (53, .ladd), (54, .lstore_n 0), (55, .lload_n 0), (56, .l2i), (57, .bipush 127), (59, .iand), (60, .ireturn)]
def px_t1 : List (Nat × Instr) := [(0, .iload_n 0), (1, .iload_n 0), (2, .iconst 1), (3, .iushr), (4, .ldc_w 265), (7, .iand), (8, .isub), (9, .istore_n 0), (10, .iload_n 0), (11, .ldc_w 266), (14, .iand), (15, .iload_n 0), (16, .iconst 2), (17, .iushr), (18, .ldc_w 266), (21, .iand), (22, .iadd), (23, .istore_n 0), (24, .iload_n 0), (25, .iload_n 0), (26, .iconst 4), (27, .iushr), (28, .iadd), (29, .ldc_w 267), (32, .iand), (33, .istore_n 0), (34, .iload_n 0), (35, .iload_n 0), (36, .bipush 8), (38, .iushr), (39, .iadd), (40, .istore_n 0), (41, .iload_n 0), (42, .iload_n 0), (43, .bipush 16), (45, .iushr), (46, .iadd), (47, .istore_n 0), (48, .iload_n 0), (49, .bipush 63), (51, .iand), (52, .ireturn)]
def px_t2 : List (Nat × Instr) := [(0, .iload_n 0), (1, .iload_n 1), (2, .if_icmp .lt 7), (5, .iload_n 0), (6, .goto 4), (9, .iload_n 1), (10, .ireturn)]
def px_t3 : List (Nat × Instr) := [(0, .iload_n 0), (1, .iload_n 1), (2, .if_icmp .gt 7), (5, .iload_n 0), (6, .goto 4), (9, .iload_n 1), (10, .ireturn)]
def px_t4 : List (Nat × Instr) := [(0, .iload_n 1), (1, .aload_n 0), (2, .arraylength), (3, .if_icmp .ge 9), (6, .aload_n 0), (7, .iload_n 1), (8, .iaload), (9, .goto 4), (12, .iconst 0), (13, .ireturn)]
def px_t5 : List (Nat × Instr) := [(0, .aload 4), (2, .iconst 0), (3, .aload_n 0), (4, .iload_n 1), (5, .iload_n 2), (6, .iload_n 3), (7, .invokevirtual 7), (10, .ifCond .eq 7), (13, .lconst 1), (14, .goto 4), (17, .lconst 0), (18, .lastore), (19, .goto 7), (22, .astore 5), (24, .iconst 1), (25, .ireturn), (26, .iconst 0), (27, .ireturn)]
def px_t6 : List (Nat × Instr) := [(0, .new 8), (3, .dup), (4, .aload_n 0), (5, .iconst 0), (6, .invokestatic 36), (9, .aload_n 0), (10, .iconst 1), (11, .invokestatic 36), (14, .invokespecial 41), (17, .astore_n 1), (18, .new 44), (21, .dup), (22, .aload_n 0), (23, .iconst 0), (24, .invokestatic 36), (27, .aload_n 0), (28, .iconst 1), (29, .invokestatic 36), (32, .invokespecial 46), (35, .astore_n 2), (36, .iconst 1), (37, .newarray .long), (39, .astore_n 3), (40, .iconst 2), (41, .istore 4), (43, .iload 4), (45, .aload_n 0), (46, .arraylength), (47, .iconst 4), (48, .isub), (49, .if_icmp .gt 611), (52, .aload_n 0), (53, .iload 4), (55, .iaload), (56, .bipush 15), (58, .iand), (59, .tableswitch 595 0 15 #[77, 145, 158, 210, 238, 290, 303, 328, 368, 393, 445, 458, 483, 508, 533, 558]), (136, .aload_n 1), (137, .aload_n 0), (138, .iload 4), (140, .iconst 1), (141, .iadd), (142, .iaload), (143, .aload_n 0), (144, .iload 4), (146, .iconst 2), (147, .iadd), (148, .iaload), (149, .aload_n 0), (150, .iload 4), (152, .iconst 3), (153, .iadd), (154, .iaload), (155, .ifCond .eq 7), (158, .iconst 1), (159, .goto 4), (162, .iconst 0), (163, .aload_n 3), (164, .invokestatic 47), (167, .istore 5), (169, .aload_n 2), (170, .aload_n 0), (171, .iload 4), (173, .iconst 1), (174, .iadd), (175, .iaload), (176, .aload_n 0), (177, .iload 4), (179, .iconst 2), (180, .iadd), (181, .iaload), (182, .aload_n 0), (183, .iload 4), (185, .iconst 3), (186, .iadd), (187, .iaload), (188, .ifCond .eq 7), (191, .iconst 1), (192, .goto 4), (195, .iconst 0), (196, .invokevirtual 50), (199, .istore 6), (201, .goto 453), (204, .aload_n 1), (205, .invokevirtual 51), (208, .pop), (209, .aload_n 2), (210, .invokevirtual 55), (213, .pop), (214, .goto 440), (217, .aload_n 1), (218, .aload_n 0), (219, .iload 4), (221, .iconst 1), (222, .iadd), (223, .iaload), (224, .aload_n 0), (225, .iload 4), (227, .iconst 2), (228, .iadd), (229, .iaload), (230, .aload_n 0), (231, .iload 4), (233, .iconst 3), (234, .iadd), (235, .iaload), (236, .aload_n 3), (237, .invokestatic 56), (240, .istore 5), (242, .aload_n 2), (243, .aload_n 0), (244, .iload 4), (246, .iconst 1), (247, .iadd), (248, .iaload), (249, .aload_n 0), (250, .iload 4), (252, .iconst 2), (253, .iadd), (254, .iaload), (255, .aload_n 0), (256, .iload 4), (258, .iconst 3), (259, .iadd), (260, .iaload), (261, .invokevirtual 59), (264, .istore 6), (266, .goto 388), (269, .aload_n 1), (270, .aload_n 0), (271, .iload 4), (273, .iconst 1), (274, .iadd), (275, .iaload), (276, .aload_n 3), (277, .invokestatic 60), (280, .istore 5), (282, .aload_n 2), (283, .aload_n 0), (284, .iload 4), (286, .iconst 1), (287, .iadd), (288, .iaload), (289, .invokevirtual 63), (292, .istore 6), (294, .goto 360), (297, .aload_n 1), (298, .aload_n 0), (299, .iload 4), (301, .iconst 1), (302, .iadd), (303, .iaload), (304, .aload_n 0), (305, .iload 4), (307, .iconst 2), (308, .iadd), (309, .iaload), (310, .aload_n 0), (311, .iload 4), (313, .iconst 3), (314, .iadd), (315, .iaload), (316, .aload_n 3), (317, .invokestatic 64), (320, .istore 5), (322, .aload_n 2), (323, .aload_n 0), (324, .iload 4), (326, .iconst 1), (327, .iadd), (328, .iaload), (329, .aload_n 0), (330, .iload 4), (332, .iconst 2), (333, .iadd), (334, .iaload), (335, .aload_n 0), (336, .iload 4), (338, .iconst 3), (339, .iadd), (340, .iaload), (341, .invokevirtual 66), (344, .istore 6), (346, .goto 308), (349, .aload_n 1), (350, .invokevirtual 67), (353, .pop), (354, .aload_n 2), (355, .invokevirtual 71), (358, .pop), (359, .goto 295), (362, .aload_n 1), (363, .aload_n 0), (364, .iload 4), (366, .iconst 1), (367, .iadd), (368, .iaload), (369, .invokevirtual 72), (372, .pop), (373, .aload_n 2), (374, .aload_n 0), (375, .iload 4), (377, .iconst 1), (378, .iadd), (379, .iaload), (380, .invokevirtual 75), (383, .pop), (384, .goto 270), (387, .aload_n 1), (388, .aload_n 0), (389, .iload 4), (391, .iconst 1), (392, .iadd), (393, .iaload), (394, .aload_n 0), (395, .iload 4), (397, .iconst 2), (398, .iadd), (399, .iaload), (400, .aload_n 3), (401, .invokestatic 76), (404, .istore 5), (406, .aload_n 2), (407, .aload_n 0), (408, .iload 4), (410, .iconst 1), (411, .iadd), (412, .iaload), (413, .aload_n 0), (414, .iload 4), (416, .iconst 2), (417, .iadd), (418, .iaload), (419, .invokevirtual 79), (422, .istore 6), (424, .goto 230), (427, .aload_n 1), (428, .aload_n 0), (429, .iload 4), (431, .iconst 1), (432, .iadd), (433, .iaload), (434, .invokevirtual 80), (437, .aload_n 2), (438, .aload_n 0), (439, .iload 4), (441, .iconst 1), (442, .iadd), (443, .iaload), (444, .invokevirtual 83), (447, .if_icmp .eq 207), (450, .iconst 0), (451, .ireturn), (452, .aload_n 1), (453, .aload_n 0), (454, .iload 4), (456, .iconst 1), (457, .iadd), (458, .iaload), (459, .aload_n 0), (460, .iload 4), (462, .iconst 2), (463, .iadd), (464, .iaload), (465, .aload_n 0), (466, .iload 4), (468, .iconst 3), (469, .iadd), (470, .iaload), (471, .aload_n 3), (472, .invokestatic 84), (475, .istore 5), (477, .aload_n 2), (478, .aload_n 0), (479, .iload 4), (481, .iconst 1), (482, .iadd), (483, .iaload), (484, .aload_n 0), (485, .iload 4), (487, .iconst 2), (488, .iadd), (489, .iaload), (490, .aload_n 0), (491, .iload 4), (493, .iconst 3), (494, .iadd), (495, .iaload), (496, .invokevirtual 86), (499, .istore 6), (501, .goto 153), (504, .aload_n 1), (505, .invokevirtual 87), (508, .pop), (509, .aload_n 2), (510, .invokevirtual 90), (513, .pop), (514, .goto 140), (517, .aload_n 1), (518, .aload_n 0), (519, .iload 4), (521, .iconst 1), (522, .iadd), (523, .iaload), (524, .invokevirtual 91), (527, .pop), (528, .aload_n 2), (529, .aload_n 0), (530, .iload 4), (532, .iconst 1), (533, .iadd), (534, .iaload), (535, .invokevirtual 94), (538, .pop), (539, .goto 115), (542, .aload_n 1), (543, .aload_n 0), (544, .iload 4), (546, .iconst 1), (547, .iadd), (548, .iaload), (549, .invokevirtual 95), (552, .pop), (553, .aload_n 2), (554, .aload_n 0), (555, .iload 4), (557, .iconst 1), (558, .iadd), (559, .iaload), (560, .invokevirtual 99), (563, .pop), (564, .goto 90), (567, .aload_n 1), (568, .aload_n 0), (569, .iload 4), (571, .iconst 1), (572, .iadd), (573, .iaload), (574, .invokevirtual 100), (577, .pop), (578, .aload_n 2), (579, .aload_n 0), (580, .iload 4), (582, .iconst 1), (583, .iadd), (584, .iaload), (585, .invokevirtual 103), (588, .pop), (589, .goto 65), (592, .aload_n 1), (593, .aload_n 0), (594, .iload 4), (596, .iconst 1), (597, .iadd), (598, .iaload), (599, .invokevirtual 104), (602, .pop), (603, .aload_n 2), (604, .aload_n 0), (605, .iload 4), (607, .iconst 1), (608, .iadd), (609, .iaload), (610, .invokevirtual 107), (613, .pop), (614, .goto 40), (617, .aload_n 1), (618, .aload_n 0), (619, .iload 4), (621, .iconst 1), (622, .iadd), (623, .iaload), (624, .aload_n 0), (625, .iload 4), (627, .iconst 2), (628, .iadd), (629, .iaload), (630, .invokevirtual 108), (633, .pop), (634, .aload_n 2), (635, .aload_n 0), (636, .iload 4), (638, .iconst 1), (639, .iadd), (640, .iaload), (641, .aload_n 0), (642, .iload 4), (644, .iconst 2), (645, .iadd), (646, .iaload), (647, .invokevirtual 111), (650, .pop), (651, .goto 3), (654, .iinc 4 4), (657, .goto (-614)), (660, .iconst 1), (661, .ireturn)]
def px_t7 : List (Nat × Instr) := [(0, .aload 4), (2, .iconst 0), (3, .aload_n 0), (4, .iload_n 1), (5, .iload_n 2), (6, .iload_n 3), (7, .invokevirtual 33), (10, .ifCond .eq 7), (13, .lconst 1), (14, .goto 4), (17, .lconst 0), (18, .lastore), (19, .goto 7), (22, .astore 5), (24, .iconst 1), (25, .ireturn), (26, .iconst 0), (27, .ireturn)]
def px_t8 : List (Nat × Instr) := [(0, .aload 4), (2, .iconst 0), (3, .aload_n 0), (4, .iload_n 1), (5, .iload_n 2), (6, .iload_n 3), (7, .invokevirtual 25), (10, .i2l), (11, .lastore), (12, .goto 7), (15, .astore 5), (17, .iconst 1), (18, .ireturn), (19, .iconst 0), (20, .ireturn)]
def px_t9 : List (Nat × Instr) := [(0, .aload_n 2), (1, .iconst 0), (2, .aload_n 0), (3, .iload_n 1), (4, .invokevirtual 21), (7, .i2l), (8, .lastore), (9, .goto 6), (12, .astore_n 3), (13, .iconst 1), (14, .ireturn), (15, .iconst 0), (16, .ireturn)]
def px_t10 : List (Nat × Instr) := [(0, .aload 4), (2, .iconst 0), (3, .aload_n 0), (4, .iload_n 1), (5, .iload_n 2), (6, .iload_n 3), (7, .invokevirtual 15), (10, .ifCond .eq 7), (13, .lconst 1), (14, .goto 4), (17, .lconst 0), (18, .lastore), (19, .goto 11), (22, .astore 5), (24, .iconst 1), (25, .ireturn), (26, .astore 5), (28, .iconst 2), (29, .ireturn), (30, .iconst 0), (31, .ireturn)]
def px_t11 : List (Nat × Instr) := [(0, .aload_n 3), (1, .iconst 0), (2, .aload_n 0), (3, .iload_n 1), (4, .iload_n 2), (5, .invokevirtual 29), (8, .i2l), (9, .lastore), (10, .goto 7), (13, .astore 4), (15, .iconst 1), (16, .ireturn), (17, .iconst 0), (18, .ireturn)]
def px_t12 : List (Nat × Instr) := [(0, .iconst 0), (1, .istore 4), (3, .iload 4), (5, .aload_n 0), (6, .getfield 7), (9, .if_icmp .ge 23), (12, .aload_n 0), (13, .getfield 22), (16, .iload 4), (18, .lload_n 1), (19, .iload 4), (21, .lshr), (22, .lconst 1), (23, .land), (24, .l2i), (25, .iastore), (26, .iinc 4 1), (29, .goto (-26)), (32, .aload_n 0), (33, .getfield 22), (36, .aload_n 0), (37, .getfield 7), (40, .iload_n 3), (41, .iastore), (42, .iconst 0), (43, .istore 4), (45, .iload 4), (47, .aload_n 0), (48, .getfield 7), (51, .if_icmp .ge 46), (54, .aload_n 0), (55, .getfield 18), (58, .iload 4), (60, .baload), (61, .ifCond .eq 30), (64, .aload_n 0), (65, .getfield 22), (68, .iload 4), (70, .iaload), (71, .ifCond .eq 20), (74, .aload_n 0), (75, .iload 4), (77, .aload_n 0), (78, .getfield 22), (81, .iload 4), (83, .iaload), (84, .aload_n 0), (85, .getfield 22), (88, .invokevirtual 35), (91, .iinc 4 1), (94, .goto (-49)), (97, .aload_n 0), (98, .invokevirtual 39), (101, .istore 4), (103, .iload 4), (105, .ifCond .ge 21), (108, .aload_n 0), (109, .getfield 22), (112, .aload_n 0), (113, .getfield 7), (116, .iaload), (117, .ifCond .ne 7), (120, .iconst 1), (121, .goto 4), (124, .iconst 0), (125, .ireturn), (126, .aload_n 0), (127, .iload 4), (129, .invokevirtual 43), (132, .iconst 1), (133, .ireturn)]
def px_t13 : List (Nat × Instr) := [(0, .aload_n 0), (1, .iconst 2), (2, .iload_n 1), (3, .invokestatic 29), (6, .putfield 26), (9, .iconst 0), (10, .istore_n 2), (11, .iload_n 2), (12, .aload_n 0), (13, .getfield 7), (16, .if_icmp .ge 16), (19, .aload_n 0), (20, .getfield 18), (23, .iload_n 2), (24, .iconst 0), (25, .bastore), (26, .iinc 2 1), (29, .goto (-18)), (32, .return_)]
def px_t14 : List (Nat × Instr) := [(0, .aload_n 0), (1, .invokespecial 1), (4, .aload_n 0), (5, .iload_n 1), (6, .putfield 7), (9, .aload_n 0), (10, .iload_n 1), (11, .iload_n 1), (12, .iconst 1), (13, .iadd), (14, .multianewarray 13 2), (18, .putfield 15), (21, .aload_n 0), (22, .iload_n 1), (23, .newarray .boolean), (25, .putfield 18), (28, .aload_n 0), (29, .iload_n 1), (30, .iconst 1), (31, .iadd), (32, .newarray .int), (34, .putfield 22), (37, .aload_n 0), (38, .iconst 2), (39, .putfield 26), (42, .return_)]
def px_t15 : List (Nat × Instr) := [(0, .iconst 1), (1, .istore_n 2), (2, .iload_n 2), (3, .aload_n 0), (4, .getfield 26), (7, .if_icmp .ge 23), (10, .iload_n 2), (11, .iload_n 1), (12, .imul), (13, .aload_n 0), (14, .getfield 26), (17, .irem), (18, .iconst 1), (19, .if_icmp .ne 5), (22, .iload_n 2), (23, .ireturn), (24, .iinc 2 1), (27, .goto (-25)), (30, .iconst 1), (31, .ireturn)]
def px_t16 : List (Nat × Instr) := [(0, .aload_n 0), (1, .getfield 15), (4, .iload_n 1), (5, .aaload), (6, .astore_n 2), (7, .aload_n 0), (8, .aload_n 0), (9, .getfield 22), (12, .iload_n 1), (13, .iaload), (14, .invokevirtual 47), (17, .istore_n 3), (18, .iconst 0), (19, .istore 4), (21, .iload 4), (23, .aload_n 0), (24, .getfield 7), (27, .if_icmp .gt 27), (30, .aload_n 2), (31, .iload 4), (33, .aload_n 0), (34, .getfield 22), (37, .iload 4), (39, .iaload), (40, .iload_n 3), (41, .imul), (42, .aload_n 0), (43, .getfield 26), (46, .irem), (47, .iastore), (48, .iinc 4 1), (51, .goto (-30)), (54, .aload_n 0), (55, .getfield 18), (58, .iload_n 1), (59, .iconst 1), (60, .bastore), (61, .iload_n 1), (62, .iconst 1), (63, .iadd), (64, .istore 4), (66, .iload 4), (68, .aload_n 0), (69, .getfield 7), (72, .if_icmp .ge 52), (75, .aload_n 0), (76, .getfield 18), (79, .iload 4), (81, .baload), (82, .ifCond .eq 36), (85, .aload_n 0), (86, .getfield 15), (89, .iload 4), (91, .aaload), (92, .iload_n 1), (93, .iaload), (94, .ifCond .eq 24), (97, .aload_n 0), (98, .iload_n 1), (99, .aload_n 0), (100, .getfield 15), (103, .iload 4), (105, .aaload), (106, .iload_n 1), (107, .iaload), (108, .aload_n 0), (109, .getfield 15), (112, .iload 4), (114, .aaload), (115, .invokevirtual 35), (118, .iinc 4 1), (121, .goto (-55)), (124, .return_)]
def px_t17 : List (Nat × Instr) := [(0, .aload_n 0), (1, .getfield 7), (4, .iconst 1), (5, .isub), (6, .istore_n 1), (7, .iload_n 1), (8, .ifCond .lt 20), (11, .aload_n 0), (12, .getfield 22), (15, .iload_n 1), (16, .iaload), (17, .ifCond .eq 5), (20, .iload_n 1), (21, .ireturn), (22, .iinc 1 (-1)), (25, .goto (-18)), (28, .iconst (-1)), (29, .ireturn)]
def px_t18 : List (Nat × Instr) := [(0, .iload_n 1), (1, .ifCond .lt 20), (4, .iload_n 1), (5, .aload_n 0), (6, .getfield 7), (9, .if_icmp .ge 12), (12, .aload_n 0), (13, .getfield 18), (16, .iload_n 1), (17, .baload), (18, .ifCond .ne 5), (21, .iconst 0), (22, .ireturn), (23, .aload_n 0), (24, .getfield 15), (27, .iload_n 1), (28, .aaload), (29, .aload_n 0), (30, .getfield 7), (33, .iaload), (34, .ireturn)]
def px_t19 : List (Nat × Instr) := [(0, .aload_n 0), (1, .getfield 15), (4, .iload_n 1), (5, .aaload), (6, .astore 4), (8, .aload_n 0), (9, .getfield 26), (12, .iload_n 2), (13, .isub), (14, .istore 5), (16, .iconst 0), (17, .istore 6), (19, .iload 6), (21, .iload_n 1), (22, .if_icmp .gt 31), (25, .aload_n 3), (26, .iload 6), (28, .aload_n 3), (29, .iload 6), (31, .iaload), (32, .iload 5), (34, .aload 4), (36, .iload 6), (38, .iaload), (39, .imul), (40, .iadd), (41, .aload_n 0), (42, .getfield 26), (45, .irem), (46, .iastore), (47, .iinc 6 1), (50, .goto (-31)), (53, .aload_n 3), (54, .aload_n 0), (55, .getfield 7), (58, .aload_n 3), (59, .aload_n 0), (60, .getfield 7), (63, .iaload), (64, .iload 5), (66, .aload 4), (68, .aload_n 0), (69, .getfield 7), (72, .iaload), (73, .imul), (74, .iadd), (75, .aload_n 0), (76, .getfield 26), (79, .irem), (80, .iastore), (81, .return_)]
def px_t20 : List (Nat × Instr) := [(0, .lconst 0), (1, .lstore_n 2), (2, .iconst 0), (3, .istore 4), (5, .iload 4), (7, .bipush 16), (9, .if_icmp .ge 37), (12, .iload_n 1), (13, .iload 4), (15, .ishr), (16, .iconst 1), (17, .iand), (18, .ifCond .eq 22), (21, .lload_n 2), (22, .lconst 1), (23, .aload_n 0), (24, .getfield 9), (27, .iload 4), (29, .iconst 4), (30, .idiv), (31, .imul), (32, .iload 4), (34, .iconst 4), (35, .irem), (36, .iadd), (37, .lshl), (38, .lor), (39, .lstore_n 2), (40, .iinc 4 1), (43, .goto (-38)), (46, .lload_n 2), (47, .lreturn)]
def px_t21 : List (Nat × Instr) := [(0, .iconst 0), (1, .istore_n 1), (2, .iconst 0), (3, .istore_n 2), (4, .iload_n 2), (5, .iconst 4), (6, .if_icmp .ge 23), (9, .iload_n 0), (10, .sipush 4369), (13, .iload_n 2), (14, .ishl), (15, .iand), (16, .ifCond .eq 7), (19, .iload_n 2), (20, .iconst 1), (21, .iadd), (22, .istore_n 1), (23, .iinc 2 1), (26, .goto (-22)), (29, .iload_n 1), (30, .ireturn)]
def px_t22 : List (Nat × Instr) := [(0, .aload_n 0), (1, .iconst 0), (2, .putfield 49), (5, .aload_n 0), (6, .getfield 26), (9, .istore_n 1), (10, .iconst 0), (11, .istore_n 2), (12, .iload_n 2), (13, .bipush 8), (15, .if_icmp .ge 32), (18, .iload_n 2), (19, .iconst 4), (20, .if_icmp .ne 8), (23, .iload_n 1), (24, .invokestatic 56), (27, .istore_n 1), (28, .aload_n 0), (29, .iload_n 1), (30, .invokestatic 59), (33, .invokevirtual 62), (36, .iload_n 1), (37, .invokestatic 65), (40, .istore_n 1), (41, .iinc 2 1), (44, .goto (-32)), (47, .return_)]
def px_t23 : List (Nat × Instr) := [(0, .aload_n 0), (1, .invokespecial 3), (4, .aload_n 0), (5, .iload_n 1), (6, .putfield 9), (9, .aload_n 0), (10, .iload_n 2), (11, .putfield 15), (14, .aload_n 0), (15, .bipush 8), (17, .newarray .int), (19, .putfield 18), (22, .aload_n 0), (23, .sipush 160), (26, .newarray .long), (28, .putfield 22), (31, .return_)]
def px_t24 : List (Nat × Instr) := [(0, .aload_n 0), (1, .getfield 43), (4, .aload_n 0), (5, .getfield 22), (8, .arraylength), (9, .if_icmp .lt 4), (12, .return_), (13, .aload_n 0), (14, .getfield 43), (17, .istore_n 3), (18, .iload_n 3), (19, .ifCond .le 36), (22, .aload_n 0), (23, .getfield 22), (26, .iload_n 3), (27, .iconst 1), (28, .isub), (29, .laload), (30, .lload_n 1), (31, .lcmp), (32, .ifCond .le 23), (35, .aload_n 0), (36, .getfield 22), (39, .iload_n 3), (40, .aload_n 0), (41, .getfield 22), (44, .iload_n 3), (45, .iconst 1), (46, .isub), (47, .laload), (48, .lastore), (49, .iinc 3 (-1)), (52, .goto (-34)), (55, .aload_n 0), (56, .getfield 22), (59, .iload_n 3), (60, .lload_n 1), (61, .lastore), (62, .aload_n 0), (63, .dup), (64, .getfield 43), (67, .iconst 1), (68, .iadd), (69, .putfield 43), (72, .return_)]
def px_t25 : List (Nat × Instr) := [(0, .iconst 0), (1, .istore_n 2), (2, .iload_n 2), (3, .aload_n 0), (4, .getfield 49), (7, .if_icmp .ge 20), (10, .aload_n 0), (11, .getfield 18), (14, .iload_n 2), (15, .iaload), (16, .iload_n 1), (17, .if_icmp .ne 4), (20, .return_), (21, .iinc 2 1), (24, .goto (-22)), (27, .aload_n 0), (28, .getfield 49), (31, .aload_n 0), (32, .getfield 18), (35, .arraylength), (36, .if_icmp .ge 23), (39, .aload_n 0), (40, .getfield 18), (43, .aload_n 0), (44, .getfield 49), (47, .iload_n 1), (48, .iastore), (49, .aload_n 0), (50, .dup), (51, .getfield 49), (54, .iconst 1), (55, .iadd), (56, .putfield 49), (59, .return_)]
def px_t26 : List (Nat × Instr) := [(0, .aload_n 0), (1, .getfield 9), (4, .iload_n 1), (5, .invokestatic 68), (8, .isub), (9, .istore_n 2), (10, .aload_n 0), (11, .getfield 15), (14, .iload_n 1), (15, .invokestatic 71), (18, .isub), (19, .istore_n 3), (20, .iload_n 2), (21, .ifCond .lt 7), (24, .iload_n 3), (25, .ifCond .ge 4), (28, .return_), (29, .aload_n 0), (30, .iload_n 1), (31, .invokevirtual 74), (34, .lstore 4), (36, .iconst 0), (37, .istore 6), (39, .iload 6), (41, .iload_n 3), (42, .if_icmp .gt 61), (45, .iconst 0), (46, .istore 7), (48, .iload 7), (50, .iload_n 2), (51, .if_icmp .gt 46), (54, .lload 4), (56, .aload_n 0), (57, .getfield 9), (60, .iload 6), (62, .imul), (63, .iload 7), (65, .iadd), (66, .lshl), (67, .lstore 8), (69, .lload 8), (71, .aload_n 0), (72, .getfield 39), (75, .ldc2_w 78), (78, .lxor), (79, .land), (80, .lconst 0), (81, .lcmp), (82, .ifCond .ne 9), (85, .aload_n 0), (86, .lload 8), (88, .invokevirtual 80), (91, .iinc 7 1), (94, .goto (-46)), (97, .iinc 6 1), (100, .goto (-61)), (103, .return_)]
def px_t27 : List (Nat × Instr) := [(0, .aload_n 0), (1, .getfield 39), (4, .lload_n 1), (5, .lcmp), (6, .ifCond .ne 4), (9, .return_), (10, .aload_n 0), (11, .lload_n 1), (12, .putfield 39), (15, .aload_n 0), (16, .iconst 0), (17, .putfield 43), (20, .iconst 0), (21, .istore_n 3), (22, .iload_n 3), (23, .aload_n 0), (24, .getfield 49), (27, .if_icmp .ge 19), (30, .aload_n 0), (31, .aload_n 0), (32, .getfield 18), (35, .iload_n 3), (36, .iaload), (37, .invokevirtual 52), (40, .iinc 3 1), (43, .goto (-21)), (46, .return_)]
def px_t28 : List (Nat × Instr) := [(0, .iload_n 0), (1, .istore_n 1), (2, .iconst 1), (3, .istore_n 2), (4, .iload_n 2), (5, .iconst 4), (6, .if_icmp .ge 32), (9, .iload_n 1), (10, .bipush 15), (12, .iand), (13, .ifCond .ne 7), (16, .iload_n 1), (17, .iconst 4), (18, .ishr), (19, .istore_n 1), (20, .iload_n 1), (21, .sipush 4369), (24, .iand), (25, .ifCond .ne 7), (28, .iload_n 1), (29, .iconst 1), (30, .ishr), (31, .istore_n 1), (32, .iinc 2 1), (35, .goto (-31)), (38, .iload_n 1), (39, .ireturn)]
def px_t29 : List (Nat × Instr) := [(0, .iconst 0), (1, .istore_n 1), (2, .iconst 0), (3, .istore_n 2), (4, .iload_n 2), (5, .bipush 16), (7, .if_icmp .ge 39), (10, .iload_n 0), (11, .iload_n 2), (12, .ishr), (13, .iconst 1), (14, .iand), (15, .ifCond .eq 25), (18, .iconst 3), (19, .iload_n 2), (20, .iconst 4), (21, .idiv), (22, .isub), (23, .istore_n 3), (24, .iload_n 2), (25, .iconst 4), (26, .irem), (27, .istore 4), (29, .iload_n 1), (30, .iconst 1), (31, .iconst 4), (32, .iload 4), (34, .imul), (35, .iload_n 3), (36, .iadd), (37, .ishl), (38, .ior), (39, .istore_n 1), (40, .iinc 2 1), (43, .goto (-39)), (46, .iload_n 1), (47, .ireturn)]
def px_t30 : List (Nat × Instr) := [(0, .iconst 0), (1, .istore_n 1), (2, .iconst 0), (3, .istore_n 2), (4, .iload_n 2), (5, .iconst 4), (6, .if_icmp .ge 24), (9, .iload_n 0), (10, .bipush 15), (12, .iconst 4), (13, .iload_n 2), (14, .imul), (15, .ishl), (16, .iand), (17, .ifCond .eq 7), (20, .iload_n 2), (21, .iconst 1), (22, .iadd), (23, .istore_n 1), (24, .iinc 2 1), (27, .goto (-23)), (30, .iload_n 1), (31, .ireturn)]
def px_t31 : List (Nat × Instr) := [(0, .aload_n 0), (1, .getfield 26), (4, .invokestatic 29), (7, .ireturn)]
def px_t32 : List (Nat × Instr) := [(0, .iconst 1), (1, .iconst 4), (2, .iload_n 2), (3, .imul), (4, .iload_n 1), (5, .iadd), (6, .ishl), (7, .istore_n 3), (8, .aload_n 0), (9, .getfield 26), (12, .iload_n 3), (13, .iand), (14, .ifCond .ne 12), (17, .aload_n 0), (18, .invokevirtual 35), (21, .bipush 6), (23, .if_icmp .lt 5), (26, .iconst 0), (27, .ireturn), (28, .aload_n 0), (29, .dup), (30, .getfield 26), (33, .iload_n 3), (34, .ior), (35, .putfield 26), (38, .aload_n 0), (39, .lconst 0), (40, .putfield 39), (43, .aload_n 0), (44, .iconst 0), (45, .putfield 43), (48, .aload_n 0), (49, .invokevirtual 46), (52, .iconst 1), (53, .ireturn)]
def px_t33 : List (Nat × Instr) := [(0, .iconst 0), (1, .istore_n 1), (2, .iconst 0), (3, .istore_n 2), (4, .iload_n 2), (5, .bipush 16), (7, .if_icmp .ge 35), (10, .iload_n 0), (11, .iload_n 2), (12, .ishr), (13, .iconst 1), (14, .iand), (15, .ifCond .eq 21), (18, .iconst 3), (19, .iload_n 2), (20, .iconst 4), (21, .irem), (22, .isub), (23, .istore_n 3), (24, .iload_n 1), (25, .iconst 1), (26, .iconst 4), (27, .iload_n 2), (28, .iconst 4), (29, .idiv), (30, .imul), (31, .iload_n 3), (32, .iadd), (33, .ishl), (34, .ior), (35, .istore_n 1), (36, .iinc 2 1), (39, .goto (-35)), (42, .iload_n 1), (43, .ireturn)]
def px_t34 : List (Nat × Instr) := [(0, .aload_n 0), (1, .iconst 0), (2, .putfield 43), (5, .iconst 0), (6, .istore_n 2), (7, .iload_n 2), (8, .aload_n 0), (9, .getfield 30), (12, .if_icmp .ge 36), (15, .aload_n 0), (16, .getfield 16), (19, .iload_n 2), (20, .iaload), (21, .istore_n 3), (22, .aload_n 0), (23, .iload_n 3), (24, .iconst 1), (25, .iand), (26, .iload_n 3), (27, .iconst 2), (28, .if_icmp .ge 7), (31, .iconst 1), (32, .goto 6), (35, .iload_n 1), (36, .iconst 1), (37, .isub), (38, .iload_n 1), (39, .invokevirtual 46), (42, .iinc 2 1), (45, .goto (-38)), (48, .return_)]
def px_t35 : List (Nat × Instr) := [(0, .aload_n 0), (1, .getfield 43), (4, .iconst 1), (5, .isub), (6, .istore 4), (8, .iload 4), (10, .ifCond .lt 14), (13, .aload_n 0), (14, .getfield 20), (17, .iload 4), (19, .iaload), (20, .iload_n 1), (21, .if_icmp .eq 10), (24, .aload_n 0), (25, .iload_n 1), (26, .iload_n 2), (27, .invokevirtual 80), (30, .return_), (31, .aload_n 0), (32, .getfield 23), (35, .iload 4), (37, .iaload), (38, .iload_n 2), (39, .iadd), (40, .istore 5), (42, .iload 5), (44, .iload_n 3), (45, .if_icmp .ne 10), (48, .aload_n 0), (49, .iload 4), (51, .putfield 43), (54, .return_), (55, .aload_n 0), (56, .getfield 23), (59, .iload 4), (61, .iload 5), (63, .iload_n 3), (64, .if_icmp .le 10), (67, .iload 5), (69, .iload_n 3), (70, .isub), (71, .goto 5), (74, .iload 5), (76, .iastore), (77, .return_)]
def px_t36 : List (Nat × Instr) := [(0, .iload_n 1), (1, .istore_n 3), (2, .iload_n 2), (3, .istore 4), (5, .iconst 0), (6, .istore 5), (8, .iconst 0), (9, .istore 6), (11, .iload 6), (13, .bipush 84), (15, .if_icmp .ge 74), (18, .aload_n 0), (19, .getfield 16), (22, .iload 6), (24, .iload 5), (26, .iastore), (27, .aload_n 0), (28, .iload 6), (30, .iconst 1), (31, .iadd), (32, .putfield 30), (35, .iload_n 3), (36, .getstatic 50), (39, .iload 5), (41, .iaload), (42, .iadd), (43, .istore_n 3), (44, .iload 4), (46, .getstatic 53), (49, .iload 5), (51, .iaload), (52, .iadd), (53, .istore 4), (55, .aload_n 0), (56, .iload_n 3), (57, .iload 4), (59, .iload 5), (61, .invokevirtual 56), (64, .istore 5), (66, .iload_n 3), (67, .iload_n 1), (68, .if_icmp .ne 15), (71, .iload 4), (73, .iload_n 2), (74, .if_icmp .ne 9), (77, .iload 5), (79, .ifCond .ne 4), (82, .return_), (83, .iinc 6 1), (86, .goto (-75)), (89, .return_)]
def px_t37 : List (Nat × Instr) := [(0, .iload_n 1), (1, .ifCond .lt 47), (4, .iload_n 1), (5, .aload_n 0), (6, .getfield 7), (9, .if_icmp .ge 39), (12, .iload_n 2), (13, .ifCond .lt 35), (16, .iload_n 2), (17, .aload_n 0), (18, .getfield 13), (21, .if_icmp .ge 27), (24, .aload_n 0), (25, .getfield 26), (28, .aload_n 0), (29, .getfield 7), (32, .iload_n 2), (33, .imul), (34, .iload_n 1), (35, .iadd), (36, .lshr), (37, .lconst 1), (38, .land), (39, .lconst 0), (40, .lcmp), (41, .ifCond .eq 7), (44, .iconst 1), (45, .goto 4), (48, .iconst 0), (49, .ireturn)]
def px_t38 : List (Nat × Instr) := [(0, .aload_n 0), (1, .invokespecial 1), (4, .aload_n 0), (5, .iload_n 1), (6, .putfield 7), (9, .aload_n 0), (10, .iload_n 2), (11, .putfield 13), (14, .aload_n 0), (15, .bipush 84), (17, .newarray .int), (19, .putfield 16), (22, .aload_n 0), (23, .bipush 84), (25, .newarray .int), (27, .putfield 20), (30, .aload_n 0), (31, .bipush 84), (33, .newarray .int), (35, .putfield 23), (38, .return_)]
def px_t39 : List (Nat × Instr) := [(0, .aload_n 0), (1, .iload_n 1), (2, .getstatic 64), (5, .iload_n 3), (6, .iaload), (7, .iadd), (8, .iload_n 2), (9, .getstatic 67), (12, .iload_n 3), (13, .iaload), (14, .iadd), (15, .invokevirtual 70), (18, .ifCond .eq 28), (21, .aload_n 0), (22, .iload_n 1), (23, .getstatic 74), (26, .iload_n 3), (27, .iaload), (28, .iadd), (29, .iload_n 2), (30, .getstatic 77), (33, .iload_n 3), (34, .iaload), (35, .iadd), (36, .invokevirtual 70), (39, .ifCond .ne 7), (42, .iconst 1), (43, .goto 4), (46, .iconst 0), (47, .ireturn)]
def px_t40 : List (Nat × Instr) := [(0, .iload_n 3), (1, .iconst 1), (2, .iadd), (3, .iconst 3), (4, .iand), (5, .istore 4), (7, .aload_n 0), (8, .iload_n 1), (9, .iload_n 2), (10, .iload 4), (12, .invokevirtual 60), (15, .ifCond .eq 6), (18, .iload 4), (20, .ireturn), (21, .aload_n 0), (22, .iload_n 1), (23, .iload_n 2), (24, .iload_n 3), (25, .invokevirtual 60), (28, .ifCond .eq 7), (31, .iload_n 3), (32, .goto 8), (35, .iload_n 3), (36, .iconst 3), (37, .iadd), (38, .iconst 3), (39, .iand), (40, .ireturn)]
def px_t41 : List (Nat × Instr) := [(0, .aload_n 0), (1, .getfield 43), (4, .bipush 84), (6, .if_icmp .ge 33), (9, .aload_n 0), (10, .getfield 20), (13, .aload_n 0), (14, .getfield 43), (17, .iload_n 1), (18, .iastore), (19, .aload_n 0), (20, .getfield 23), (23, .aload_n 0), (24, .getfield 43), (27, .iload_n 2), (28, .iastore), (29, .aload_n 0), (30, .dup), (31, .getfield 43), (34, .iconst 1), (35, .iadd), (36, .putfield 43), (39, .return_)]
def px_t42 : List (Nat × Instr) := [(0, .aload_n 0), (1, .getfield 26), (4, .lload_n 1), (5, .lcmp), (6, .ifCond .ne 4), (9, .return_), (10, .aload_n 0), (11, .lload_n 1), (12, .putfield 26), (15, .aload_n 0), (16, .iconst 0), (17, .putfield 30), (20, .lload_n 1), (21, .lconst 0), (22, .lcmp), (23, .ifCond .eq 36), (26, .aload_n 0), (27, .getfield 7), (30, .ifCond .le 29), (33, .lload_n 1), (34, .lload_n 1), (35, .lneg), (36, .land), (37, .lconst 1), (38, .lsub), (39, .invokestatic 33), (42, .istore_n 3), (43, .aload_n 0), (44, .iload_n 3), (45, .aload_n 0), (46, .getfield 7), (49, .irem), (50, .iload_n 3), (51, .aload_n 0), (52, .getfield 7), (55, .idiv), (56, .invokevirtual 39), (59, .return_)]
def px_t43 : List (Nat × Instr) := [(0, .aload_n 1), (1, .aload_n 0), (2, .getfield 64), (5, .invokevirtual 90), (8, .iconst 0), (9, .istore_n 2), (10, .iload_n 2), (11, .aload_n 1), (12, .getfield 94), (15, .if_icmp .ge 24), (18, .aload_n 0), (19, .getfield 46), (22, .aload_n 1), (23, .getfield 97), (26, .iload_n 2), (27, .laload), (28, .iconst 0), (29, .invokevirtual 125), (32, .pop), (33, .iinc 2 1), (36, .goto (-26)), (39, .return_)]
def px_t44 : List (Nat × Instr) := [(0, .iload_n 1), (1, .iconst 2), (2, .if_icmp .ge 5), (5, .iconst (-1)), (6, .ireturn), (7, .iconst 0), (8, .istore_n 2), (9, .iconst 0), (10, .istore_n 3), (11, .iload_n 3), (12, .aload_n 0), (13, .getfield 72), (16, .if_icmp .ge 65), (19, .aload_n 0), (20, .getfield 27), (23, .iload_n 3), (24, .aaload), (25, .astore 4), (27, .aload 4), (29, .aload_n 0), (30, .getfield 64), (33, .invokevirtual 90), (36, .iconst 0), (37, .istore 5), (39, .iload 5), (41, .aload 4), (43, .getfield 94), (46, .if_icmp .ge 29), (49, .aload_n 0), (50, .aload 4), (52, .getfield 97), (55, .iload 5), (57, .laload), (58, .invokevirtual 132), (61, .iload_n 1), (62, .irem), (63, .ifCond .eq 6), (66, .iinc 2 1), (69, .iinc 5 1), (72, .goto (-33)), (75, .iinc 3 1), (78, .goto (-67)), (81, .iload_n 2), (82, .ireturn)]
def px_t45 : List (Nat × Instr) := [(0, .aload_n 0), (1, .getfield 53), (4, .aload_n 0), (5, .getfield 64), (8, .invokevirtual 138), (11, .iload_n 1), (12, .ifCond .lt 14), (15, .iload_n 1), (16, .aload_n 0), (17, .getfield 53), (20, .getfield 141), (23, .if_icmp .lt 5), (26, .iconst (-1)), (27, .ireturn), (28, .aload_n 0), (29, .getfield 53), (32, .getfield 144), (35, .iload_n 1), (36, .iaload), (37, .ireturn)]
def px_t46 : List (Nat × Instr) := [(0, .aload_n 0), (1, .iload_n 1), (2, .iload_n 2), (3, .invokevirtual 57), (6, .istore 4), (8, .aload_n 0), (9, .iload 4), (11, .invokevirtual 60), (14, .iload_n 3), (15, .if_icmp .ne 5), (18, .iconst 0), (19, .ireturn), (20, .aload_n 0), (21, .dup), (22, .getfield 64), (25, .lconst 1), (26, .iload 4), (28, .lshl), (29, .lxor), (30, .putfield 64), (33, .aload_n 0), (34, .iconst 0), (35, .putfield 68), (38, .iconst 1), (39, .ireturn)]
def px_t47 : List (Nat × Instr) := [(0, .iload_n 2), (1, .ifCond .lt 11), (4, .iload_n 2), (5, .lload_n 0), (6, .invokestatic 109), (9, .if_icmp .lt 5), (12, .iconst (-1)), (13, .ireturn), (14, .lload_n 0), (15, .lstore_n 3), (16, .iconst 0), (17, .istore 5), (19, .iload 5), (21, .iload_n 2), (22, .if_icmp .ge 15), (25, .lload_n 3), (26, .lload_n 3), (27, .lconst 1), (28, .lsub), (29, .land), (30, .lstore_n 3), (31, .iinc 5 1), (34, .goto (-15)), (37, .lload_n 3), (38, .lload_n 3), (39, .lneg), (40, .land), (41, .lconst 1), (42, .lsub), (43, .invokestatic 109), (46, .ireturn)]
def px_t48 : List (Nat × Instr) := [(0, .iload_n 1), (1, .invokestatic 115), (4, .ifCond .ne 5), (7, .iconst (-1)), (8, .ireturn), (9, .aload_n 0), (10, .getfield 46), (13, .iload_n 1), (14, .invokevirtual 118), (17, .iconst 0), (18, .istore_n 2), (19, .iload_n 2), (20, .aload_n 0), (21, .getfield 72), (24, .if_icmp .ge 19), (27, .aload_n 0), (28, .aload_n 0), (29, .getfield 27), (32, .iload_n 2), (33, .aaload), (34, .invokevirtual 121), (37, .iinc 2 1), (40, .goto (-21)), (43, .aload_n 0), (44, .getfield 46), (47, .aload_n 0), (48, .getfield 64), (51, .iconst 1), (52, .invokevirtual 125), (55, .ifCond .ne 5), (58, .iconst 0), (59, .ireturn), (60, .iconst 0), (61, .istore_n 2), (62, .iload_n 2), (63, .aload_n 0), (64, .getfield 38), (67, .arraylength), (68, .if_icmp .ge 23), (71, .aload_n 0), (72, .getfield 38), (75, .iload_n 2), (76, .aload_n 0), (77, .getfield 46), (80, .iload_n 2), (81, .invokevirtual 128), (84, .iastore), (85, .iinc 2 1), (88, .goto (-26)), (91, .aload_n 0), (92, .iconst 1), (93, .putfield 68), (96, .iconst 1), (97, .ireturn)]
def px_t49 : List (Nat × Instr) := [(0, .iload_n 1), (1, .ifCond .lt 11), (4, .iload_n 1), (5, .aload_n 0), (6, .getfield 72), (9, .if_icmp .lt 13), (12, .new 162), (15, .dup), (16, .ldc 167), (18, .invokespecial 166), (21, .athrow), (22, .aload_n 0), (23, .getfield 27), (26, .iload_n 1), (27, .aaload), (28, .areturn)]
def px_t50 : List (Nat × Instr) := [(0, .aload_n 0), (1, .getfield 64), (4, .iload_n 1), (5, .lshr), (6, .lconst 1), (7, .land), (8, .lconst 0), (9, .lcmp), (10, .ifCond .eq 7), (13, .iconst 1), (14, .goto 4), (17, .iconst 0), (18, .ireturn)]
def px_t51 : List (Nat × Instr) := [(0, .aload_n 0), (1, .invokespecial 1), (4, .aload_n 0), (5, .iconst 1), (6, .bipush 6), (8, .iload_n 1), (9, .invokestatic 9), (12, .invokestatic 15), (15, .putfield 18), (18, .aload_n 0), (19, .iconst 1), (20, .bipush 6), (22, .iload_n 2), (23, .invokestatic 9), (26, .invokestatic 15), (29, .putfield 22), (32, .aload_n 0), (33, .getfield 18), (36, .aload_n 0), (37, .getfield 22), (40, .imul), (41, .istore_n 3), (42, .aload_n 0), (43, .bipush 6), (45, .anewarray 25), (48, .putfield 27), (51, .iconst 0), (52, .istore 4), (54, .iload 4), (56, .bipush 6), (58, .if_icmp .ge 31), (61, .aload_n 0), (62, .getfield 27), (65, .iload 4), (67, .new 25), (70, .dup), (71, .aload_n 0), (72, .getfield 18), (75, .aload_n 0), (76, .getfield 22), (79, .invokespecial 31), (82, .aastore), (83, .iinc 4 1), (86, .goto (-32)), (89, .aload_n 0), (90, .iload_n 3), (91, .newarray .int), (93, .putfield 34), (96, .aload_n 0), (97, .iload_n 3), (98, .newarray .int), (100, .putfield 38), (103, .aload_n 0), (104, .new 41), (107, .dup), (108, .iload_n 3), (109, .invokespecial 43), (112, .putfield 46), (115, .aload_n 0), (116, .new 50), (119, .dup), (120, .aload_n 0), (121, .getfield 18), (124, .aload_n 0), (125, .getfield 22), (128, .invokespecial 52), (131, .putfield 53), (134, .return_)]
def px_t52 : List (Nat × Instr) := [(0, .iload_n 0), (1, .iconst 2), (2, .if_icmp .eq 31), (5, .iload_n 0), (6, .iconst 3), (7, .if_icmp .eq 26), (10, .iload_n 0), (11, .iconst 5), (12, .if_icmp .eq 21), (15, .iload_n 0), (16, .bipush 7), (18, .if_icmp .eq 15), (21, .iload_n 0), (22, .bipush 11), (24, .if_icmp .eq 9), (27, .iload_n 0), (28, .bipush 13), (30, .if_icmp .ne 7), (33, .iconst 1), (34, .goto 4), (37, .iconst 0), (38, .ireturn)]
def px_t53 : List (Nat × Instr) := [(0, .iload_n 1), (1, .ifCond .lt 23), (4, .iload_n 1), (5, .aload_n 0), (6, .getfield 18), (9, .if_icmp .ge 15), (12, .iload_n 2), (13, .ifCond .lt 11), (16, .iload_n 2), (17, .aload_n 0), (18, .getfield 22), (21, .if_icmp .lt 13), (24, .new 162), (27, .dup), (28, .ldc 164), (30, .invokespecial 166), (33, .athrow), (34, .aload_n 0), (35, .getfield 18), (38, .iload_n 2), (39, .imul), (40, .iload_n 1), (41, .iadd), (42, .ireturn)]
def px_t54 : List (Nat × Instr) := [(0, .aload_n 0), (1, .iload_n 1), (2, .iload_n 2), (3, .invokevirtual 57), (6, .istore 4), (8, .iload_n 3), (9, .bipush (-99)), (11, .if_icmp .lt 9), (14, .iload_n 3), (15, .bipush 99), (17, .if_icmp .le 5), (20, .iconst 0), (21, .ireturn), (22, .aload_n 0), (23, .getfield 34), (26, .iload 4), (28, .iload_n 3), (29, .iastore), (30, .iconst 1), (31, .ireturn)]
def px_t55 : List (Nat × Instr) := [(0, .iconst 0), (1, .istore_n 3), (2, .iconst 0), (3, .istore 4), (5, .iload 4), (7, .aload_n 0), (8, .getfield 34), (11, .arraylength), (12, .if_icmp .ge 30), (15, .lload_n 1), (16, .iload 4), (18, .lshr), (19, .lconst 1), (20, .land), (21, .lconst 0), (22, .lcmp), (23, .ifCond .eq 13), (26, .iload_n 3), (27, .aload_n 0), (28, .getfield 34), (31, .iload 4), (33, .iaload), (34, .iadd), (35, .istore_n 3), (36, .iinc 4 1), (39, .goto (-34)), (42, .iload_n 3), (43, .ireturn)]
def px_t56 : List (Nat × Instr) := [(0, .aload_n 0), (1, .getfield 72), (4, .bipush 6), (6, .if_icmp .lt 5), (9, .iconst (-1)), (10, .ireturn), (11, .aload_n 0), (12, .iconst 0), (13, .putfield 68), (16, .aload_n 0), (17, .dup), (18, .getfield 72), (21, .iconst 1), (22, .iadd), (23, .putfield 72), (26, .aload_n 0), (27, .getfield 72), (30, .iconst 1), (31, .isub), (32, .ireturn)]
def px_t57 : List (Nat × Instr) := [(0, .aload_n 0), (1, .iload_n 1), (2, .invokevirtual 75), (5, .astore 4), (7, .aload 4), (9, .aload_n 0), (10, .getfield 64), (13, .invokevirtual 90), (16, .iload_n 2), (17, .ifCond .lt 12), (20, .iload_n 2), (21, .aload 4), (23, .getfield 94), (26, .if_icmp .lt 5), (29, .iconst (-1)), (30, .ireturn), (31, .aload 4), (33, .getfield 97), (36, .iload_n 2), (37, .laload), (38, .iload_n 3), (39, .invokestatic 101), (42, .ireturn)]
def px_t58 : List (Nat × Instr) := [(0, .aload_n 0), (1, .iload_n 1), (2, .invokevirtual 75), (5, .astore_n 2), (6, .aload_n 2), (7, .aload_n 0), (8, .getfield 64), (11, .invokevirtual 90), (14, .aload_n 2), (15, .getfield 94), (18, .ireturn)]
def px_t59 : List (Nat × Instr) := [(0, .iload_n 1), (1, .iconst 2), (2, .if_icmp .ge 5), (5, .iconst 0), (6, .ireturn), (7, .aload_n 0), (8, .aload_n 0), (9, .getfield 64), (12, .invokevirtual 132), (15, .iload_n 1), (16, .irem), (17, .ifCond .eq 15), (20, .aload_n 0), (21, .iload_n 1), (22, .invokevirtual 135), (25, .ifCond .ne 7), (28, .iconst 1), (29, .goto 4), (32, .iconst 0), (33, .ireturn)]
def px_t60 : List (Nat × Instr) := [(0, .iconst 0), (1, .istore 4), (3, .iload 4), (5, .aload_n 0), (6, .getfield 72), (9, .if_icmp .ge 47), (12, .aload_n 0), (13, .getfield 27), (16, .iload 4), (18, .aaload), (19, .invokevirtual 169), (22, .istore 5), (24, .iload 5), (26, .ifCond .le 24), (29, .iload 5), (31, .iload_n 3), (32, .if_icmp .gt 18), (35, .lload_n 1), (36, .iload_n 3), (37, .iload 5), (39, .isub), (40, .lshr), (41, .lconst 1), (42, .land), (43, .lconst 0), (44, .lcmp), (45, .ifCond .eq 5), (48, .iconst 1), (49, .ireturn), (50, .iinc 4 1), (53, .goto (-50)), (56, .iconst 0), (57, .ireturn)]
def px_t61 : List (Nat × Instr) := [(0, .iload_n 2), (1, .ifCond .lt 12), (4, .iload_n 2), (5, .aload_n 0), (6, .iload_n 1), (7, .invokevirtual 153), (10, .if_icmp .lt 5), (13, .iconst (-1)), (14, .ireturn), (15, .aload_n 0), (16, .getfield 53), (19, .getfield 156), (22, .iload_n 2), (23, .iaload), (24, .iconst 2), (25, .aload_n 0), (26, .getfield 53), (29, .getfield 159), (32, .iload_n 2), (33, .iaload), (34, .imul), (35, .iadd), (36, .ireturn)]
def px_t62 : List (Nat × Instr) := [(0, .iload_n 1), (1, .iconst 2), (2, .if_icmp .lt 9), (5, .iload_n 1), (6, .bipush 9), (8, .if_icmp .le 5), (11, .iconst (-1)), (12, .ireturn), (13, .aload_n 0), (14, .getfield 53), (17, .aload_n 0), (18, .getfield 64), (21, .invokevirtual 138), (24, .aload_n 0), (25, .getfield 53), (28, .iload_n 1), (29, .invokevirtual 147), (32, .aload_n 0), (33, .getfield 53), (36, .getfield 150), (39, .ireturn)]
def px_t63 : List (Nat × Instr) := [(0, .lconst 1), (1, .lstore_n 1), (2, .iconst 1), (3, .istore_n 3), (4, .iload_n 3), (5, .bipush 36), (7, .if_icmp .gt 24), (10, .aload_n 0), (11, .lload_n 1), (12, .iload_n 3), (13, .invokevirtual 105), (16, .ifCond .eq 9), (19, .lload_n 1), (20, .lconst 1), (21, .iload_n 3), (22, .lshl), (23, .lor), (24, .lstore_n 1), (25, .iinc 3 1), (28, .goto (-24)), (31, .lload_n 1), (32, .aload_n 0), (33, .getfield 64), (36, .invokestatic 109), (39, .lshr), (40, .lconst 1), (41, .land), (42, .lconst 0), (43, .lcmp), (44, .ifCond .eq 7), (47, .iconst 1), (48, .goto 4), (51, .iconst 0), (52, .ireturn)]
def px_t64 : List (Nat × Instr) := [(0, .aload_n 0), (1, .iload_n 1), (2, .invokevirtual 75), (5, .astore 4), (7, .iload_n 2), (8, .ifCond .lt 17), (11, .iload_n 2), (12, .iconst 4), (13, .if_icmp .ge 12), (16, .iload_n 3), (17, .ifCond .lt 8), (20, .iload_n 3), (21, .iconst 4), (22, .if_icmp .lt 13), (25, .new 79), (28, .dup), (29, .ldc 81), (31, .invokespecial 83), (34, .athrow), (35, .aload 4), (37, .iload_n 2), (38, .iload_n 3), (39, .invokevirtual 86), (42, .ifCond .ne 5), (45, .iconst 0), (46, .ireturn), (47, .aload_n 0), (48, .iconst 0), (49, .putfield 68), (52, .iconst 1), (53, .ireturn)]
def px_t65 : List (Nat × Instr) := [(0, .aload_n 0), (1, .aload_n 0), (2, .getfield 64), (5, .invokevirtual 132), (8, .ireturn)]
def px_t66 : List (Nat × Instr) := [(0, .aload_n 0), (1, .getfield 18), (4, .iconst 1), (5, .iadd), (6, .istore_n 2), (7, .aload_n 0), (8, .getfield 68), (11, .ifCond .eq 17), (14, .iload_n 1), (15, .ifCond .lt 13), (18, .iload_n 1), (19, .iload_n 2), (20, .aload_n 0), (21, .getfield 22), (24, .imul), (25, .if_icmp .lt 5), (28, .iconst (-1)), (29, .ireturn), (30, .iload_n 1), (31, .iload_n 2), (32, .irem), (33, .istore_n 3), (34, .iload_n 3), (35, .aload_n 0), (36, .getfield 18), (39, .if_icmp .ne 6), (42, .bipush 59), (44, .ireturn), (45, .aload_n 0), (46, .getfield 18), (49, .iload_n 1), (50, .iload_n 2), (51, .idiv), (52, .imul), (53, .iload_n 3), (54, .iadd), (55, .istore 4), (57, .aload_n 0), (58, .iload 4), (60, .invokevirtual 60), (63, .ifCond .eq 16), (66, .bipush 97), (68, .aload_n 0), (69, .getfield 38), (72, .iload 4), (74, .iaload), (75, .iadd), (76, .goto 5), (79, .bipush 46), (81, .ireturn)]
def px_t67 : List (Nat × Instr) := [(0, .aload_n 0), (1, .iload_n 1), (2, .iload_n 2), (3, .invokevirtual 57), (6, .istore_n 3), (7, .aload_n 0), (8, .getfield 68), (11, .ifCond .eq 11), (14, .aload_n 0), (15, .iload_n 3), (16, .invokevirtual 60), (19, .ifCond .ne 5), (22, .iconst (-1)), (23, .ireturn), (24, .aload_n 0), (25, .getfield 38), (28, .iload_n 3), (29, .iaload), (30, .ireturn)]
def px_t68 : List (Nat × Instr) := [(0, .iconst 0), (1, .istore_n 3), (2, .iload_n 3), (3, .aload_n 0), (4, .getfield 80), (7, .if_icmp .ge 20), (10, .aload_n 0), (11, .getfield 23), (14, .iload_n 3), (15, .laload), (16, .lload_n 1), (17, .lcmp), (18, .ifCond .ge 9), (21, .iinc 3 1), (24, .goto (-22)), (27, .iload_n 3), (28, .aload_n 0), (29, .getfield 80), (32, .if_icmp .ge 15), (35, .aload_n 0), (36, .getfield 23), (39, .iload_n 3), (40, .laload), (41, .lload_n 1), (42, .lcmp), (43, .ifCond .ne 4), (46, .return_), (47, .aload_n 0), (48, .getfield 80), (51, .istore 4), (53, .iload 4), (55, .iload_n 3), (56, .if_icmp .le 25), (59, .aload_n 0), (60, .getfield 23), (63, .iload 4), (65, .aload_n 0), (66, .getfield 23), (69, .iload 4), (71, .iconst 1), (72, .isub), (73, .laload), (74, .lastore), (75, .iinc 4 (-1)), (78, .goto (-25)), (81, .aload_n 0), (82, .getfield 23), (85, .iload_n 3), (86, .lload_n 1), (87, .lastore), (88, .aload_n 0), (89, .dup), (90, .getfield 80), (93, .iconst 1), (94, .iadd), (95, .putfield 80), (98, .return_)]
def px_t69 : List (Nat × Instr) := [(0, .aload_n 0), (1, .iconst 0), (2, .putfield 58), (5, .iload_n 1), (6, .iconst 2), (7, .if_icmp .ge 7), (10, .iconst (-1)), (11, .goto 8), (14, .aload_n 0), (15, .iload_n 1), (16, .invokevirtual 115), (19, .ireturn)]
def px_t70 : List (Nat × Instr) := [(0, .aload_n 0), (1, .iconst 0), (2, .putfield 58), (5, .aload_n 0), (6, .invokevirtual 129), (9, .iload_n 1), (10, .ifCond .lt 11), (13, .iload_n 1), (14, .aload_n 0), (15, .getfield 122), (18, .if_icmp .lt 7), (21, .iconst (-1)), (22, .goto 9), (25, .aload_n 0), (26, .getfield 39), (29, .iload_n 1), (30, .iaload), (31, .ireturn)]
def px_t71 : List (Nat × Instr) := [(0, .aload_n 0), (1, .iconst 1), (2, .aload_n 0), (3, .iload_n 1), (4, .iload_n 2), (5, .invokevirtual 64), (8, .ifCond .ne 7), (11, .iconst 1), (12, .goto 4), (15, .iconst 0), (16, .invokevirtual 68), (19, .ifCond .ne 20), (22, .aload_n 0), (23, .getfield 7), (26, .aload_n 0), (27, .getfield 51), (30, .iload_n 2), (31, .imul), (32, .iload_n 1), (33, .iadd), (34, .baload), (35, .iload_n 3), (36, .if_icmp .ne 5), (39, .iconst 0), (40, .ireturn), (41, .aload_n 0), (42, .getfield 7), (45, .aload_n 0), (46, .getfield 51), (49, .iload_n 2), (50, .imul), (51, .iload_n 1), (52, .iadd), (53, .iload_n 3), (54, .bastore), (55, .aload_n 0), (56, .iconst 0), (57, .putfield 72), (60, .iconst 1), (61, .ireturn)]
def px_t72 : List (Nat × Instr) := [(0, .aload_n 0), (1, .getfield 51), (4, .aload_n 0), (5, .getfield 55), (8, .imul), (9, .ireturn)]
def px_t73 : List (Nat × Instr) := [(0, .aload_n 0), (1, .iconst 0), (2, .putfield 58), (5, .iload_n 1), (6, .iconst 2), (7, .if_icmp .eq 33), (10, .iload_n 1), (11, .iconst 3), (12, .if_icmp .eq 28), (15, .iload_n 1), (16, .iconst 5), (17, .if_icmp .eq 23), (20, .iload_n 1), (21, .bipush 7), (23, .if_icmp .eq 17), (26, .iload_n 1), (27, .bipush 11), (29, .if_icmp .eq 11), (32, .iload_n 1), (33, .bipush 13), (35, .if_icmp .eq 5), (38, .iconst (-1)), (39, .ireturn), (40, .aload_n 0), (41, .aload_n 0), (42, .iload_n 1), (43, .invokevirtual 109), (46, .putfield 72), (49, .aload_n 0), (50, .getfield 72), (53, .ifCond .ne 5), (56, .iconst 0), (57, .ireturn), (58, .iconst 0), (59, .istore_n 2), (60, .iload_n 2), (61, .bipush 36), (63, .if_icmp .ge 108), (66, .aload_n 0), (67, .getfield 36), (70, .iload_n 2), (71, .iconst 0), (72, .iastore), (73, .aload_n 0), (74, .getfield 27), (77, .iload_n 2), (78, .baload), (79, .ifCond .ne 6), (82, .goto 83), (85, .aload_n 0), (86, .getfield 30), (89, .bipush 37), (91, .iload_n 2), (92, .imul), (93, .bipush 36), (95, .iadd), (96, .iaload), (97, .istore_n 3), (98, .iconst 0), (99, .istore 4), (101, .iload 4), (103, .iload_n 2), (104, .if_icmp .ge 36), (107, .iload_n 3), (108, .iload_n 1), (109, .aload_n 0), (110, .getfield 30), (113, .bipush 37), (115, .iload_n 2), (116, .imul), (117, .iload 4), (119, .iadd), (120, .iaload), (121, .isub), (122, .aload_n 0), (123, .getfield 36), (126, .iload 4), (128, .iaload), (129, .imul), (130, .iadd), (131, .iload_n 1), (132, .irem), (133, .istore_n 3), (134, .iinc 4 1), (137, .goto (-36)), (140, .aload_n 0), (141, .getfield 36), (144, .iload_n 2), (145, .iload_n 3), (146, .aload_n 0), (147, .getfield 30), (150, .bipush 37), (152, .iload_n 2), (153, .imul), (154, .iload_n 2), (155, .iadd), (156, .iaload), (157, .iload_n 1), (158, .invokestatic 102), (161, .imul), (162, .iload_n 1), (163, .irem), (164, .iastore), (165, .iinc 2 1), (168, .goto (-108)), (171, .iconst 1), (172, .ireturn)]
def px_t74 : List (Nat × Instr) := [(0, .iconst 0), (1, .istore_n 2), (2, .iconst 0), (3, .istore_n 3), (4, .iload_n 3), (5, .aload_n 0), (6, .getfield 61), (9, .if_icmp .ge 101), (12, .aload_n 0), (13, .iload_n 3), (14, .invokevirtual 91), (17, .iconst 0), (18, .istore 4), (20, .iload 4), (22, .aload_n 0), (23, .getfield 80), (26, .if_icmp .ge 78), (29, .iconst 0), (30, .istore 5), (32, .iconst 0), (33, .istore 6), (35, .iload 6), (37, .aload_n 0), (38, .invokevirtual 95), (41, .if_icmp .ge 42), (44, .iload 5), (46, .aload_n 0), (47, .getfield 23), (50, .iload 4), (52, .laload), (53, .iload 6), (55, .lshr), (56, .lconst 1), (57, .land), (58, .lconst 1), (59, .lcmp), (60, .ifCond .ne 13), (63, .aload_n 0), (64, .getfield 20), (67, .iload 6), (69, .iaload), (70, .goto 4), (73, .iconst 0), (74, .iadd), (75, .istore 5), (77, .iinc 6 1), (80, .goto (-45)), (83, .iload_n 2), (84, .iload 5), (86, .iload_n 1), (87, .irem), (88, .ifCond .ne 7), (91, .iconst 0), (92, .goto 4), (95, .iconst 1), (96, .iadd), (97, .istore_n 2), (98, .iinc 4 1), (101, .goto (-81)), (104, .iinc 3 1), (107, .goto (-103)), (110, .iload_n 2), (111, .ireturn)]
def px_t75 : List (Nat × Instr) := [(0, .iconst 0), (1, .istore_n 2), (2, .iload_n 2), (3, .bipush 36), (5, .if_icmp .ge 16), (8, .aload_n 0), (9, .getfield 27), (12, .iload_n 2), (13, .iconst 0), (14, .bastore), (15, .iinc 2 1), (18, .goto (-16)), (21, .iconst 0), (22, .istore_n 2), (23, .iload_n 2), (24, .aload_n 0), (25, .getfield 61), (28, .if_icmp .ge 79), (31, .aload_n 0), (32, .iload_n 2), (33, .invokevirtual 91), (36, .iconst 0), (37, .istore_n 3), (38, .iload_n 3), (39, .aload_n 0), (40, .getfield 80), (43, .if_icmp .ge 58), (46, .iconst 0), (47, .istore 4), (49, .iload 4), (51, .bipush 36), (53, .if_icmp .ge 28), (56, .aload_n 0), (57, .getfield 33), (60, .iload 4), (62, .aload_n 0), (63, .getfield 23), (66, .iload_n 3), (67, .laload), (68, .iload 4), (70, .lshr), (71, .lconst 1), (72, .land), (73, .l2i), (74, .iastore), (75, .iinc 4 1), (78, .goto (-29)), (81, .aload_n 0), (82, .getfield 33), (85, .bipush 36), (87, .iconst 0), (88, .iastore), (89, .aload_n 0), (90, .iload_n 1), (91, .invokevirtual 106), (94, .pop), (95, .iinc 3 1), (98, .goto (-60)), (101, .iinc 2 1), (104, .goto (-81)), (107, .iconst 0), (108, .istore_n 2), (109, .iload_n 2), (110, .bipush 36), (112, .if_icmp .ge 37), (115, .aload_n 0), (116, .getfield 33), (119, .iload_n 2), (120, .iload_n 2), (121, .aload_n 0), (122, .invokevirtual 95), (125, .if_icmp .ge 16), (128, .aload_n 0), (129, .getfield 7), (132, .iload_n 2), (133, .baload), (134, .ifCond .eq 7), (137, .iconst 1), (138, .goto 4), (141, .iconst 0), (142, .iastore), (143, .iinc 2 1), (146, .goto (-37)), (149, .aload_n 0), (150, .getfield 33), (153, .bipush 36), (155, .iconst 1), (156, .iastore), (157, .aload_n 0), (158, .iload_n 1), (159, .invokevirtual 106), (162, .ireturn)]
def px_t76 : List (Nat × Instr) := [(0, .aload_n 0), (1, .invokespecial 1), (4, .aload_n 0), (5, .bipush 36), (7, .newarray .boolean), (9, .putfield 7), (12, .aload_n 0), (13, .bipush 6), (15, .newarray .int), (17, .putfield 13), (20, .aload_n 0), (21, .bipush 36), (23, .newarray .int), (25, .putfield 17), (28, .aload_n 0), (29, .bipush 36), (31, .newarray .int), (33, .putfield 20), (36, .aload_n 0), (37, .sipush 512), (40, .newarray .long), (42, .putfield 23), (45, .aload_n 0), (46, .bipush 36), (48, .newarray .boolean), (50, .putfield 27), (53, .aload_n 0), (54, .sipush 1332), (57, .newarray .int), (59, .putfield 30), (62, .aload_n 0), (63, .bipush 37), (65, .newarray .int), (67, .putfield 33), (70, .aload_n 0), (71, .bipush 36), (73, .newarray .int), (75, .putfield 36), (78, .aload_n 0), (79, .sipush 200), (82, .newarray .int), (84, .putfield 39), (87, .aload_n 0), (88, .sipush 200), (91, .newarray .int), (93, .putfield 42), (96, .aload_n 0), (97, .sipush 200), (100, .newarray .int), (102, .putfield 45), (105, .aload_n 0), (106, .bipush 37), (108, .newarray .boolean), (110, .putfield 48), (113, .aload_n 0), (114, .iload_n 1), (115, .iconst 1), (116, .if_icmp .ge 7), (119, .iconst 1), (120, .goto 15), (123, .iload_n 1), (124, .bipush 6), (126, .if_icmp .le 8), (129, .bipush 6), (131, .goto 4), (134, .iload_n 1), (135, .putfield 51), (138, .aload_n 0), (139, .iload_n 2), (140, .iconst 1), (141, .if_icmp .ge 7), (144, .iconst 1), (145, .goto 15), (148, .iload_n 2), (149, .bipush 6), (151, .if_icmp .le 8), (154, .bipush 6), (156, .goto 4), (159, .iload_n 2), (160, .putfield 55), (163, .return_)]
def px_t77 : List (Nat × Instr) := [(0, .iconst 1), (1, .istore_n 2), (2, .iload_n 0), (3, .iload_n 2), (4, .imul), (5, .iload_n 1), (6, .irem), (7, .iconst 1), (8, .if_icmp .eq 9), (11, .iinc 2 1), (14, .goto (-12)), (17, .iload_n 2), (18, .ireturn)]
def px_t78 : List (Nat × Instr) := [(0, .iload_n 1), (1, .ifCond .lt 27), (4, .iload_n 1), (5, .aload_n 0), (6, .getfield 51), (9, .if_icmp .ge 19), (12, .iload_n 2), (13, .ifCond .lt 15), (16, .iload_n 2), (17, .aload_n 0), (18, .getfield 55), (21, .if_icmp .ge 7), (24, .iconst 1), (25, .goto 4), (28, .iconst 0), (29, .ireturn)]
def px_t79 : List (Nat × Instr) := [(0, .iload_n 1), (1, .ifCond .lt 15), (4, .iload_n 1), (5, .aload_n 0), (6, .getfield 61), (9, .if_icmp .ge 7), (12, .iconst 1), (13, .goto 4), (16, .iconst 0), (17, .ireturn)]
def px_t80 : List (Nat × Instr) := [(0, .iload_n 3), (1, .tableswitch 109 0 2 #[27, 53, 79]), (28, .aload_n 0), (29, .iload_n 1), (30, .iload_n 2), (31, .invokevirtual 119), (34, .ifCond .eq 18), (37, .aload_n 0), (38, .iload_n 1), (39, .iload_n 2), (40, .iconst 1), (41, .isub), (42, .invokevirtual 119), (45, .ifCond .ne 7), (48, .iconst 1), (49, .goto 4), (52, .iconst 0), (53, .ireturn), (54, .aload_n 0), (55, .iload_n 1), (56, .iconst 1), (57, .isub), (58, .iload_n 2), (59, .invokevirtual 119), (62, .ifCond .eq 16), (65, .aload_n 0), (66, .iload_n 1), (67, .iload_n 2), (68, .invokevirtual 119), (71, .ifCond .ne 7), (74, .iconst 1), (75, .goto 4), (78, .iconst 0), (79, .ireturn), (80, .aload_n 0), (81, .iload_n 1), (82, .iconst 1), (83, .isub), (84, .iload_n 2), (85, .iconst 1), (86, .isub), (87, .invokevirtual 119), (90, .ifCond .eq 18), (93, .aload_n 0), (94, .iload_n 1), (95, .iconst 1), (96, .isub), (97, .iload_n 2), (98, .invokevirtual 119), (101, .ifCond .ne 7), (104, .iconst 1), (105, .goto 4), (108, .iconst 0), (109, .ireturn), (110, .aload_n 0), (111, .iload_n 1), (112, .iload_n 2), (113, .iconst 1), (114, .isub), (115, .invokevirtual 119), (118, .ifCond .eq 20), (121, .aload_n 0), (122, .iload_n 1), (123, .iconst 1), (124, .isub), (125, .iload_n 2), (126, .iconst 1), (127, .isub), (128, .invokevirtual 119), (131, .ifCond .ne 7), (134, .iconst 1), (135, .goto 4), (138, .iconst 0), (139, .ireturn)]
def px_t81 : List (Nat × Instr) := [(0, .aload_n 0), (1, .iload_n 1), (2, .iload_n 2), (3, .invokevirtual 64), (6, .ifCond .eq 23), (9, .aload_n 0), (10, .getfield 7), (13, .aload_n 0), (14, .getfield 51), (17, .iload_n 2), (18, .imul), (19, .iload_n 1), (20, .iadd), (21, .baload), (22, .ifCond .eq 7), (25, .iconst 1), (26, .goto 4), (29, .iconst 0), (30, .ireturn)]
def px_t82 : List (Nat × Instr) := [(0, .bipush 35), (2, .istore_n 2), (3, .iload_n 2), (4, .ifCond .lt 144), (7, .aload_n 0), (8, .getfield 33), (11, .iload_n 2), (12, .iaload), (13, .ifCond .ne 6), (16, .goto 126), (19, .aload_n 0), (20, .getfield 27), (23, .iload_n 2), (24, .baload), (25, .ifCond .ne 43), (28, .aload_n 0), (29, .getfield 27), (32, .iload_n 2), (33, .iconst 1), (34, .bastore), (35, .iconst 0), (36, .istore_n 3), (37, .iload_n 3), (38, .bipush 37), (40, .if_icmp .ge 26), (43, .aload_n 0), (44, .getfield 30), (47, .bipush 37), (49, .iload_n 2), (50, .imul), (51, .iload_n 3), (52, .iadd), (53, .aload_n 0), (54, .getfield 33), (57, .iload_n 3), (58, .iaload), (59, .iastore), (60, .iinc 3 1), (63, .goto (-26)), (66, .iconst 1), (67, .ireturn), (68, .aload_n 0), (69, .getfield 33), (72, .iload_n 2), (73, .iaload), (74, .aload_n 0), (75, .getfield 30), (78, .bipush 37), (80, .iload_n 2), (81, .imul), (82, .iload_n 2), (83, .iadd), (84, .iaload), (85, .iload_n 1), (86, .invokestatic 102), (89, .imul), (90, .iload_n 1), (91, .irem), (92, .istore_n 3), (93, .iconst 0), (94, .istore 4), (96, .iload 4), (98, .bipush 37), (100, .if_icmp .ge 42), (103, .aload_n 0), (104, .getfield 33), (107, .iload 4), (109, .aload_n 0), (110, .getfield 33), (113, .iload 4), (115, .iaload), (116, .iload_n 1), (117, .iload_n 3), (118, .isub), (119, .aload_n 0), (120, .getfield 30), (123, .bipush 37), (125, .iload_n 2), (126, .imul), (127, .iload 4), (129, .iadd), (130, .iaload), (131, .imul), (132, .iadd), (133, .iload_n 1), (134, .irem), (135, .iastore), (136, .iinc 4 1), (139, .goto (-43)), (142, .iinc 2 (-1)), (145, .goto (-142)), (148, .aload_n 0), (149, .getfield 33), (152, .bipush 36), (154, .iaload), (155, .ifCond .ne 7), (158, .iconst 1), (159, .goto 4), (162, .iconst 0), (163, .ireturn)]
def px_t83 : List (Nat × Instr) := [(0, .aload_n 0), (1, .iconst 1), (2, .aload_n 0), (3, .iload_n 1), (4, .iload_n 2), (5, .invokevirtual 64), (8, .ifCond .ne 7), (11, .iconst 1), (12, .goto 4), (15, .iconst 0), (16, .invokevirtual 68), (19, .ifCond .ne 15), (22, .iload_n 3), (23, .bipush (-99)), (25, .if_icmp .lt 9), (28, .iload_n 3), (29, .bipush 99), (31, .if_icmp .le 5), (34, .iconst 0), (35, .ireturn), (36, .aload_n 0), (37, .getfield 20), (40, .aload_n 0), (41, .getfield 51), (44, .iload_n 2), (45, .imul), (46, .iload_n 1), (47, .iadd), (48, .iload_n 3), (49, .iastore), (50, .iconst 1), (51, .ireturn)]
def px_t84 : List (Nat × Instr) := [(0, .aload_n 0), (1, .iconst 0), (2, .putfield 58), (5, .aload_n 0), (6, .getfield 61), (9, .bipush 6), (11, .if_icmp .ne 5), (14, .iconst (-1)), (15, .ireturn), (16, .aload_n 0), (17, .getfield 13), (20, .aload_n 0), (21, .getfield 61), (24, .iconst 0), (25, .iastore), (26, .aload_n 0), (27, .dup), (28, .getfield 61), (31, .iconst 1), (32, .iadd), (33, .putfield 61), (36, .aload_n 0), (37, .iconst 0), (38, .putfield 72), (41, .aload_n 0), (42, .getfield 61), (45, .iconst 1), (46, .isub), (47, .ireturn)]
def px_t85 : List (Nat × Instr) := [(0, .aload_n 0), (1, .iconst 0), (2, .putfield 80), (5, .iconst 0), (6, .istore_n 2), (7, .iload_n 2), (8, .bipush 8), (10, .if_icmp .ge 65), (13, .bipush (-3)), (15, .istore_n 3), (16, .iload_n 3), (17, .bipush 10), (19, .if_icmp .ge 50), (22, .bipush (-3)), (24, .istore 4), (26, .iload 4), (28, .bipush 10), (30, .if_icmp .ge 33), (33, .aload_n 0), (34, .iload_n 1), (35, .iload_n 2), (36, .iload 4), (38, .iload_n 3), (39, .invokevirtual 83), (42, .lstore 5), (44, .lload 5), (46, .lconst 0), (47, .lcmp), (48, .ifCond .eq 9), (51, .aload_n 0), (52, .lload 5), (54, .invokevirtual 87), (57, .iinc 4 1), (60, .goto (-34)), (63, .iinc 3 1), (66, .goto (-50)), (69, .iinc 2 1), (72, .goto (-65)), (75, .return_)]
def px_t86 : List (Nat × Instr) := [(0, .aload_n 0), (1, .iconst 1), (2, .aload_n 0), (3, .iload_n 1), (4, .invokevirtual 76), (7, .ifCond .ne 7), (10, .iconst 1), (11, .goto 4), (14, .iconst 0), (15, .invokevirtual 68), (18, .ifCond .eq 5), (21, .iconst 0), (22, .ireturn), (23, .aload_n 0), (24, .iload_n 1), (25, .invokevirtual 91), (28, .iload_n 2), (29, .ifCond .lt 11), (32, .iload_n 2), (33, .aload_n 0), (34, .getfield 80), (37, .if_icmp .lt 5), (40, .iconst (-1)), (41, .ireturn), (42, .iconst 0), (43, .istore 4), (45, .iconst 0), (46, .istore 5), (48, .iload 5), (50, .aload_n 0), (51, .invokevirtual 95), (54, .if_icmp .ge 40), (57, .aload_n 0), (58, .getfield 23), (61, .iload_n 2), (62, .laload), (63, .iload 5), (65, .lshr), (66, .lconst 1), (67, .land), (68, .lconst 0), (69, .lcmp), (70, .ifCond .ne 6), (73, .goto 15), (76, .iload 4), (78, .iload_n 3), (79, .if_icmp .ne 6), (82, .iload 5), (84, .ireturn), (85, .iinc 4 1), (88, .iinc 5 1), (91, .goto (-43)), (94, .iconst (-1)), (95, .ireturn)]
def px_t87 : List (Nat × Instr) := [(0, .aload_n 0), (1, .iconst 1), (2, .aload_n 0), (3, .iload_n 1), (4, .invokevirtual 76), (7, .ifCond .ne 7), (10, .iconst 1), (11, .goto 4), (14, .iconst 0), (15, .invokevirtual 68), (18, .ifCond .eq 5), (21, .iconst 0), (22, .ireturn), (23, .aload_n 0), (24, .iload_n 1), (25, .invokevirtual 91), (28, .aload_n 0), (29, .getfield 80), (32, .ireturn)]
def px_t88 : List (Nat × Instr) := [(0, .aload_n 0), (1, .iconst 0), (2, .putfield 58), (5, .iload_n 1), (6, .iconst 1), (7, .if_icmp .le 24), (10, .aload_n 0), (11, .invokevirtual 112), (14, .iload_n 1), (15, .irem), (16, .ifCond .eq 15), (19, .aload_n 0), (20, .iload_n 1), (21, .invokevirtual 115), (24, .ifCond .ne 7), (27, .iconst 1), (28, .goto 4), (31, .iconst 0), (32, .ireturn)]
def px_t89 : List (Nat × Instr) := [(0, .aload_n 0), (1, .iconst 0), (2, .putfield 58), (5, .iload_n 1), (6, .iconst 2), (7, .if_icmp .lt 9), (10, .iload_n 1), (11, .bipush 9), (13, .if_icmp .le 5), (16, .iconst (-1)), (17, .ireturn), (18, .aload_n 0), (19, .iload_n 1), (20, .invokevirtual 135), (23, .iload_n 2), (24, .ifCond .lt 11), (27, .iload_n 2), (28, .aload_n 0), (29, .getfield 132), (32, .if_icmp .lt 7), (35, .iconst (-1)), (36, .goto 18), (39, .aload_n 0), (40, .getfield 42), (43, .iload_n 2), (44, .iaload), (45, .iconst 2), (46, .aload_n 0), (47, .getfield 45), (50, .iload_n 2), (51, .iaload), (52, .imul), (53, .iadd), (54, .ireturn)]
def px_t90 : List (Nat × Instr) := [(0, .aload_n 0), (1, .iconst 0), (2, .putfield 58), (5, .iload_n 1), (6, .iconst 2), (7, .if_icmp .lt 9), (10, .iload_n 1), (11, .bipush 9), (13, .if_icmp .le 5), (16, .iconst (-1)), (17, .ireturn), (18, .aload_n 0), (19, .iload_n 1), (20, .invokevirtual 135), (23, .aload_n 0), (24, .getfield 132), (27, .ireturn)]
def px_t91 : List (Nat × Instr) := [(0, .lconst 0), (1, .lstore 5), (3, .iconst 0), (4, .istore 7), (6, .iload 7), (8, .aload_n 0), (9, .getfield 13), (12, .iload_n 1), (13, .iaload), (14, .if_icmp .ge 149), (17, .aload_n 0), (18, .getfield 17), (21, .bipush 6), (23, .iload_n 1), (24, .imul), (25, .iload 7), (27, .iadd), (28, .iaload), (29, .iconst 4), (30, .irem), (31, .istore 8), (33, .aload_n 0), (34, .getfield 17), (37, .bipush 6), (39, .iload_n 1), (40, .imul), (41, .iload 7), (43, .iadd), (44, .iaload), (45, .iconst 4), (46, .idiv), (47, .istore 9), (49, .iload_n 2), (50, .iconst 3), (51, .if_icmp .le 9), (54, .iload 8), (56, .ineg), (57, .goto 5), (60, .iload 8), (62, .istore 8), (64, .iconst 0), (65, .istore 10), (67, .iload 10), (69, .iload_n 2), (70, .iconst 4), (71, .irem), (72, .if_icmp .ge 22), (75, .iload 8), (77, .istore 11), (79, .iload 9), (81, .ineg), (82, .istore 8), (84, .iload 11), (86, .istore 9), (88, .iinc 10 1), (91, .goto (-24)), (94, .aload_n 0), (95, .iload 8), (97, .iload_n 3), (98, .iadd), (99, .iload 9), (101, .iload 4), (103, .iadd), (104, .invokevirtual 64), (107, .ifCond .eq 26), (110, .aload_n 0), (111, .getfield 7), (114, .aload_n 0), (115, .getfield 51), (118, .iload 9), (120, .iload 4), (122, .iadd), (123, .imul), (124, .iload 8), (126, .iadd), (127, .iload_n 3), (128, .iadd), (129, .baload), (130, .ifCond .ne 5), (133, .lconst 0), (134, .lreturn), (135, .lload 5), (137, .lconst 1), (138, .aload_n 0), (139, .getfield 51), (142, .iload 9), (144, .iload 4), (146, .iadd), (147, .imul), (148, .iload 8), (150, .iadd), (151, .iload_n 3), (152, .iadd), (153, .lshl), (154, .lor), (155, .lstore 5), (157, .iinc 7 1), (160, .goto (-154)), (163, .lload 5), (165, .lreturn)]
def px_t92 : List (Nat × Instr) := [(0, .iconst 0), (1, .istore_n 1), (2, .iconst 0), (3, .istore_n 2), (4, .iload_n 2), (5, .aload_n 0), (6, .invokevirtual 95), (9, .if_icmp .ge 26), (12, .iload_n 1), (13, .aload_n 0), (14, .getfield 7), (17, .iload_n 2), (18, .baload), (19, .ifCond .eq 7), (22, .iconst 1), (23, .goto 4), (26, .iconst 0), (27, .iadd), (28, .istore_n 1), (29, .iinc 2 1), (32, .goto (-28)), (35, .iload_n 1), (36, .ireturn)]
def px_t93 : List (Nat × Instr) := [(0, .aload_n 0), (1, .iconst 0), (2, .putfield 58), (5, .aload_n 0), (6, .invokevirtual 99), (9, .istore_n 1), (10, .iconst 0), (11, .istore_n 2), (12, .iload_n 2), (13, .iload_n 1), (14, .if_icmp .gt 82), (17, .aload_n 0), (18, .getfield 48), (21, .iload_n 2), (22, .iload_n 2), (23, .ifCond .ne 7), (26, .iconst 1), (27, .goto 4), (30, .iconst 0), (31, .bastore), (32, .iconst 0), (33, .istore_n 3), (34, .iload_n 3), (35, .aload_n 0), (36, .getfield 61), (39, .if_icmp .ge 51), (42, .aload_n 0), (43, .getfield 13), (46, .iload_n 3), (47, .iaload), (48, .ifCond .le 36), (51, .iload_n 2), (52, .aload_n 0), (53, .getfield 13), (56, .iload_n 3), (57, .iaload), (58, .if_icmp .lt 26), (61, .aload_n 0), (62, .getfield 48), (65, .iload_n 2), (66, .aload_n 0), (67, .getfield 13), (70, .iload_n 3), (71, .iaload), (72, .isub), (73, .baload), (74, .ifCond .eq 10), (77, .aload_n 0), (78, .getfield 48), (81, .iload_n 2), (82, .iconst 1), (83, .bastore), (84, .iinc 3 1), (87, .goto (-53)), (90, .iinc 2 1), (93, .goto (-81)), (96, .aload_n 0), (97, .getfield 48), (100, .iload_n 1), (101, .baload), (102, .ireturn)]
def px_t94 : List (Nat × Instr) := [(0, .aload_n 0), (1, .iconst 1), (2, .aload_n 0), (3, .iload_n 1), (4, .invokevirtual 76), (7, .ifCond .ne 7), (10, .iconst 1), (11, .goto 4), (14, .iconst 0), (15, .invokevirtual 68), (18, .ifCond .ne 34), (21, .aload_n 0), (22, .iconst 2), (23, .iload_n 2), (24, .ifCond .lt 17), (27, .iload_n 2), (28, .iconst 3), (29, .if_icmp .gt 12), (32, .iload_n 3), (33, .ifCond .lt 8), (36, .iload_n 3), (37, .iconst 3), (38, .if_icmp .le 7), (41, .iconst 1), (42, .goto 4), (45, .iconst 0), (46, .invokevirtual 68), (49, .ifCond .eq 5), (52, .iconst 0), (53, .ireturn), (54, .iconst 0), (55, .istore 4), (57, .iload 4), (59, .aload_n 0), (60, .getfield 13), (63, .iload_n 1), (64, .iaload), (65, .if_icmp .ge 31), (68, .aload_n 0), (69, .getfield 17), (72, .bipush 6), (74, .iload_n 1), (75, .imul), (76, .iload 4), (78, .iadd), (79, .iaload), (80, .iconst 4), (81, .iload_n 3), (82, .imul), (83, .iload_n 2), (84, .iadd), (85, .if_icmp .ne 5), (88, .iconst 0), (89, .ireturn), (90, .iinc 4 1), (93, .goto (-36)), (96, .aload_n 0), (97, .getfield 13), (100, .iload_n 1), (101, .iaload), (102, .bipush 6), (104, .if_icmp .ne 5), (107, .iconst 0), (108, .ireturn), (109, .aload_n 0), (110, .getfield 17), (113, .bipush 6), (115, .iload_n 1), (116, .imul), (117, .aload_n 0), (118, .getfield 13), (121, .iload_n 1), (122, .iaload), (123, .iadd), (124, .iconst 4), (125, .iload_n 3), (126, .imul), (127, .iload_n 2), (128, .iadd), (129, .iastore), (130, .aload_n 0), (131, .getfield 13), (134, .iload_n 1), (135, .dup2), (136, .iaload), (137, .iconst 1), (138, .iadd), (139, .iastore), (140, .aload_n 0), (141, .iconst 0), (142, .putfield 72), (145, .iconst 1), (146, .ireturn)]
def px_t95 : List (Nat × Instr) := [(0, .aload_n 0), (1, .iconst 0), (2, .putfield 58), (5, .aload_n 0), (6, .invokevirtual 112), (9, .ireturn)]
def px_t96 : List (Nat × Instr) := [(0, .iconst 0), (1, .istore_n 1), (2, .iconst 0), (3, .istore_n 2), (4, .iload_n 2), (5, .aload_n 0), (6, .invokevirtual 95), (9, .if_icmp .ge 31), (12, .iload_n 1), (13, .aload_n 0), (14, .getfield 7), (17, .iload_n 2), (18, .baload), (19, .ifCond .eq 12), (22, .aload_n 0), (23, .getfield 20), (26, .iload_n 2), (27, .iaload), (28, .goto 4), (31, .iconst 0), (32, .iadd), (33, .istore_n 1), (34, .iinc 2 1), (37, .goto (-33)), (40, .iload_n 1), (41, .ireturn)]
def px_t97 : List (Nat × Instr) := [(0, .aload_n 0), (1, .invokevirtual 129), (4, .aload_n 0), (5, .iconst 0), (6, .putfield 132), (9, .iconst 0), (10, .istore_n 2), (11, .iload_n 2), (12, .aload_n 0), (13, .getfield 122), (16, .if_icmp .ge 136), (19, .aload_n 0), (20, .getfield 39), (23, .iload_n 2), (24, .iaload), (25, .iconst 2), (26, .irem), (27, .istore_n 3), (28, .aload_n 0), (29, .getfield 132), (32, .ifCond .eq 18), (35, .aload_n 0), (36, .getfield 42), (39, .aload_n 0), (40, .getfield 132), (43, .iconst 1), (44, .isub), (45, .iaload), (46, .iload_n 3), (47, .if_icmp .eq 33), (50, .aload_n 0), (51, .getfield 42), (54, .aload_n 0), (55, .getfield 132), (58, .iload_n 3), (59, .iastore), (60, .aload_n 0), (61, .getfield 45), (64, .aload_n 0), (65, .getfield 132), (68, .iconst 0), (69, .iastore), (70, .aload_n 0), (71, .dup), (72, .getfield 132), (75, .iconst 1), (76, .iadd), (77, .putfield 132), (80, .aload_n 0), (81, .getfield 45), (84, .aload_n 0), (85, .getfield 132), (88, .iconst 1), (89, .isub), (90, .aload_n 0), (91, .getfield 45), (94, .aload_n 0), (95, .getfield 132), (98, .iconst 1), (99, .isub), (100, .iaload), (101, .aload_n 0), (102, .getfield 39), (105, .iload_n 2), (106, .iaload), (107, .iconst 2), (108, .if_icmp .ge 7), (111, .iconst 1), (112, .goto 6), (115, .iload_n 1), (116, .iconst 1), (117, .isub), (118, .iadd), (119, .iload_n 1), (120, .irem), (121, .iastore), (122, .aload_n 0), (123, .getfield 45), (126, .aload_n 0), (127, .getfield 132), (130, .iconst 1), (131, .isub), (132, .iaload), (133, .ifCond .ne 13), (136, .aload_n 0), (137, .dup), (138, .getfield 132), (141, .iconst 1), (142, .isub), (143, .putfield 132), (146, .iinc 2 1), (149, .goto (-138)), (152, .return_)]
def px_t98 : List (Nat × Instr) := [(0, .aload_n 0), (1, .iconst 0), (2, .putfield 58), (5, .aload_n 0), (6, .getfield 72), (9, .ifCond .eq 22), (12, .iload_n 1), (13, .ifCond .lt 18), (16, .iload_n 1), (17, .aload_n 0), (18, .getfield 51), (21, .iconst 1), (22, .iadd), (23, .aload_n 0), (24, .getfield 55), (27, .imul), (28, .if_icmp .lt 5), (31, .iconst (-1)), (32, .ireturn), (33, .iload_n 1), (34, .aload_n 0), (35, .getfield 51), (38, .iconst 1), (39, .iadd), (40, .irem), (41, .istore_n 2), (42, .aload_n 0), (43, .getfield 51), (46, .iload_n 1), (47, .aload_n 0), (48, .getfield 51), (51, .iconst 1), (52, .iadd), (53, .idiv), (54, .imul), (55, .iload_n 2), (56, .iadd), (57, .istore_n 3), (58, .iload_n 2), (59, .aload_n 0), (60, .getfield 51), (63, .if_icmp .ne 8), (66, .bipush 59), (68, .goto 26), (71, .aload_n 0), (72, .getfield 7), (75, .iload_n 3), (76, .baload), (77, .ifCond .eq 15), (80, .bipush 97), (82, .aload_n 0), (83, .getfield 36), (86, .iload_n 3), (87, .iaload), (88, .iadd), (89, .goto 5), (92, .bipush 46), (94, .ireturn)]
def px_t99 : List (Nat × Instr) := [(0, .aload_n 0), (1, .iload_n 2), (2, .ifCond .eq 7), (5, .iload_n 1), (6, .goto 4), (9, .iconst 0), (10, .putfield 58), (13, .iload_n 2), (14, .ireturn)]
def px_t100 : List (Nat × Instr) := [(0, .aload_n 0), (1, .iconst 0), (2, .putfield 122), (5, .iconst 0), (6, .istore_n 1), (7, .iload_n 1), (8, .aload_n 0), (9, .invokevirtual 95), (12, .if_icmp .ge 18), (15, .aload_n 0), (16, .getfield 7), (19, .iload_n 1), (20, .baload), (21, .ifCond .ne 9), (24, .iinc 1 1), (27, .goto (-20)), (30, .iload_n 1), (31, .aload_n 0), (32, .invokevirtual 95), (35, .if_icmp .ne 4), (38, .return_), (39, .iload_n 1), (40, .aload_n 0), (41, .getfield 51), (44, .irem), (45, .istore_n 2), (46, .iload_n 1), (47, .aload_n 0), (48, .getfield 51), (51, .idiv), (52, .istore_n 3), (53, .iconst 0), (54, .istore 4), (56, .iconst 1), (57, .istore 5), (59, .iload 5), (61, .ifCond .eq 154), (64, .aload_n 0), (65, .getfield 39), (68, .aload_n 0), (69, .getfield 122), (72, .iload 4), (74, .iastore), (75, .aload_n 0), (76, .dup), (77, .getfield 122), (80, .iconst 1), (81, .iadd), (82, .putfield 122), (85, .iload_n 2), (86, .iload 4), (88, .ifCond .ne 7), (91, .iconst 1), (92, .goto 14), (95, .iload 4), (97, .iconst 2), (98, .if_icmp .ne 7), (101, .iconst (-1)), (102, .goto 4), (105, .iconst 0), (106, .iadd), (107, .istore_n 2), (108, .iload_n 3), (109, .iload 4), (111, .iconst 1), (112, .if_icmp .ne 7), (115, .iconst 1), (116, .goto 14), (119, .iload 4), (121, .iconst 3), (122, .if_icmp .ne 7), (125, .iconst (-1)), (126, .goto 4), (129, .iconst 0), (130, .iadd), (131, .istore_n 3), (132, .aload_n 0), (133, .iload_n 2), (134, .iload_n 3), (135, .iload 4), (137, .iconst 1), (138, .iadd), (139, .iconst 4), (140, .irem), (141, .invokevirtual 125), (144, .ifCond .eq 12), (147, .iload 4), (149, .iconst 1), (150, .iadd), (151, .iconst 4), (152, .irem), (153, .goto 25), (156, .aload_n 0), (157, .iload_n 2), (158, .iload_n 3), (159, .iload 4), (161, .invokevirtual 125), (164, .ifCond .eq 8), (167, .iload 4), (169, .goto 9), (172, .iload 4), (174, .iconst 3), (175, .iadd), (176, .iconst 4), (177, .irem), (178, .istore 4), (180, .iload_n 2), (181, .iload_n 1), (182, .aload_n 0), (183, .getfield 51), (186, .irem), (187, .if_icmp .ne 18), (190, .iload_n 3), (191, .iload_n 1), (192, .aload_n 0), (193, .getfield 51), (196, .idiv), (197, .if_icmp .ne 8), (200, .iload 4), (202, .ifCond .eq 7), (205, .iconst 1), (206, .goto 4), (209, .iconst 0), (210, .istore 5), (212, .goto (-153)), (215, .return_)]
def px_t101 : List (Nat × Instr) := [(0, .aload_n 0), (1, .iconst 1), (2, .aload_n 0), (3, .iload_n 1), (4, .iload_n 2), (5, .invokevirtual 64), (8, .ifCond .ne 7), (11, .iconst 1), (12, .goto 4), (15, .iconst 0), (16, .invokevirtual 68), (19, .ifCond .eq 5), (22, .iconst 0), (23, .ireturn), (24, .aload_n 0), (25, .getfield 72), (28, .ifCond .eq 35), (31, .aload_n 0), (32, .getfield 7), (35, .aload_n 0), (36, .getfield 51), (39, .iload_n 2), (40, .imul), (41, .iload_n 1), (42, .iadd), (43, .baload), (44, .ifCond .eq 19), (47, .aload_n 0), (48, .getfield 36), (51, .aload_n 0), (52, .getfield 51), (55, .iload_n 2), (56, .imul), (57, .iload_n 1), (58, .iadd), (59, .iaload), (60, .goto 4), (63, .iconst (-1)), (64, .ireturn)]
def px_tab (j : Nat) : List (Nat × Instr) := match j with
  | 0 => px_t0
  | 1 => px_t1
  | 2 => px_t2
  | 3 => px_t3
  | 4 => px_t4
  | 5 => px_t5
  | 6 => px_t6
  | 7 => px_t7
  | 8 => px_t8
  | 9 => px_t9
  | 10 => px_t10
  | 11 => px_t11
  | 12 => px_t12
  | 13 => px_t13
  | 14 => px_t14
  | 15 => px_t15
  | 16 => px_t16
  | 17 => px_t17
  | 18 => px_t18
  | 19 => px_t19
  | 20 => px_t20
  | 21 => px_t21
  | 22 => px_t22
  | 23 => px_t23
  | 24 => px_t24
  | 25 => px_t25
  | 26 => px_t26
  | 27 => px_t27
  | 28 => px_t28
  | 29 => px_t29
  | 30 => px_t30
  | 31 => px_t31
  | 32 => px_t32
  | 33 => px_t33
  | 34 => px_t34
  | 35 => px_t35
  | 36 => px_t36
  | 37 => px_t37
  | 38 => px_t38
  | 39 => px_t39
  | 40 => px_t40
  | 41 => px_t41
  | 42 => px_t42
  | 43 => px_t43
  | 44 => px_t44
  | 45 => px_t45
  | 46 => px_t46
  | 47 => px_t47
  | 48 => px_t48
  | 49 => px_t49
  | 50 => px_t50
  | 51 => px_t51
  | 52 => px_t52
  | 53 => px_t53
  | 54 => px_t54
  | 55 => px_t55
  | 56 => px_t56
  | 57 => px_t57
  | 58 => px_t58
  | 59 => px_t59
  | 60 => px_t60
  | 61 => px_t61
  | 62 => px_t62
  | 63 => px_t63
  | 64 => px_t64
  | 65 => px_t65
  | 66 => px_t66
  | 67 => px_t67
  | 68 => px_t68
  | 69 => px_t69
  | 70 => px_t70
  | 71 => px_t71
  | 72 => px_t72
  | 73 => px_t73
  | 74 => px_t74
  | 75 => px_t75
  | 76 => px_t76
  | 77 => px_t77
  | 78 => px_t78
  | 79 => px_t79
  | 80 => px_t80
  | 81 => px_t81
  | 82 => px_t82
  | 83 => px_t83
  | 84 => px_t84
  | 85 => px_t85
  | 86 => px_t86
  | 87 => px_t87
  | 88 => px_t88
  | 89 => px_t89
  | 90 => px_t90
  | 91 => px_t91
  | 92 => px_t92
  | 93 => px_t93
  | 94 => px_t94
  | 95 => px_t95
  | 96 => px_t96
  | 97 => px_t97
  | 98 => px_t98
  | 99 => px_t99
  | 100 => px_t100
  | 101 => px_t101
  | _ => []
/-- class number, pool entry, method number, place of the word -/
def px_ml_ : List (Nat × Nat × Nat × Nat) := [(5, 41, 51, 56), (3, 9, 3, 62), (3, 15, 2, 65), (3, 31, 23, 71), (3, 43, 14, 106), (3, 52, 38, 131), (5, 51, 56, 196), (5, 67, 63, 200), (3, 105, 60, 204), (3, 169, 31, 208), (1, 29, 1, 212), (3, 109, 0, 218), (5, 72, 48, 224), (3, 115, 52, 228), (3, 118, 13, 231), (0, 29, 2, 235), (3, 121, 43, 236), (3, 90, 27, 240), (1, 52, 26, 244), (1, 68, 21, 248), (1, 71, 30, 251), (1, 74, 20, 254), (1, 80, 24, 259), (3, 125, 12, 263), (0, 35, 19, 267), (0, 39, 17, 271), (0, 43, 16, 275), (0, 47, 15, 279), (3, 128, 18, 283), (5, 80, 66, 287), (3, 60, 50, 291), (5, 87, 65, 295), (3, 132, 55, 299), (5, 91, 44, 303), (5, 95, 59, 307), (3, 135, 44, 311), (5, 100, 45, 312), (3, 138, 42, 316), (2, 33, 0, 320), (2, 39, 36, 321), (2, 56, 40, 329), (2, 60, 39, 333), (2, 70, 37, 341), (5, 104, 62, 349), (3, 147, 34, 353), (2, 46, 35, 357), (2, 80, 41, 361), (5, 108, 61, 365), (3, 153, 62, 369), (5, 36, 4, 370), (5, 47, 5, 373), (5, 7, 46, 451), (3, 57, 53, 455), (5, 56, 10, 462), (5, 15, 64, 466), (3, 75, 49, 470), (3, 86, 32, 491), (1, 35, 31, 495), (1, 46, 22, 496), (1, 56, 33, 500), (1, 59, 28, 503), (1, 62, 25, 506), (1, 65, 29, 510), (5, 60, 9, 513), (5, 21, 58, 516), (5, 64, 8, 520), (5, 25, 57, 523), (3, 101, 47, 527), (5, 76, 11, 530), (5, 29, 67, 533), (5, 84, 7, 537), (5, 33, 54, 540), (5, 46, 76, 546), (5, 50, 71, 614), (4, 64, 78, 618), (4, 68, 99, 622), (5, 55, 84, 626), (5, 59, 94, 630), (4, 76, 79, 634), (5, 63, 87, 638), (4, 91, 85, 642), (4, 83, 91, 646), (4, 87, 68, 650), (5, 66, 86, 654), (4, 95, 72, 658), (5, 71, 93, 662), (4, 99, 92, 666), (5, 75, 73, 670), (4, 109, 75, 674), (4, 106, 82, 678), (4, 102, 77, 682), (5, 79, 101, 685), (5, 83, 98, 689), (5, 86, 83, 693), (5, 90, 95, 697), (4, 112, 96, 701), (5, 94, 69, 705), (4, 115, 74, 709), (5, 99, 88, 713), (5, 103, 70, 717), (4, 129, 100, 721), (4, 125, 80, 725), (4, 119, 81, 729), (5, 107, 90, 733), (4, 135, 97, 737), (5, 111, 89, 741)]
/-- Object.<init>: class number, pool entry, place -/
def px_oi_ : List (Nat × Nat × Nat) := [(3, 1, 59), (1, 3, 74), (0, 1, 109), (2, 1, 134), (4, 1, 549)]
/-- class number, pool entry, class tag, field, place, nest -/
def px_fl_ : List (Nat × Nat × Nat × Nat × Nat × Nat) := [(1, 9, 1, 0, 75, 0), (1, 15, 1, 1, 76, 0), (1, 18, 1, 2, 77, 0), (1, 22, 1, 3, 78, 0), (1, 26, 1, 4, 80, 0), (1, 49, 1, 5, 81, 0), (1, 43, 1, 6, 82, 0), (1, 39, 1, 7, 84, 0), (0, 7, 0, 0, 112, 0), (0, 15, 0, 1, 113, 0), (0, 18, 0, 2, 114, 0), (0, 22, 0, 3, 115, 0), (0, 26, 0, 4, 116, 0), (2, 7, 2, 0, 135, 0), (2, 13, 2, 1, 136, 0), (2, 16, 2, 2, 137, 0), (2, 20, 2, 3, 139, 0), (2, 23, 2, 4, 141, 0), (2, 30, 2, 5, 143, 0), (2, 43, 2, 6, 145, 0), (2, 26, 2, 7, 147, 0), (3, 18, 3, 0, 165, 0), (3, 22, 3, 1, 166, 0), (3, 27, 3, 2, 167, 0), (3, 34, 3, 3, 168, 0), (3, 38, 3, 4, 169, 0), (3, 46, 3, 5, 170, 0), (3, 53, 3, 6, 171, 0), (3, 72, 3, 7, 172, 0), (3, 64, 3, 8, 173, 0), (3, 68, 3, 9, 174, 0), (4, 58, 4, 0, 550, 0), (4, 51, 4, 1, 551, 0), (4, 55, 4, 2, 552, 0), (4, 7, 4, 3, 553, 0), (4, 61, 4, 4, 554, 0), (4, 13, 4, 5, 555, 0), (4, 17, 4, 6, 556, 0), (4, 20, 4, 7, 557, 0), (4, 80, 4, 8, 558, 0), (4, 23, 4, 9, 559, 0), (4, 27, 4, 10, 560, 0), (4, 30, 4, 11, 561, 0), (4, 33, 4, 12, 562, 0), (4, 72, 4, 13, 563, 0), (4, 36, 4, 14, 564, 0), (4, 122, 4, 15, 565, 0), (4, 39, 4, 16, 566, 0), (4, 132, 4, 17, 567, 0), (4, 42, 4, 18, 568, 0), (4, 45, 4, 19, 569, 0), (4, 48, 4, 20, 570, 0), (3, 97, 1, 3, 79, 1), (3, 94, 1, 6, 83, 1), (3, 144, 2, 2, 138, 1), (3, 156, 2, 3, 140, 1), (3, 159, 2, 4, 142, 1), (3, 141, 2, 5, 144, 1), (3, 150, 2, 6, 146, 1)]
def px_sl_ : List (Nat × Nat × Nat × Nat) := [(2, 50, 1, 325), (2, 53, 2, 327), (2, 64, 3, 337), (2, 67, 4, 339), (2, 74, 5, 345), (2, 77, 6, 347)]
/-- new: class number, pool entry, class tag, place -/
def px_cl_ : List (Nat × Nat × Nat × Nat) := [(5, 8, 3, 54), (3, 25, 1, 68), (3, 41, 0, 104), (3, 50, 2, 129), (5, 44, 4, 544)]
def px_ki_ : List (Nat × Nat × Int32 × Nat) := [(6, 265, 1431655765, 215), (6, 266, 858993459, 216), (6, 267, 252645135, 217)]
def px_kl_ : List (Nat × Nat × Int64 × Nat) := [(7, 314, 6148914691236517205, 221), (7, 316, 3689348814741910323, 222), (7, 318, 1085102592571150095, 223), (1, 78, -1, 258)]
def px_ps0 (j : Nat) : Nat := match j with
  | 0 => 219
  | 1 => 213
  | 2 => 66
  | 3 => 63
  | 4 => 371
  | 5 => 374
  | 7 => 538
  | 8 => 521
  | 9 => 514
  | 10 => 463
  | 11 => 531
  | 21 => 249
  | 28 => 504
  | 29 => 511
  | 30 => 252
  | 33 => 501
  | 47 => 528
  | 52 => 229
  | 77 => 683
  | _ => 0
def px_ps1 (j : Nat) : Nat := match j with
  | 12 => 264
  | 13 => 232
  | 14 => 107
  | 15 => 281
  | 16 => 277
  | 17 => 273
  | 18 => 284
  | 19 => 269
  | 20 => 256
  | 22 => 498
  | 23 => 72
  | 24 => 261
  | 25 => 508
  | 26 => 246
  | 27 => 241
  | 31 => 209
  | 32 => 492
  | 34 => 354
  | 35 => 359
  | 36 => 323
  | 37 => 343
  | 38 => 132
  | 39 => 335
  | 40 => 331
  | 41 => 363
  | 42 => 317
  | 43 => 238
  | 44 => 304
  | 45 => 313
  | 46 => 452
  | 48 => 225
  | 49 => 472
  | 50 => 293
  | 51 => 57
  | 53 => 457
  | 54 => 541
  | 55 => 301
  | 56 => 197
  | 57 => 524
  | 58 => 517
  | 59 => 308
  | 60 => 206
  | 61 => 366
  | 62 => 350
  | 63 => 201
  | 64 => 467
  | 65 => 296
  | 66 => 288
  | 67 => 534
  | 68 => 652
  | 69 => 706
  | 70 => 718
  | 71 => 615
  | 72 => 660
  | 73 => 671
  | 74 => 711
  | 75 => 676
  | 76 => 547
  | 78 => 620
  | 79 => 636
  | 80 => 727
  | 81 => 731
  | 82 => 680
  | 83 => 694
  | 84 => 627
  | 85 => 644
  | 86 => 655
  | 87 => 639
  | 88 => 714
  | 89 => 742
  | 90 => 734
  | 91 => 648
  | 92 => 668
  | 93 => 663
  | 94 => 631
  | 95 => 698
  | 96 => 703
  | 97 => 739
  | 98 => 690
  | 99 => 624
  | 100 => 723
  | 101 => 686
  | _ => 0
def px_ps2 (j : Nat) : Nat := match j with
  | 12 => 265
  | 13 => 233
  | 15 => 8
  | 16 => 7
  | 17 => 6
  | 18 => 285
  | 19 => 5
  | 20 => 3
  | 22 => 20
  | 24 => 4
  | 25 => 21
  | 26 => 2
  | 27 => 242
  | 31 => 210
  | 32 => 493
  | 34 => 355
  | 35 => 15
  | 36 => 11
  | 37 => 14
  | 39 => 13
  | 40 => 12
  | 41 => 16
  | 42 => 318
  | 43 => 1
  | 44 => 305
  | 45 => 314
  | 46 => 453
  | 48 => 226
  | 49 => 19
  | 50 => 9
  | 53 => 18
  | 54 => 542
  | 55 => 10
  | 56 => 198
  | 57 => 525
  | 58 => 518
  | 59 => 309
  | 60 => 0
  | 61 => 367
  | 62 => 351
  | 63 => 202
  | 64 => 468
  | 65 => 297
  | 66 => 289
  | 67 => 535
  | 68 => 27
  | 69 => 707
  | 70 => 719
  | 71 => 616
  | 72 => 28
  | 73 => 672
  | 74 => 33
  | 75 => 30
  | 78 => 22
  | 79 => 24
  | 80 => 35
  | 81 => 36
  | 82 => 31
  | 83 => 695
  | 84 => 628
  | 85 => 25
  | 86 => 656
  | 87 => 640
  | 88 => 715
  | 89 => 743
  | 90 => 735
  | 91 => 26
  | 92 => 29
  | 93 => 664
  | 94 => 632
  | 95 => 699
  | 96 => 32
  | 97 => 37
  | 98 => 691
  | 99 => 23
  | 100 => 34
  | 101 => 687
  | _ => 0
def px_pin (j : Nat) : Nat := match j with
  | 0 => 42
  | 1 => 41
  | 2 => 43
  | 3 => 39
  | 4 => 44
  | 5 => 38
  | 6 => 52
  | 7 => 53
  | 8 => 40
  | _ => 0
end
section
def px_len (pc : Nat) (i : Instr) : Nat := match i with
  | .iload _ => 2 | .lload _ => 2 | .aload _ => 2 | .istore _ => 2 | .lstore _ => 2 | .astore _ => 2
  | .bipush _ => 2 | .ldc _ => 2 | .newarray _ => 2
  | .sipush _ => 3 | .iinc _ _ => 3 | .getfield _ => 3 | .putfield _ => 3 | .getstatic _ => 3
  | .ifCond _ _ => 3 | .if_icmp _ _ => 3 | .goto _ => 3 | .new _ => 3 | .anewarray _ => 3 | .ldc2_w _ => 3 | .ldc_w _ => 3
  | .invokevirtual _ => 3 | .invokestatic _ => 3 | .invokespecial _ => 3
  | .multianewarray _ _ => 4
  | .tableswitch _ _ _ offs => 1 + (3 - pc % 4) + 12 + 4 * offs.size
  | _ => 1
/-- the fields of a new object -/
def px_df (t : Nat) : List Value := match t with
  | 0 => [.int 0, .null, .null, .null, .int 0]
  | 1 => [.int 0, .int 0, .null, .null, .int 0, .int 0, .int 0, .long 0]
  | 2 => [.int 0, .int 0, .null, .null, .null, .int 0, .int 0, .long 0]
  | 3 => [.int 0, .int 0, .null, .null, .null, .null, .null, .int 0, .long 0, .int 0]
  | 4 => [.int 0, .int 0, .int 0, .null, .int 0, .null, .null, .null, .int 0, .null, .null, .null, .null, .int 0, .null, .int 0, .null, .int 0, .null, .null, .null]
  | _ => []
def px_ft (t k : Nat) : FieldType := match t with
  | 0 => tyX0 k | 1 => tyX1 k | 2 => tyX2 k | 3 => tyX3 k | _ => tyX4 k
def px_fin (t k : Nat) : Bool := match t with
  | 0 => (TX0 k).2.2.2 | 1 => (TX1 k).2.2.2 | 2 => (TX2 k).2.2.2 | 3 => (TX3 k).2.2.2 | _ => (TX4 k).2.2.2
def px_T (t : Nat) : u_T := match t with
  | 0 => TX0 | 1 => TX1 | 2 => TX2 | 3 => TX3 | _ => TX4
def px_nf (t : Nat) : Nat := match t with
  | 0 => 5 | 1 => 8 | 2 => 8 | 3 => 10 | _ => 21
def px_PT : List Cond := lw_tbl.filter goodWord
def px_sn (n : Nat) : String := match n with
  | 1 => "STEP_X" | 2 => "STEP_Y" | 3 => "RIGHT_X" | 4 => "RIGHT_Y" | 5 => "LEFT_X" | _ => "LEFT_Y"
end
section
theorem px_d0 : ∀ q ∈ px_t0, decode cJ13_bitCount_95d88 q.1 = .ok (q.2, px_len q.1 q.2) := by decide +kernel
theorem px_d1 : ∀ q ∈ px_t1, decode cJ6_bitCount_0f7a4 q.1 = .ok (q.2, px_len q.1 q.2) := by decide +kernel
theorem px_d2 : ∀ q ∈ px_t2, decode cJ9_max_7cf53 q.1 = .ok (q.2, px_len q.1 q.2) := by decide +kernel
theorem px_d3 : ∀ q ∈ px_t3, decode cJ9_min_7cf53 q.1 = .ok (q.2, px_len q.1 q.2) := by decide +kernel
theorem px_d4 : ∀ q ∈ px_t4, decode cL_cell q.1 = .ok (q.2, px_len q.1 q.2) := by decide +kernel
theorem px_d5 : ∀ q ∈ px_t5, decode cL_cell_ q.1 = .ok (q.2, px_len q.1 q.2) := by decide +kernel
def px_t6_0 : List (Nat × Instr) := [(0, .new 8), (3, .dup), (4, .aload_n 0), (5, .iconst 0), (6, .invokestatic 36), (9, .aload_n 0), (10, .iconst 1), (11, .invokestatic 36), (14, .invokespecial 41), (17, .astore_n 1), (18, .new 44), (21, .dup), (22, .aload_n 0), (23, .iconst 0), (24, .invokestatic 36), (27, .aload_n 0), (28, .iconst 1), (29, .invokestatic 36), (32, .invokespecial 46), (35, .astore_n 2), (36, .iconst 1), (37, .newarray .long), (39, .astore_n 3), (40, .iconst 2), (41, .istore 4), (43, .iload 4), (45, .aload_n 0), (46, .arraylength), (47, .iconst 4), (48, .isub), (49, .if_icmp .gt 611), (52, .aload_n 0), (53, .iload 4), (55, .iaload), (56, .bipush 15), (58, .iand), (59, .tableswitch 595 0 15 #[77, 145, 158, 210, 238, 290, 303, 328, 368, 393, 445, 458, 483, 508, 533, 558]), (136, .aload_n 1), (137, .aload_n 0), (138, .iload 4), (140, .iconst 1), (141, .iadd), (142, .iaload), (143, .aload_n 0), (144, .iload 4), (146, .iconst 2), (147, .iadd), (148, .iaload), (149, .aload_n 0), (150, .iload 4), (152, .iconst 3), (153, .iadd), (154, .iaload), (155, .ifCond .eq 7), (158, .iconst 1), (159, .goto 4), (162, .iconst 0), (163, .aload_n 3), (164, .invokestatic 47), (167, .istore 5), (169, .aload_n 2), (170, .aload_n 0), (171, .iload 4), (173, .iconst 1), (174, .iadd), (175, .iaload), (176, .aload_n 0), (177, .iload 4), (179, .iconst 2), (180, .iadd), (181, .iaload), (182, .aload_n 0), (183, .iload 4), (185, .iconst 3), (186, .iadd), (187, .iaload), (188, .ifCond .eq 7), (191, .iconst 1), (192, .goto 4), (195, .iconst 0), (196, .invokevirtual 50), (199, .istore 6), (201, .goto 453), (204, .aload_n 1), (205, .invokevirtual 51), (208, .pop), (209, .aload_n 2), (210, .invokevirtual 55), (213, .pop), (214, .goto 440), (217, .aload_n 1), (218, .aload_n 0), (219, .iload 4), (221, .iconst 1), (222, .iadd), (223, .iaload), (224, .aload_n 0), (225, .iload 4), (227, .iconst 2), (228, .iadd)]
theorem px_d6_0 : ∀ q ∈ px_t6_0, decode cL_law q.1 = .ok (q.2, px_len q.1 q.2) := by decide +kernel
def px_t6_1 : List (Nat × Instr) := [(229, .iaload), (230, .aload_n 0), (231, .iload 4), (233, .iconst 3), (234, .iadd), (235, .iaload), (236, .aload_n 3), (237, .invokestatic 56), (240, .istore 5), (242, .aload_n 2), (243, .aload_n 0), (244, .iload 4), (246, .iconst 1), (247, .iadd), (248, .iaload), (249, .aload_n 0), (250, .iload 4), (252, .iconst 2), (253, .iadd), (254, .iaload), (255, .aload_n 0), (256, .iload 4), (258, .iconst 3), (259, .iadd), (260, .iaload), (261, .invokevirtual 59), (264, .istore 6), (266, .goto 388), (269, .aload_n 1), (270, .aload_n 0), (271, .iload 4), (273, .iconst 1), (274, .iadd), (275, .iaload), (276, .aload_n 3), (277, .invokestatic 60), (280, .istore 5), (282, .aload_n 2), (283, .aload_n 0), (284, .iload 4), (286, .iconst 1), (287, .iadd), (288, .iaload), (289, .invokevirtual 63), (292, .istore 6), (294, .goto 360), (297, .aload_n 1), (298, .aload_n 0), (299, .iload 4), (301, .iconst 1), (302, .iadd), (303, .iaload), (304, .aload_n 0), (305, .iload 4), (307, .iconst 2), (308, .iadd), (309, .iaload), (310, .aload_n 0), (311, .iload 4), (313, .iconst 3), (314, .iadd), (315, .iaload), (316, .aload_n 3), (317, .invokestatic 64), (320, .istore 5), (322, .aload_n 2), (323, .aload_n 0), (324, .iload 4), (326, .iconst 1), (327, .iadd), (328, .iaload), (329, .aload_n 0), (330, .iload 4), (332, .iconst 2), (333, .iadd), (334, .iaload), (335, .aload_n 0), (336, .iload 4), (338, .iconst 3), (339, .iadd), (340, .iaload), (341, .invokevirtual 66), (344, .istore 6), (346, .goto 308), (349, .aload_n 1), (350, .invokevirtual 67), (353, .pop), (354, .aload_n 2), (355, .invokevirtual 71), (358, .pop), (359, .goto 295), (362, .aload_n 1), (363, .aload_n 0), (364, .iload 4), (366, .iconst 1), (367, .iadd), (368, .iaload), (369, .invokevirtual 72), (372, .pop), (373, .aload_n 2)]
theorem px_d6_1 : ∀ q ∈ px_t6_1, decode cL_law q.1 = .ok (q.2, px_len q.1 q.2) := by decide +kernel
def px_t6_2 : List (Nat × Instr) := [(374, .aload_n 0), (375, .iload 4), (377, .iconst 1), (378, .iadd), (379, .iaload), (380, .invokevirtual 75), (383, .pop), (384, .goto 270), (387, .aload_n 1), (388, .aload_n 0), (389, .iload 4), (391, .iconst 1), (392, .iadd), (393, .iaload), (394, .aload_n 0), (395, .iload 4), (397, .iconst 2), (398, .iadd), (399, .iaload), (400, .aload_n 3), (401, .invokestatic 76), (404, .istore 5), (406, .aload_n 2), (407, .aload_n 0), (408, .iload 4), (410, .iconst 1), (411, .iadd), (412, .iaload), (413, .aload_n 0), (414, .iload 4), (416, .iconst 2), (417, .iadd), (418, .iaload), (419, .invokevirtual 79), (422, .istore 6), (424, .goto 230), (427, .aload_n 1), (428, .aload_n 0), (429, .iload 4), (431, .iconst 1), (432, .iadd), (433, .iaload), (434, .invokevirtual 80), (437, .aload_n 2), (438, .aload_n 0), (439, .iload 4), (441, .iconst 1), (442, .iadd), (443, .iaload), (444, .invokevirtual 83), (447, .if_icmp .eq 207), (450, .iconst 0), (451, .ireturn), (452, .aload_n 1), (453, .aload_n 0), (454, .iload 4), (456, .iconst 1), (457, .iadd), (458, .iaload), (459, .aload_n 0), (460, .iload 4), (462, .iconst 2), (463, .iadd), (464, .iaload), (465, .aload_n 0), (466, .iload 4), (468, .iconst 3), (469, .iadd), (470, .iaload), (471, .aload_n 3), (472, .invokestatic 84), (475, .istore 5), (477, .aload_n 2), (478, .aload_n 0), (479, .iload 4), (481, .iconst 1), (482, .iadd), (483, .iaload), (484, .aload_n 0), (485, .iload 4), (487, .iconst 2), (488, .iadd), (489, .iaload), (490, .aload_n 0), (491, .iload 4), (493, .iconst 3), (494, .iadd), (495, .iaload), (496, .invokevirtual 86), (499, .istore 6), (501, .goto 153), (504, .aload_n 1), (505, .invokevirtual 87), (508, .pop), (509, .aload_n 2), (510, .invokevirtual 90), (513, .pop), (514, .goto 140), (517, .aload_n 1), (518, .aload_n 0)]
theorem px_d6_2 : ∀ q ∈ px_t6_2, decode cL_law q.1 = .ok (q.2, px_len q.1 q.2) := by decide +kernel
def px_t6_3 : List (Nat × Instr) := [(519, .iload 4), (521, .iconst 1), (522, .iadd), (523, .iaload), (524, .invokevirtual 91), (527, .pop), (528, .aload_n 2), (529, .aload_n 0), (530, .iload 4), (532, .iconst 1), (533, .iadd), (534, .iaload), (535, .invokevirtual 94), (538, .pop), (539, .goto 115), (542, .aload_n 1), (543, .aload_n 0), (544, .iload 4), (546, .iconst 1), (547, .iadd), (548, .iaload), (549, .invokevirtual 95), (552, .pop), (553, .aload_n 2), (554, .aload_n 0), (555, .iload 4), (557, .iconst 1), (558, .iadd), (559, .iaload), (560, .invokevirtual 99), (563, .pop), (564, .goto 90), (567, .aload_n 1), (568, .aload_n 0), (569, .iload 4), (571, .iconst 1), (572, .iadd), (573, .iaload), (574, .invokevirtual 100), (577, .pop), (578, .aload_n 2), (579, .aload_n 0), (580, .iload 4), (582, .iconst 1), (583, .iadd), (584, .iaload), (585, .invokevirtual 103), (588, .pop), (589, .goto 65), (592, .aload_n 1), (593, .aload_n 0), (594, .iload 4), (596, .iconst 1), (597, .iadd), (598, .iaload), (599, .invokevirtual 104), (602, .pop), (603, .aload_n 2), (604, .aload_n 0), (605, .iload 4), (607, .iconst 1), (608, .iadd), (609, .iaload), (610, .invokevirtual 107), (613, .pop), (614, .goto 40), (617, .aload_n 1), (618, .aload_n 0), (619, .iload 4), (621, .iconst 1), (622, .iadd), (623, .iaload), (624, .aload_n 0), (625, .iload 4), (627, .iconst 2), (628, .iadd), (629, .iaload), (630, .invokevirtual 108), (633, .pop), (634, .aload_n 2), (635, .aload_n 0), (636, .iload 4), (638, .iconst 1), (639, .iadd), (640, .iaload), (641, .aload_n 0), (642, .iload 4), (644, .iconst 2), (645, .iadd), (646, .iaload), (647, .invokevirtual 111), (650, .pop), (651, .goto 3), (654, .iinc 4 4), (657, .goto (-614)), (660, .iconst 1), (661, .ireturn)]
theorem px_d6_3 : ∀ q ∈ px_t6_3, decode cL_law q.1 = .ok (q.2, px_len q.1 q.2) := by decide +kernel
set_option maxRecDepth 100000 in
theorem px_d6 : ∀ q ∈ px_t6, decode cL_law q.1 = .ok (q.2, px_len q.1 q.2) := by
  rw [show px_t6 = (px_t6_0 ++ (px_t6_1 ++ (px_t6_2 ++ px_t6_3))) from rfl]
  exact List.forall_mem_append.mpr ⟨px_d6_0, List.forall_mem_append.mpr ⟨px_d6_1, List.forall_mem_append.mpr ⟨px_d6_2, px_d6_3⟩⟩⟩
theorem px_d7 : ∀ q ∈ px_t7, decode cL_own q.1 = .ok (q.2, px_len q.1 q.2) := by decide +kernel
theorem px_d8 : ∀ q ∈ px_t8, decode cL_placement q.1 = .ok (q.2, px_len q.1 q.2) := by decide +kernel
theorem px_d9 : ∀ q ∈ px_t9, decode cL_placements q.1 = .ok (q.2, px_len q.1 q.2) := by decide +kernel
theorem px_d10 : ∀ q ∈ px_t10, decode cL_square q.1 = .ok (q.2, px_len q.1 q.2) := by decide +kernel
theorem px_d11 : ∀ q ∈ px_t11, decode cL_weight q.1 = .ok (q.2, px_len q.1 q.2) := by decide +kernel
theorem px_d12 : ∀ q ∈ px_t12, decode cX0_add q.1 = .ok (q.2, px_len q.1 q.2) := by decide +kernel
theorem px_d13 : ∀ q ∈ px_t13, decode cX0_begin q.1 = .ok (q.2, px_len q.1 q.2) := by decide +kernel
theorem px_d14 : ∀ q ∈ px_t14, decode cX0_init q.1 = .ok (q.2, px_len q.1 q.2) := by decide +kernel
theorem px_d15 : ∀ q ∈ px_t15, decode cX0_inverse q.1 = .ok (q.2, px_len q.1 q.2) := by decide +kernel
theorem px_d16 : ∀ q ∈ px_t16, decode cX0_keepWork q.1 = .ok (q.2, px_len q.1 q.2) := by decide +kernel
theorem px_d17 : ∀ q ∈ px_t17, decode cX0_lastCellOfWork q.1 = .ok (q.2, px_len q.1 q.2) := by decide +kernel
theorem px_d18 : ∀ q ∈ px_t18, decode cX0_leastValue q.1 = .ok (q.2, px_len q.1 q.2) := by decide +kernel
theorem px_d19 : ∀ q ∈ px_t19, decode cX0_subtractRow q.1 = .ok (q.2, px_len q.1 q.2) := by decide +kernel
theorem px_d20 : ∀ q ∈ px_t20, decode cX1_cellsInCorner q.1 = .ok (q.2, px_len q.1 q.2) := by decide +kernel
theorem px_d21 : ∀ q ∈ px_t21, decode cX1_columnsOf q.1 = .ok (q.2, px_len q.1 q.2) := by decide +kernel
theorem px_d22 : ∀ q ∈ px_t22, decode cX1_findWays q.1 = .ok (q.2, px_len q.1 q.2) := by decide +kernel
theorem px_d23 : ∀ q ∈ px_t23, decode cX1_init q.1 = .ok (q.2, px_len q.1 q.2) := by decide +kernel
theorem px_d24 : ∀ q ∈ px_t24, decode cX1_insert q.1 = .ok (q.2, px_len q.1 q.2) := by decide +kernel
theorem px_d25 : ∀ q ∈ px_t25, decode cX1_keepWay q.1 = .ok (q.2, px_len q.1 q.2) := by decide +kernel
theorem px_d26 : ∀ q ∈ px_t26, decode cX1_placeWay q.1 = .ok (q.2, px_len q.1 q.2) := by decide +kernel
theorem px_d27 : ∀ q ∈ px_t27, decode cX1_prepare q.1 = .ok (q.2, px_len q.1 q.2) := by decide +kernel
theorem px_d28 : ∀ q ∈ px_t28, decode cX1_pushedToCorner q.1 = .ok (q.2, px_len q.1 q.2) := by decide +kernel
theorem px_d29 : ∀ q ∈ px_t29, decode cX1_quarterTurned q.1 = .ok (q.2, px_len q.1 q.2) := by decide +kernel
theorem px_d30 : ∀ q ∈ px_t30, decode cX1_rowsOf q.1 = .ok (q.2, px_len q.1 q.2) := by decide +kernel
theorem px_d31 : ∀ q ∈ px_t31, decode cX1_size q.1 = .ok (q.2, px_len q.1 q.2) := by decide +kernel
theorem px_d32 : ∀ q ∈ px_t32, decode cX1_take q.1 = .ok (q.2, px_len q.1 q.2) := by decide +kernel
theorem px_d33 : ∀ q ∈ px_t33, decode cX1_turnedOver q.1 = .ok (q.2, px_len q.1 q.2) := by decide +kernel
theorem px_d34 : ∀ q ∈ px_t34, decode cX2_fold q.1 = .ok (q.2, px_len q.1 q.2) := by decide +kernel
theorem px_d35 : ∀ q ∈ px_t35, decode cX2_foldLetter q.1 = .ok (q.2, px_len q.1 q.2) := by decide +kernel
theorem px_d36 : ∀ q ∈ px_t36, decode cX2_follow q.1 = .ok (q.2, px_len q.1 q.2) := by decide +kernel
theorem px_d37 : ∀ q ∈ px_t37, decode cX2_has q.1 = .ok (q.2, px_len q.1 q.2) := by decide +kernel
theorem px_d38 : ∀ q ∈ px_t38, decode cX2_init q.1 = .ok (q.2, px_len q.1 q.2) := by decide +kernel
theorem px_d39 : ∀ q ∈ px_t39, decode cX2_mayGo q.1 = .ok (q.2, px_len q.1 q.2) := by decide +kernel
theorem px_d40 : ∀ q ∈ px_t40, decode cX2_nextLetter q.1 = .ok (q.2, px_len q.1 q.2) := by decide +kernel
theorem px_d41 : ∀ q ∈ px_t41, decode cX2_pushRun q.1 = .ok (q.2, px_len q.1 q.2) := by decide +kernel
theorem px_d42 : ∀ q ∈ px_t42, decode cX2_trace q.1 = .ok (q.2, px_len q.1 q.2) := by decide +kernel
theorem px_d43 : ∀ q ∈ px_t43, decode cX3_addPlacementSums q.1 = .ok (q.2, px_len q.1 q.2) := by decide +kernel
theorem px_d44 : ∀ q ∈ px_t44, decode cX3_bad q.1 = .ok (q.2, px_len q.1 q.2) := by decide +kernel
theorem px_d45 : ∀ q ∈ px_t45, decode cX3_border q.1 = .ok (q.2, px_len q.1 q.2) := by decide +kernel
theorem px_d46 : ∀ q ∈ px_t46, decode cX3_cell q.1 = .ok (q.2, px_len q.1 q.2) := by decide +kernel
theorem px_d47 : ∀ q ∈ px_t47, decode cX3_cellOfSet q.1 = .ok (q.2, px_len q.1 q.2) := by decide +kernel
theorem px_d48 : ∀ q ∈ px_t48, decode cX3_colour q.1 = .ok (q.2, px_len q.1 q.2) := by decide +kernel
theorem px_d49 : ∀ q ∈ px_t49, decode cX3_formOf q.1 = .ok (q.2, px_len q.1 q.2) := by decide +kernel
theorem px_d50 : ∀ q ∈ px_t50, decode cX3_inShape q.1 = .ok (q.2, px_len q.1 q.2) := by decide +kernel
theorem px_d51 : ∀ q ∈ px_t51, decode cX3_init q.1 = .ok (q.2, px_len q.1 q.2) := by decide +kernel
theorem px_d52 : ∀ q ∈ px_t52, decode cX3_isColourPrime q.1 = .ok (q.2, px_len q.1 q.2) := by decide +kernel
theorem px_d53 : ∀ q ∈ px_t53, decode cX3_numberOfCell q.1 = .ok (q.2, px_len q.1 q.2) := by decide +kernel
theorem px_d54 : ∀ q ∈ px_t54, decode cX3_own q.1 = .ok (q.2, px_len q.1 q.2) := by decide +kernel
theorem px_d55 : ∀ q ∈ px_t55, decode cX3_ownOver q.1 = .ok (q.2, px_len q.1 q.2) := by decide +kernel
theorem px_d56 : ∀ q ∈ px_t56, decode cX3_piece q.1 = .ok (q.2, px_len q.1 q.2) := by decide +kernel
theorem px_d57 : ∀ q ∈ px_t57, decode cX3_placement q.1 = .ok (q.2, px_len q.1 q.2) := by decide +kernel
theorem px_d58 : ∀ q ∈ px_t58, decode cX3_placements q.1 = .ok (q.2, px_len q.1 q.2) := by decide +kernel
theorem px_d59 : ∀ q ∈ px_t59, decode cX3_proves q.1 = .ok (q.2, px_len q.1 q.2) := by decide +kernel
theorem px_d60 : ∀ q ∈ px_t60, decode cX3_reachable q.1 = .ok (q.2, px_len q.1 q.2) := by decide +kernel
theorem px_d61 : ∀ q ∈ px_t61, decode cX3_run q.1 = .ok (q.2, px_len q.1 q.2) := by decide +kernel
theorem px_d62 : ∀ q ∈ px_t62, decode cX3_runs q.1 = .ok (q.2, px_len q.1 q.2) := by decide +kernel
theorem px_d63 : ∀ q ∈ px_t63, decode cX3_sizes q.1 = .ok (q.2, px_len q.1 q.2) := by decide +kernel
theorem px_d64 : ∀ q ∈ px_t64, decode cX3_square q.1 = .ok (q.2, px_len q.1 q.2) := by decide +kernel
theorem px_d65 : ∀ q ∈ px_t65, decode cX3_sum q.1 = .ok (q.2, px_len q.1 q.2) := by decide +kernel
theorem px_d66 : ∀ q ∈ px_t66, decode cX3_text q.1 = .ok (q.2, px_len q.1 q.2) := by decide +kernel
theorem px_d67 : ∀ q ∈ px_t67, decode cX3_weight q.1 = .ok (q.2, px_len q.1 q.2) := by decide +kernel
theorem px_d68 : ∀ q ∈ px_t68, decode cX4_addPlace q.1 = .ok (q.2, px_len q.1 q.2) := by decide +kernel
theorem px_d69 : ∀ q ∈ px_t69, decode cX4_bad q.1 = .ok (q.2, px_len q.1 q.2) := by decide +kernel
theorem px_d70 : ∀ q ∈ px_t70, decode cX4_border q.1 = .ok (q.2, px_len q.1 q.2) := by decide +kernel
theorem px_d71 : ∀ q ∈ px_t71, decode cX4_cell q.1 = .ok (q.2, px_len q.1 q.2) := by decide +kernel
theorem px_d72 : ∀ q ∈ px_t72, decode cX4_cells q.1 = .ok (q.2, px_len q.1 q.2) := by decide +kernel
theorem px_d73 : ∀ q ∈ px_t73, decode cX4_colour q.1 = .ok (q.2, px_len q.1 q.2) := by decide +kernel
theorem px_d74 : ∀ q ∈ px_t74, decode cX4_countBad q.1 = .ok (q.2, px_len q.1 q.2) := by decide +kernel
theorem px_d75 : ∀ q ∈ px_t75, decode cX4_equations q.1 = .ok (q.2, px_len q.1 q.2) := by decide +kernel
theorem px_d76 : ∀ q ∈ px_t76, decode cX4_init q.1 = .ok (q.2, px_len q.1 q.2) := by decide +kernel
theorem px_d77 : ∀ q ∈ px_t77, decode cX4_inverse q.1 = .ok (q.2, px_len q.1 q.2) := by decide +kernel
theorem px_d78 : ∀ q ∈ px_t78, decode cX4_isCell q.1 = .ok (q.2, px_len q.1 q.2) := by decide +kernel
theorem px_d79 : ∀ q ∈ px_t79, decode cX4_isPiece q.1 = .ok (q.2, px_len q.1 q.2) := by decide +kernel
theorem px_d80 : ∀ q ∈ px_t80, decode cX4_isSide q.1 = .ok (q.2, px_len q.1 q.2) := by decide +kernel
theorem px_d81 : ∀ q ∈ px_t81, decode cX4_isThere q.1 = .ok (q.2, px_len q.1 q.2) := by decide +kernel
theorem px_d82 : ∀ q ∈ px_t82, decode cX4_keep q.1 = .ok (q.2, px_len q.1 q.2) := by decide +kernel
theorem px_d83 : ∀ q ∈ px_t83, decode cX4_own q.1 = .ok (q.2, px_len q.1 q.2) := by decide +kernel
theorem px_d84 : ∀ q ∈ px_t84, decode cX4_piece q.1 = .ok (q.2, px_len q.1 q.2) := by decide +kernel
theorem px_d85 : ∀ q ∈ px_t85, decode cX4_place q.1 = .ok (q.2, px_len q.1 q.2) := by decide +kernel
theorem px_d86 : ∀ q ∈ px_t86, decode cX4_placement q.1 = .ok (q.2, px_len q.1 q.2) := by decide +kernel
theorem px_d87 : ∀ q ∈ px_t87, decode cX4_placements q.1 = .ok (q.2, px_len q.1 q.2) := by decide +kernel
theorem px_d88 : ∀ q ∈ px_t88, decode cX4_proves q.1 = .ok (q.2, px_len q.1 q.2) := by decide +kernel
theorem px_d89 : ∀ q ∈ px_t89, decode cX4_run q.1 = .ok (q.2, px_len q.1 q.2) := by decide +kernel
theorem px_d90 : ∀ q ∈ px_t90, decode cX4_runs q.1 = .ok (q.2, px_len q.1 q.2) := by decide +kernel
theorem px_d91 : ∀ q ∈ px_t91, decode cX4_setOf q.1 = .ok (q.2, px_len q.1 q.2) := by decide +kernel
theorem px_d92 : ∀ q ∈ px_t92, decode cX4_size q.1 = .ok (q.2, px_len q.1 q.2) := by decide +kernel
theorem px_d93 : ∀ q ∈ px_t93, decode cX4_sizes q.1 = .ok (q.2, px_len q.1 q.2) := by decide +kernel
theorem px_d94 : ∀ q ∈ px_t94, decode cX4_square q.1 = .ok (q.2, px_len q.1 q.2) := by decide +kernel
theorem px_d95 : ∀ q ∈ px_t95, decode cX4_sum q.1 = .ok (q.2, px_len q.1 q.2) := by decide +kernel
theorem px_d96 : ∀ q ∈ px_t96, decode cX4_sumOver q.1 = .ok (q.2, px_len q.1 q.2) := by decide +kernel
theorem px_d97 : ∀ q ∈ px_t97, decode cX4_takeRuns q.1 = .ok (q.2, px_len q.1 q.2) := by decide +kernel
theorem px_d98 : ∀ q ∈ px_t98, decode cX4_text q.1 = .ok (q.2, px_len q.1 q.2) := by decide +kernel
theorem px_d99 : ∀ q ∈ px_t99, decode cX4_throwsIf q.1 = .ok (q.2, px_len q.1 q.2) := by decide +kernel
theorem px_d100 : ∀ q ∈ px_t100, decode cX4_walk q.1 = .ok (q.2, px_len q.1 q.2) := by decide +kernel
theorem px_d101 : ∀ q ∈ px_t101, decode cX4_weight q.1 = .ok (q.2, px_len q.1 q.2) := by decide +kernel
theorem px_dec : ∀ (j : Nat) (q : Nat × Instr), q ∈ px_tab j → decode (px_c j) q.1 = .ok (q.2, px_len q.1 q.2)
  | 0, q, h => px_d0 q h
  | 1, q, h => px_d1 q h
  | 2, q, h => px_d2 q h
  | 3, q, h => px_d3 q h
  | 4, q, h => px_d4 q h
  | 5, q, h => px_d5 q h
  | 6, q, h => px_d6 q h
  | 7, q, h => px_d7 q h
  | 8, q, h => px_d8 q h
  | 9, q, h => px_d9 q h
  | 10, q, h => px_d10 q h
  | 11, q, h => px_d11 q h
  | 12, q, h => px_d12 q h
  | 13, q, h => px_d13 q h
  | 14, q, h => px_d14 q h
  | 15, q, h => px_d15 q h
  | 16, q, h => px_d16 q h
  | 17, q, h => px_d17 q h
  | 18, q, h => px_d18 q h
  | 19, q, h => px_d19 q h
  | 20, q, h => px_d20 q h
  | 21, q, h => px_d21 q h
  | 22, q, h => px_d22 q h
  | 23, q, h => px_d23 q h
  | 24, q, h => px_d24 q h
  | 25, q, h => px_d25 q h
  | 26, q, h => px_d26 q h
  | 27, q, h => px_d27 q h
  | 28, q, h => px_d28 q h
  | 29, q, h => px_d29 q h
  | 30, q, h => px_d30 q h
  | 31, q, h => px_d31 q h
  | 32, q, h => px_d32 q h
  | 33, q, h => px_d33 q h
  | 34, q, h => px_d34 q h
  | 35, q, h => px_d35 q h
  | 36, q, h => px_d36 q h
  | 37, q, h => px_d37 q h
  | 38, q, h => px_d38 q h
  | 39, q, h => px_d39 q h
  | 40, q, h => px_d40 q h
  | 41, q, h => px_d41 q h
  | 42, q, h => px_d42 q h
  | 43, q, h => px_d43 q h
  | 44, q, h => px_d44 q h
  | 45, q, h => px_d45 q h
  | 46, q, h => px_d46 q h
  | 47, q, h => px_d47 q h
  | 48, q, h => px_d48 q h
  | 49, q, h => px_d49 q h
  | 50, q, h => px_d50 q h
  | 51, q, h => px_d51 q h
  | 52, q, h => px_d52 q h
  | 53, q, h => px_d53 q h
  | 54, q, h => px_d54 q h
  | 55, q, h => px_d55 q h
  | 56, q, h => px_d56 q h
  | 57, q, h => px_d57 q h
  | 58, q, h => px_d58 q h
  | 59, q, h => px_d59 q h
  | 60, q, h => px_d60 q h
  | 61, q, h => px_d61 q h
  | 62, q, h => px_d62 q h
  | 63, q, h => px_d63 q h
  | 64, q, h => px_d64 q h
  | 65, q, h => px_d65 q h
  | 66, q, h => px_d66 q h
  | 67, q, h => px_d67 q h
  | 68, q, h => px_d68 q h
  | 69, q, h => px_d69 q h
  | 70, q, h => px_d70 q h
  | 71, q, h => px_d71 q h
  | 72, q, h => px_d72 q h
  | 73, q, h => px_d73 q h
  | 74, q, h => px_d74 q h
  | 75, q, h => px_d75 q h
  | 76, q, h => px_d76 q h
  | 77, q, h => px_d77 q h
  | 78, q, h => px_d78 q h
  | 79, q, h => px_d79 q h
  | 80, q, h => px_d80 q h
  | 81, q, h => px_d81 q h
  | 82, q, h => px_d82 q h
  | 83, q, h => px_d83 q h
  | 84, q, h => px_d84 q h
  | 85, q, h => px_d85 q h
  | 86, q, h => px_d86 q h
  | 87, q, h => px_d87 q h
  | 88, q, h => px_d88 q h
  | 89, q, h => px_d89 q h
  | 90, q, h => px_d90 q h
  | 91, q, h => px_d91 q h
  | 92, q, h => px_d92 q h
  | 93, q, h => px_d93 q h
  | 94, q, h => px_d94 q h
  | 95, q, h => px_d95 q h
  | 96, q, h => px_d96 q h
  | 97, q, h => px_d97 q h
  | 98, q, h => px_d98 q h
  | 99, q, h => px_d99 q h
  | 100, q, h => px_d100 q h
  | 101, q, h => px_d101 q h
  | n + 102, q, h => nomatch h
end
section
set_option maxRecDepth 100000 in
theorem px_ml_ok : ∀ q ∈ px_ml_, lw_tbl[q.2.2.2]? = some (.methodLink (px_R q.1) q.2.1 (px_y q.2.2.1)) := by decide +kernel
set_option maxRecDepth 100000 in
theorem px_oi_ok : ∀ q ∈ px_oi_, lw_tbl[q.2.2]? = some (.methodLink (px_R q.1) q.2.1 objectInit) := by decide +kernel
set_option maxRecDepth 100000 in
theorem px_fl_ok : ∀ q ∈ px_fl_, q.2.2.1 < 5 ∧ q.2.2.2.1 < px_nf q.2.2.1 ∧ lw_tbl[q.2.2.2.2.1]? = some (if q.2.2.2.2.2 = 0 then .fieldLink (px_R q.1) q.2.1 (px_R q.2.2.1) (px_T q.2.2.1 q.2.2.2.1).2.1 (px_T q.2.2.1 q.2.2.2.1).2.2.1 else .fieldLinkNest (px_R q.1) q.2.1 (px_R q.2.2.1) (px_T q.2.2.1 q.2.2.2.1).2.1 (px_T q.2.2.1 q.2.2.2.1).2.2.1 "ColourSums") := by decide +kernel
set_option maxRecDepth 100000 in
theorem px_sl_ok : ∀ q ∈ px_sl_, 1 ≤ q.2.2.1 ∧ q.2.2.1 ≤ 6 ∧ lw_tbl[q.2.2.2]? = some (.fieldLink (px_R q.1) q.2.1 RX2 (px_sn q.2.2.1) "[I") := by decide +kernel
set_option maxRecDepth 100000 in
theorem px_cl_ok : ∀ q ∈ px_cl_, q.2.2.1 < 5 ∧ lw_tbl[q.2.2.2]? = some (.classLink (px_R q.1) q.2.1 (px_R q.2.2.1)) := by decide +kernel
set_option maxRecDepth 100000 in
theorem px_ki_ok : ∀ q ∈ px_ki_, lw_tbl[q.2.2.2]? = some (.constant (px_R q.1) q.2.1 q.2.2.1) := by decide +kernel
set_option maxRecDepth 100000 in
theorem px_kl_ok : ∀ q ∈ px_kl_, lw_tbl[q.2.2.2]? = some (.constantLong (px_R q.1) q.2.1 q.2.2.1) := by decide +kernel
set_option maxRecDepth 100000 in
theorem px_pc0 : lw_tbl[px_pc 0]? = some (if px_hh 0 = [] then .code (px_y 0) (px_c 0) (px_ml 0) (px_rt 0) else .codeWith (px_y 0) (px_c 0) (px_ml 0) (px_rt 0) (px_hh 0)) := rfl
set_option maxRecDepth 100000 in
theorem px_pc1 : lw_tbl[px_pc 1]? = some (if px_hh 1 = [] then .code (px_y 1) (px_c 1) (px_ml 1) (px_rt 1) else .codeWith (px_y 1) (px_c 1) (px_ml 1) (px_rt 1) (px_hh 1)) := rfl
set_option maxRecDepth 100000 in
theorem px_pc2 : lw_tbl[px_pc 2]? = some (if px_hh 2 = [] then .code (px_y 2) (px_c 2) (px_ml 2) (px_rt 2) else .codeWith (px_y 2) (px_c 2) (px_ml 2) (px_rt 2) (px_hh 2)) := rfl
set_option maxRecDepth 100000 in
theorem px_pc3 : lw_tbl[px_pc 3]? = some (if px_hh 3 = [] then .code (px_y 3) (px_c 3) (px_ml 3) (px_rt 3) else .codeWith (px_y 3) (px_c 3) (px_ml 3) (px_rt 3) (px_hh 3)) := rfl
set_option maxRecDepth 100000 in
theorem px_pc4 : lw_tbl[px_pc 4]? = some (if px_hh 4 = [] then .code (px_y 4) (px_c 4) (px_ml 4) (px_rt 4) else .codeWith (px_y 4) (px_c 4) (px_ml 4) (px_rt 4) (px_hh 4)) := rfl
set_option maxRecDepth 100000 in
theorem px_pc5 : lw_tbl[px_pc 5]? = some (if px_hh 5 = [] then .code (px_y 5) (px_c 5) (px_ml 5) (px_rt 5) else .codeWith (px_y 5) (px_c 5) (px_ml 5) (px_rt 5) (px_hh 5)) := rfl
set_option maxRecDepth 100000 in
theorem px_pc7 : lw_tbl[px_pc 7]? = some (if px_hh 7 = [] then .code (px_y 7) (px_c 7) (px_ml 7) (px_rt 7) else .codeWith (px_y 7) (px_c 7) (px_ml 7) (px_rt 7) (px_hh 7)) := rfl
set_option maxRecDepth 100000 in
theorem px_pc8 : lw_tbl[px_pc 8]? = some (if px_hh 8 = [] then .code (px_y 8) (px_c 8) (px_ml 8) (px_rt 8) else .codeWith (px_y 8) (px_c 8) (px_ml 8) (px_rt 8) (px_hh 8)) := rfl
set_option maxRecDepth 100000 in
theorem px_pc9 : lw_tbl[px_pc 9]? = some (if px_hh 9 = [] then .code (px_y 9) (px_c 9) (px_ml 9) (px_rt 9) else .codeWith (px_y 9) (px_c 9) (px_ml 9) (px_rt 9) (px_hh 9)) := rfl
set_option maxRecDepth 100000 in
theorem px_pc10 : lw_tbl[px_pc 10]? = some (if px_hh 10 = [] then .code (px_y 10) (px_c 10) (px_ml 10) (px_rt 10) else .codeWith (px_y 10) (px_c 10) (px_ml 10) (px_rt 10) (px_hh 10)) := rfl
set_option maxRecDepth 100000 in
theorem px_pc11 : lw_tbl[px_pc 11]? = some (if px_hh 11 = [] then .code (px_y 11) (px_c 11) (px_ml 11) (px_rt 11) else .codeWith (px_y 11) (px_c 11) (px_ml 11) (px_rt 11) (px_hh 11)) := rfl
set_option maxRecDepth 100000 in
theorem px_pc12 : lw_tbl[px_pc 12]? = some (if px_hh 12 = [] then .code (px_y 12) (px_c 12) (px_ml 12) (px_rt 12) else .codeWith (px_y 12) (px_c 12) (px_ml 12) (px_rt 12) (px_hh 12)) := rfl
set_option maxRecDepth 100000 in
theorem px_pc13 : lw_tbl[px_pc 13]? = some (if px_hh 13 = [] then .code (px_y 13) (px_c 13) (px_ml 13) (px_rt 13) else .codeWith (px_y 13) (px_c 13) (px_ml 13) (px_rt 13) (px_hh 13)) := rfl
set_option maxRecDepth 100000 in
theorem px_pc14 : lw_tbl[px_pc 14]? = some (if px_hh 14 = [] then .code (px_y 14) (px_c 14) (px_ml 14) (px_rt 14) else .codeWith (px_y 14) (px_c 14) (px_ml 14) (px_rt 14) (px_hh 14)) := rfl
set_option maxRecDepth 100000 in
theorem px_pc15 : lw_tbl[px_pc 15]? = some (if px_hh 15 = [] then .code (px_y 15) (px_c 15) (px_ml 15) (px_rt 15) else .codeWith (px_y 15) (px_c 15) (px_ml 15) (px_rt 15) (px_hh 15)) := rfl
set_option maxRecDepth 100000 in
theorem px_pc16 : lw_tbl[px_pc 16]? = some (if px_hh 16 = [] then .code (px_y 16) (px_c 16) (px_ml 16) (px_rt 16) else .codeWith (px_y 16) (px_c 16) (px_ml 16) (px_rt 16) (px_hh 16)) := rfl
set_option maxRecDepth 100000 in
theorem px_pc17 : lw_tbl[px_pc 17]? = some (if px_hh 17 = [] then .code (px_y 17) (px_c 17) (px_ml 17) (px_rt 17) else .codeWith (px_y 17) (px_c 17) (px_ml 17) (px_rt 17) (px_hh 17)) := rfl
set_option maxRecDepth 100000 in
theorem px_pc18 : lw_tbl[px_pc 18]? = some (if px_hh 18 = [] then .code (px_y 18) (px_c 18) (px_ml 18) (px_rt 18) else .codeWith (px_y 18) (px_c 18) (px_ml 18) (px_rt 18) (px_hh 18)) := rfl
set_option maxRecDepth 100000 in
theorem px_pc19 : lw_tbl[px_pc 19]? = some (if px_hh 19 = [] then .code (px_y 19) (px_c 19) (px_ml 19) (px_rt 19) else .codeWith (px_y 19) (px_c 19) (px_ml 19) (px_rt 19) (px_hh 19)) := rfl
set_option maxRecDepth 100000 in
theorem px_pc20 : lw_tbl[px_pc 20]? = some (if px_hh 20 = [] then .code (px_y 20) (px_c 20) (px_ml 20) (px_rt 20) else .codeWith (px_y 20) (px_c 20) (px_ml 20) (px_rt 20) (px_hh 20)) := rfl
set_option maxRecDepth 100000 in
theorem px_pc21 : lw_tbl[px_pc 21]? = some (if px_hh 21 = [] then .code (px_y 21) (px_c 21) (px_ml 21) (px_rt 21) else .codeWith (px_y 21) (px_c 21) (px_ml 21) (px_rt 21) (px_hh 21)) := rfl
set_option maxRecDepth 100000 in
theorem px_pc22 : lw_tbl[px_pc 22]? = some (if px_hh 22 = [] then .code (px_y 22) (px_c 22) (px_ml 22) (px_rt 22) else .codeWith (px_y 22) (px_c 22) (px_ml 22) (px_rt 22) (px_hh 22)) := rfl
set_option maxRecDepth 100000 in
theorem px_pc23 : lw_tbl[px_pc 23]? = some (if px_hh 23 = [] then .code (px_y 23) (px_c 23) (px_ml 23) (px_rt 23) else .codeWith (px_y 23) (px_c 23) (px_ml 23) (px_rt 23) (px_hh 23)) := rfl
set_option maxRecDepth 100000 in
theorem px_pc24 : lw_tbl[px_pc 24]? = some (if px_hh 24 = [] then .code (px_y 24) (px_c 24) (px_ml 24) (px_rt 24) else .codeWith (px_y 24) (px_c 24) (px_ml 24) (px_rt 24) (px_hh 24)) := rfl
set_option maxRecDepth 100000 in
theorem px_pc25 : lw_tbl[px_pc 25]? = some (if px_hh 25 = [] then .code (px_y 25) (px_c 25) (px_ml 25) (px_rt 25) else .codeWith (px_y 25) (px_c 25) (px_ml 25) (px_rt 25) (px_hh 25)) := rfl
set_option maxRecDepth 100000 in
theorem px_pc26 : lw_tbl[px_pc 26]? = some (if px_hh 26 = [] then .code (px_y 26) (px_c 26) (px_ml 26) (px_rt 26) else .codeWith (px_y 26) (px_c 26) (px_ml 26) (px_rt 26) (px_hh 26)) := rfl
set_option maxRecDepth 100000 in
theorem px_pc27 : lw_tbl[px_pc 27]? = some (if px_hh 27 = [] then .code (px_y 27) (px_c 27) (px_ml 27) (px_rt 27) else .codeWith (px_y 27) (px_c 27) (px_ml 27) (px_rt 27) (px_hh 27)) := rfl
set_option maxRecDepth 100000 in
theorem px_pc28 : lw_tbl[px_pc 28]? = some (if px_hh 28 = [] then .code (px_y 28) (px_c 28) (px_ml 28) (px_rt 28) else .codeWith (px_y 28) (px_c 28) (px_ml 28) (px_rt 28) (px_hh 28)) := rfl
set_option maxRecDepth 100000 in
theorem px_pc29 : lw_tbl[px_pc 29]? = some (if px_hh 29 = [] then .code (px_y 29) (px_c 29) (px_ml 29) (px_rt 29) else .codeWith (px_y 29) (px_c 29) (px_ml 29) (px_rt 29) (px_hh 29)) := rfl
set_option maxRecDepth 100000 in
theorem px_pc30 : lw_tbl[px_pc 30]? = some (if px_hh 30 = [] then .code (px_y 30) (px_c 30) (px_ml 30) (px_rt 30) else .codeWith (px_y 30) (px_c 30) (px_ml 30) (px_rt 30) (px_hh 30)) := rfl
set_option maxRecDepth 100000 in
theorem px_pc31 : lw_tbl[px_pc 31]? = some (if px_hh 31 = [] then .code (px_y 31) (px_c 31) (px_ml 31) (px_rt 31) else .codeWith (px_y 31) (px_c 31) (px_ml 31) (px_rt 31) (px_hh 31)) := rfl
set_option maxRecDepth 100000 in
theorem px_pc32 : lw_tbl[px_pc 32]? = some (if px_hh 32 = [] then .code (px_y 32) (px_c 32) (px_ml 32) (px_rt 32) else .codeWith (px_y 32) (px_c 32) (px_ml 32) (px_rt 32) (px_hh 32)) := rfl
set_option maxRecDepth 100000 in
theorem px_pc33 : lw_tbl[px_pc 33]? = some (if px_hh 33 = [] then .code (px_y 33) (px_c 33) (px_ml 33) (px_rt 33) else .codeWith (px_y 33) (px_c 33) (px_ml 33) (px_rt 33) (px_hh 33)) := rfl
set_option maxRecDepth 100000 in
theorem px_pc34 : lw_tbl[px_pc 34]? = some (if px_hh 34 = [] then .code (px_y 34) (px_c 34) (px_ml 34) (px_rt 34) else .codeWith (px_y 34) (px_c 34) (px_ml 34) (px_rt 34) (px_hh 34)) := rfl
set_option maxRecDepth 100000 in
theorem px_pc35 : lw_tbl[px_pc 35]? = some (if px_hh 35 = [] then .code (px_y 35) (px_c 35) (px_ml 35) (px_rt 35) else .codeWith (px_y 35) (px_c 35) (px_ml 35) (px_rt 35) (px_hh 35)) := rfl
set_option maxRecDepth 100000 in
theorem px_pc36 : lw_tbl[px_pc 36]? = some (if px_hh 36 = [] then .code (px_y 36) (px_c 36) (px_ml 36) (px_rt 36) else .codeWith (px_y 36) (px_c 36) (px_ml 36) (px_rt 36) (px_hh 36)) := rfl
set_option maxRecDepth 100000 in
theorem px_pc37 : lw_tbl[px_pc 37]? = some (if px_hh 37 = [] then .code (px_y 37) (px_c 37) (px_ml 37) (px_rt 37) else .codeWith (px_y 37) (px_c 37) (px_ml 37) (px_rt 37) (px_hh 37)) := rfl
set_option maxRecDepth 100000 in
theorem px_pc38 : lw_tbl[px_pc 38]? = some (if px_hh 38 = [] then .code (px_y 38) (px_c 38) (px_ml 38) (px_rt 38) else .codeWith (px_y 38) (px_c 38) (px_ml 38) (px_rt 38) (px_hh 38)) := rfl
set_option maxRecDepth 100000 in
theorem px_pc39 : lw_tbl[px_pc 39]? = some (if px_hh 39 = [] then .code (px_y 39) (px_c 39) (px_ml 39) (px_rt 39) else .codeWith (px_y 39) (px_c 39) (px_ml 39) (px_rt 39) (px_hh 39)) := rfl
set_option maxRecDepth 100000 in
theorem px_pc40 : lw_tbl[px_pc 40]? = some (if px_hh 40 = [] then .code (px_y 40) (px_c 40) (px_ml 40) (px_rt 40) else .codeWith (px_y 40) (px_c 40) (px_ml 40) (px_rt 40) (px_hh 40)) := rfl
set_option maxRecDepth 100000 in
theorem px_pc41 : lw_tbl[px_pc 41]? = some (if px_hh 41 = [] then .code (px_y 41) (px_c 41) (px_ml 41) (px_rt 41) else .codeWith (px_y 41) (px_c 41) (px_ml 41) (px_rt 41) (px_hh 41)) := rfl
set_option maxRecDepth 100000 in
theorem px_pc42 : lw_tbl[px_pc 42]? = some (if px_hh 42 = [] then .code (px_y 42) (px_c 42) (px_ml 42) (px_rt 42) else .codeWith (px_y 42) (px_c 42) (px_ml 42) (px_rt 42) (px_hh 42)) := rfl
set_option maxRecDepth 100000 in
theorem px_pc43 : lw_tbl[px_pc 43]? = some (if px_hh 43 = [] then .code (px_y 43) (px_c 43) (px_ml 43) (px_rt 43) else .codeWith (px_y 43) (px_c 43) (px_ml 43) (px_rt 43) (px_hh 43)) := rfl
set_option maxRecDepth 100000 in
theorem px_pc44 : lw_tbl[px_pc 44]? = some (if px_hh 44 = [] then .code (px_y 44) (px_c 44) (px_ml 44) (px_rt 44) else .codeWith (px_y 44) (px_c 44) (px_ml 44) (px_rt 44) (px_hh 44)) := rfl
set_option maxRecDepth 100000 in
theorem px_pc45 : lw_tbl[px_pc 45]? = some (if px_hh 45 = [] then .code (px_y 45) (px_c 45) (px_ml 45) (px_rt 45) else .codeWith (px_y 45) (px_c 45) (px_ml 45) (px_rt 45) (px_hh 45)) := rfl
set_option maxRecDepth 100000 in
theorem px_pc46 : lw_tbl[px_pc 46]? = some (if px_hh 46 = [] then .code (px_y 46) (px_c 46) (px_ml 46) (px_rt 46) else .codeWith (px_y 46) (px_c 46) (px_ml 46) (px_rt 46) (px_hh 46)) := rfl
set_option maxRecDepth 100000 in
theorem px_pc47 : lw_tbl[px_pc 47]? = some (if px_hh 47 = [] then .code (px_y 47) (px_c 47) (px_ml 47) (px_rt 47) else .codeWith (px_y 47) (px_c 47) (px_ml 47) (px_rt 47) (px_hh 47)) := rfl
set_option maxRecDepth 100000 in
theorem px_pc48 : lw_tbl[px_pc 48]? = some (if px_hh 48 = [] then .code (px_y 48) (px_c 48) (px_ml 48) (px_rt 48) else .codeWith (px_y 48) (px_c 48) (px_ml 48) (px_rt 48) (px_hh 48)) := rfl
set_option maxRecDepth 100000 in
theorem px_pc49 : lw_tbl[px_pc 49]? = some (if px_hh 49 = [] then .code (px_y 49) (px_c 49) (px_ml 49) (px_rt 49) else .codeWith (px_y 49) (px_c 49) (px_ml 49) (px_rt 49) (px_hh 49)) := rfl
set_option maxRecDepth 100000 in
theorem px_pc50 : lw_tbl[px_pc 50]? = some (if px_hh 50 = [] then .code (px_y 50) (px_c 50) (px_ml 50) (px_rt 50) else .codeWith (px_y 50) (px_c 50) (px_ml 50) (px_rt 50) (px_hh 50)) := rfl
set_option maxRecDepth 100000 in
theorem px_pc51 : lw_tbl[px_pc 51]? = some (if px_hh 51 = [] then .code (px_y 51) (px_c 51) (px_ml 51) (px_rt 51) else .codeWith (px_y 51) (px_c 51) (px_ml 51) (px_rt 51) (px_hh 51)) := rfl
set_option maxRecDepth 100000 in
theorem px_pc52 : lw_tbl[px_pc 52]? = some (if px_hh 52 = [] then .code (px_y 52) (px_c 52) (px_ml 52) (px_rt 52) else .codeWith (px_y 52) (px_c 52) (px_ml 52) (px_rt 52) (px_hh 52)) := rfl
set_option maxRecDepth 100000 in
theorem px_pc53 : lw_tbl[px_pc 53]? = some (if px_hh 53 = [] then .code (px_y 53) (px_c 53) (px_ml 53) (px_rt 53) else .codeWith (px_y 53) (px_c 53) (px_ml 53) (px_rt 53) (px_hh 53)) := rfl
set_option maxRecDepth 100000 in
theorem px_pc54 : lw_tbl[px_pc 54]? = some (if px_hh 54 = [] then .code (px_y 54) (px_c 54) (px_ml 54) (px_rt 54) else .codeWith (px_y 54) (px_c 54) (px_ml 54) (px_rt 54) (px_hh 54)) := rfl
set_option maxRecDepth 100000 in
theorem px_pc55 : lw_tbl[px_pc 55]? = some (if px_hh 55 = [] then .code (px_y 55) (px_c 55) (px_ml 55) (px_rt 55) else .codeWith (px_y 55) (px_c 55) (px_ml 55) (px_rt 55) (px_hh 55)) := rfl
set_option maxRecDepth 100000 in
theorem px_pc56 : lw_tbl[px_pc 56]? = some (if px_hh 56 = [] then .code (px_y 56) (px_c 56) (px_ml 56) (px_rt 56) else .codeWith (px_y 56) (px_c 56) (px_ml 56) (px_rt 56) (px_hh 56)) := rfl
set_option maxRecDepth 100000 in
theorem px_pc57 : lw_tbl[px_pc 57]? = some (if px_hh 57 = [] then .code (px_y 57) (px_c 57) (px_ml 57) (px_rt 57) else .codeWith (px_y 57) (px_c 57) (px_ml 57) (px_rt 57) (px_hh 57)) := rfl
set_option maxRecDepth 100000 in
theorem px_pc58 : lw_tbl[px_pc 58]? = some (if px_hh 58 = [] then .code (px_y 58) (px_c 58) (px_ml 58) (px_rt 58) else .codeWith (px_y 58) (px_c 58) (px_ml 58) (px_rt 58) (px_hh 58)) := rfl
set_option maxRecDepth 100000 in
theorem px_pc59 : lw_tbl[px_pc 59]? = some (if px_hh 59 = [] then .code (px_y 59) (px_c 59) (px_ml 59) (px_rt 59) else .codeWith (px_y 59) (px_c 59) (px_ml 59) (px_rt 59) (px_hh 59)) := rfl
set_option maxRecDepth 100000 in
theorem px_pc60 : lw_tbl[px_pc 60]? = some (if px_hh 60 = [] then .code (px_y 60) (px_c 60) (px_ml 60) (px_rt 60) else .codeWith (px_y 60) (px_c 60) (px_ml 60) (px_rt 60) (px_hh 60)) := rfl
set_option maxRecDepth 100000 in
theorem px_pc61 : lw_tbl[px_pc 61]? = some (if px_hh 61 = [] then .code (px_y 61) (px_c 61) (px_ml 61) (px_rt 61) else .codeWith (px_y 61) (px_c 61) (px_ml 61) (px_rt 61) (px_hh 61)) := rfl
set_option maxRecDepth 100000 in
theorem px_pc62 : lw_tbl[px_pc 62]? = some (if px_hh 62 = [] then .code (px_y 62) (px_c 62) (px_ml 62) (px_rt 62) else .codeWith (px_y 62) (px_c 62) (px_ml 62) (px_rt 62) (px_hh 62)) := rfl
set_option maxRecDepth 100000 in
theorem px_pc63 : lw_tbl[px_pc 63]? = some (if px_hh 63 = [] then .code (px_y 63) (px_c 63) (px_ml 63) (px_rt 63) else .codeWith (px_y 63) (px_c 63) (px_ml 63) (px_rt 63) (px_hh 63)) := rfl
set_option maxRecDepth 100000 in
theorem px_pc64 : lw_tbl[px_pc 64]? = some (if px_hh 64 = [] then .code (px_y 64) (px_c 64) (px_ml 64) (px_rt 64) else .codeWith (px_y 64) (px_c 64) (px_ml 64) (px_rt 64) (px_hh 64)) := rfl
set_option maxRecDepth 100000 in
theorem px_pc65 : lw_tbl[px_pc 65]? = some (if px_hh 65 = [] then .code (px_y 65) (px_c 65) (px_ml 65) (px_rt 65) else .codeWith (px_y 65) (px_c 65) (px_ml 65) (px_rt 65) (px_hh 65)) := rfl
set_option maxRecDepth 100000 in
theorem px_pc66 : lw_tbl[px_pc 66]? = some (if px_hh 66 = [] then .code (px_y 66) (px_c 66) (px_ml 66) (px_rt 66) else .codeWith (px_y 66) (px_c 66) (px_ml 66) (px_rt 66) (px_hh 66)) := rfl
set_option maxRecDepth 100000 in
theorem px_pc67 : lw_tbl[px_pc 67]? = some (if px_hh 67 = [] then .code (px_y 67) (px_c 67) (px_ml 67) (px_rt 67) else .codeWith (px_y 67) (px_c 67) (px_ml 67) (px_rt 67) (px_hh 67)) := rfl
set_option maxRecDepth 100000 in
theorem px_pc68 : lw_tbl[px_pc 68]? = some (if px_hh 68 = [] then .code (px_y 68) (px_c 68) (px_ml 68) (px_rt 68) else .codeWith (px_y 68) (px_c 68) (px_ml 68) (px_rt 68) (px_hh 68)) := rfl
set_option maxRecDepth 100000 in
theorem px_pc69 : lw_tbl[px_pc 69]? = some (if px_hh 69 = [] then .code (px_y 69) (px_c 69) (px_ml 69) (px_rt 69) else .codeWith (px_y 69) (px_c 69) (px_ml 69) (px_rt 69) (px_hh 69)) := rfl
set_option maxRecDepth 100000 in
theorem px_pc70 : lw_tbl[px_pc 70]? = some (if px_hh 70 = [] then .code (px_y 70) (px_c 70) (px_ml 70) (px_rt 70) else .codeWith (px_y 70) (px_c 70) (px_ml 70) (px_rt 70) (px_hh 70)) := rfl
set_option maxRecDepth 100000 in
theorem px_pc71 : lw_tbl[px_pc 71]? = some (if px_hh 71 = [] then .code (px_y 71) (px_c 71) (px_ml 71) (px_rt 71) else .codeWith (px_y 71) (px_c 71) (px_ml 71) (px_rt 71) (px_hh 71)) := rfl
set_option maxRecDepth 100000 in
theorem px_pc72 : lw_tbl[px_pc 72]? = some (if px_hh 72 = [] then .code (px_y 72) (px_c 72) (px_ml 72) (px_rt 72) else .codeWith (px_y 72) (px_c 72) (px_ml 72) (px_rt 72) (px_hh 72)) := rfl
set_option maxRecDepth 100000 in
theorem px_pc73 : lw_tbl[px_pc 73]? = some (if px_hh 73 = [] then .code (px_y 73) (px_c 73) (px_ml 73) (px_rt 73) else .codeWith (px_y 73) (px_c 73) (px_ml 73) (px_rt 73) (px_hh 73)) := rfl
set_option maxRecDepth 100000 in
theorem px_pc74 : lw_tbl[px_pc 74]? = some (if px_hh 74 = [] then .code (px_y 74) (px_c 74) (px_ml 74) (px_rt 74) else .codeWith (px_y 74) (px_c 74) (px_ml 74) (px_rt 74) (px_hh 74)) := rfl
set_option maxRecDepth 100000 in
theorem px_pc75 : lw_tbl[px_pc 75]? = some (if px_hh 75 = [] then .code (px_y 75) (px_c 75) (px_ml 75) (px_rt 75) else .codeWith (px_y 75) (px_c 75) (px_ml 75) (px_rt 75) (px_hh 75)) := rfl
set_option maxRecDepth 100000 in
theorem px_pc76 : lw_tbl[px_pc 76]? = some (if px_hh 76 = [] then .code (px_y 76) (px_c 76) (px_ml 76) (px_rt 76) else .codeWith (px_y 76) (px_c 76) (px_ml 76) (px_rt 76) (px_hh 76)) := rfl
set_option maxRecDepth 100000 in
theorem px_pc77 : lw_tbl[px_pc 77]? = some (if px_hh 77 = [] then .code (px_y 77) (px_c 77) (px_ml 77) (px_rt 77) else .codeWith (px_y 77) (px_c 77) (px_ml 77) (px_rt 77) (px_hh 77)) := rfl
set_option maxRecDepth 100000 in
theorem px_pc78 : lw_tbl[px_pc 78]? = some (if px_hh 78 = [] then .code (px_y 78) (px_c 78) (px_ml 78) (px_rt 78) else .codeWith (px_y 78) (px_c 78) (px_ml 78) (px_rt 78) (px_hh 78)) := rfl
set_option maxRecDepth 100000 in
theorem px_pc79 : lw_tbl[px_pc 79]? = some (if px_hh 79 = [] then .code (px_y 79) (px_c 79) (px_ml 79) (px_rt 79) else .codeWith (px_y 79) (px_c 79) (px_ml 79) (px_rt 79) (px_hh 79)) := rfl
set_option maxRecDepth 100000 in
theorem px_pc80 : lw_tbl[px_pc 80]? = some (if px_hh 80 = [] then .code (px_y 80) (px_c 80) (px_ml 80) (px_rt 80) else .codeWith (px_y 80) (px_c 80) (px_ml 80) (px_rt 80) (px_hh 80)) := rfl
set_option maxRecDepth 100000 in
theorem px_pc81 : lw_tbl[px_pc 81]? = some (if px_hh 81 = [] then .code (px_y 81) (px_c 81) (px_ml 81) (px_rt 81) else .codeWith (px_y 81) (px_c 81) (px_ml 81) (px_rt 81) (px_hh 81)) := rfl
set_option maxRecDepth 100000 in
theorem px_pc82 : lw_tbl[px_pc 82]? = some (if px_hh 82 = [] then .code (px_y 82) (px_c 82) (px_ml 82) (px_rt 82) else .codeWith (px_y 82) (px_c 82) (px_ml 82) (px_rt 82) (px_hh 82)) := rfl
set_option maxRecDepth 100000 in
theorem px_pc83 : lw_tbl[px_pc 83]? = some (if px_hh 83 = [] then .code (px_y 83) (px_c 83) (px_ml 83) (px_rt 83) else .codeWith (px_y 83) (px_c 83) (px_ml 83) (px_rt 83) (px_hh 83)) := rfl
set_option maxRecDepth 100000 in
theorem px_pc84 : lw_tbl[px_pc 84]? = some (if px_hh 84 = [] then .code (px_y 84) (px_c 84) (px_ml 84) (px_rt 84) else .codeWith (px_y 84) (px_c 84) (px_ml 84) (px_rt 84) (px_hh 84)) := rfl
set_option maxRecDepth 100000 in
theorem px_pc85 : lw_tbl[px_pc 85]? = some (if px_hh 85 = [] then .code (px_y 85) (px_c 85) (px_ml 85) (px_rt 85) else .codeWith (px_y 85) (px_c 85) (px_ml 85) (px_rt 85) (px_hh 85)) := rfl
set_option maxRecDepth 100000 in
theorem px_pc86 : lw_tbl[px_pc 86]? = some (if px_hh 86 = [] then .code (px_y 86) (px_c 86) (px_ml 86) (px_rt 86) else .codeWith (px_y 86) (px_c 86) (px_ml 86) (px_rt 86) (px_hh 86)) := rfl
set_option maxRecDepth 100000 in
theorem px_pc87 : lw_tbl[px_pc 87]? = some (if px_hh 87 = [] then .code (px_y 87) (px_c 87) (px_ml 87) (px_rt 87) else .codeWith (px_y 87) (px_c 87) (px_ml 87) (px_rt 87) (px_hh 87)) := rfl
set_option maxRecDepth 100000 in
theorem px_pc88 : lw_tbl[px_pc 88]? = some (if px_hh 88 = [] then .code (px_y 88) (px_c 88) (px_ml 88) (px_rt 88) else .codeWith (px_y 88) (px_c 88) (px_ml 88) (px_rt 88) (px_hh 88)) := rfl
set_option maxRecDepth 100000 in
theorem px_pc89 : lw_tbl[px_pc 89]? = some (if px_hh 89 = [] then .code (px_y 89) (px_c 89) (px_ml 89) (px_rt 89) else .codeWith (px_y 89) (px_c 89) (px_ml 89) (px_rt 89) (px_hh 89)) := rfl
set_option maxRecDepth 100000 in
theorem px_pc90 : lw_tbl[px_pc 90]? = some (if px_hh 90 = [] then .code (px_y 90) (px_c 90) (px_ml 90) (px_rt 90) else .codeWith (px_y 90) (px_c 90) (px_ml 90) (px_rt 90) (px_hh 90)) := rfl
set_option maxRecDepth 100000 in
theorem px_pc91 : lw_tbl[px_pc 91]? = some (if px_hh 91 = [] then .code (px_y 91) (px_c 91) (px_ml 91) (px_rt 91) else .codeWith (px_y 91) (px_c 91) (px_ml 91) (px_rt 91) (px_hh 91)) := rfl
set_option maxRecDepth 100000 in
theorem px_pc92 : lw_tbl[px_pc 92]? = some (if px_hh 92 = [] then .code (px_y 92) (px_c 92) (px_ml 92) (px_rt 92) else .codeWith (px_y 92) (px_c 92) (px_ml 92) (px_rt 92) (px_hh 92)) := rfl
set_option maxRecDepth 100000 in
theorem px_pc93 : lw_tbl[px_pc 93]? = some (if px_hh 93 = [] then .code (px_y 93) (px_c 93) (px_ml 93) (px_rt 93) else .codeWith (px_y 93) (px_c 93) (px_ml 93) (px_rt 93) (px_hh 93)) := rfl
set_option maxRecDepth 100000 in
theorem px_pc94 : lw_tbl[px_pc 94]? = some (if px_hh 94 = [] then .code (px_y 94) (px_c 94) (px_ml 94) (px_rt 94) else .codeWith (px_y 94) (px_c 94) (px_ml 94) (px_rt 94) (px_hh 94)) := rfl
set_option maxRecDepth 100000 in
theorem px_pc95 : lw_tbl[px_pc 95]? = some (if px_hh 95 = [] then .code (px_y 95) (px_c 95) (px_ml 95) (px_rt 95) else .codeWith (px_y 95) (px_c 95) (px_ml 95) (px_rt 95) (px_hh 95)) := rfl
set_option maxRecDepth 100000 in
theorem px_pc96 : lw_tbl[px_pc 96]? = some (if px_hh 96 = [] then .code (px_y 96) (px_c 96) (px_ml 96) (px_rt 96) else .codeWith (px_y 96) (px_c 96) (px_ml 96) (px_rt 96) (px_hh 96)) := rfl
set_option maxRecDepth 100000 in
theorem px_pc97 : lw_tbl[px_pc 97]? = some (if px_hh 97 = [] then .code (px_y 97) (px_c 97) (px_ml 97) (px_rt 97) else .codeWith (px_y 97) (px_c 97) (px_ml 97) (px_rt 97) (px_hh 97)) := rfl
set_option maxRecDepth 100000 in
theorem px_pc98 : lw_tbl[px_pc 98]? = some (if px_hh 98 = [] then .code (px_y 98) (px_c 98) (px_ml 98) (px_rt 98) else .codeWith (px_y 98) (px_c 98) (px_ml 98) (px_rt 98) (px_hh 98)) := rfl
set_option maxRecDepth 100000 in
theorem px_pc99 : lw_tbl[px_pc 99]? = some (if px_hh 99 = [] then .code (px_y 99) (px_c 99) (px_ml 99) (px_rt 99) else .codeWith (px_y 99) (px_c 99) (px_ml 99) (px_rt 99) (px_hh 99)) := rfl
set_option maxRecDepth 100000 in
theorem px_pc100 : lw_tbl[px_pc 100]? = some (if px_hh 100 = [] then .code (px_y 100) (px_c 100) (px_ml 100) (px_rt 100) else .codeWith (px_y 100) (px_c 100) (px_ml 100) (px_rt 100) (px_hh 100)) := rfl
set_option maxRecDepth 100000 in
theorem px_pc101 : lw_tbl[px_pc 101]? = some (if px_hh 101 = [] then .code (px_y 101) (px_c 101) (px_ml 101) (px_rt 101) else .codeWith (px_y 101) (px_c 101) (px_ml 101) (px_rt 101) (px_hh 101)) := rfl
set_option maxRecDepth 100000 in
theorem px_pc_ok : ∀ (j : Nat), j < 102 → j ≠ 6 → lw_tbl[px_pc j]? = some (if px_hh j = [] then .code (px_y j) (px_c j) (px_ml j) (px_rt j) else .codeWith (px_y j) (px_c j) (px_ml j) (px_rt j) (px_hh j))
  | 0, _, _ => px_pc0
  | 1, _, _ => px_pc1
  | 2, _, _ => px_pc2
  | 3, _, _ => px_pc3
  | 4, _, _ => px_pc4
  | 5, _, _ => px_pc5
  | 6, _, h => absurd rfl h
  | 7, _, _ => px_pc7
  | 8, _, _ => px_pc8
  | 9, _, _ => px_pc9
  | 10, _, _ => px_pc10
  | 11, _, _ => px_pc11
  | 12, _, _ => px_pc12
  | 13, _, _ => px_pc13
  | 14, _, _ => px_pc14
  | 15, _, _ => px_pc15
  | 16, _, _ => px_pc16
  | 17, _, _ => px_pc17
  | 18, _, _ => px_pc18
  | 19, _, _ => px_pc19
  | 20, _, _ => px_pc20
  | 21, _, _ => px_pc21
  | 22, _, _ => px_pc22
  | 23, _, _ => px_pc23
  | 24, _, _ => px_pc24
  | 25, _, _ => px_pc25
  | 26, _, _ => px_pc26
  | 27, _, _ => px_pc27
  | 28, _, _ => px_pc28
  | 29, _, _ => px_pc29
  | 30, _, _ => px_pc30
  | 31, _, _ => px_pc31
  | 32, _, _ => px_pc32
  | 33, _, _ => px_pc33
  | 34, _, _ => px_pc34
  | 35, _, _ => px_pc35
  | 36, _, _ => px_pc36
  | 37, _, _ => px_pc37
  | 38, _, _ => px_pc38
  | 39, _, _ => px_pc39
  | 40, _, _ => px_pc40
  | 41, _, _ => px_pc41
  | 42, _, _ => px_pc42
  | 43, _, _ => px_pc43
  | 44, _, _ => px_pc44
  | 45, _, _ => px_pc45
  | 46, _, _ => px_pc46
  | 47, _, _ => px_pc47
  | 48, _, _ => px_pc48
  | 49, _, _ => px_pc49
  | 50, _, _ => px_pc50
  | 51, _, _ => px_pc51
  | 52, _, _ => px_pc52
  | 53, _, _ => px_pc53
  | 54, _, _ => px_pc54
  | 55, _, _ => px_pc55
  | 56, _, _ => px_pc56
  | 57, _, _ => px_pc57
  | 58, _, _ => px_pc58
  | 59, _, _ => px_pc59
  | 60, _, _ => px_pc60
  | 61, _, _ => px_pc61
  | 62, _, _ => px_pc62
  | 63, _, _ => px_pc63
  | 64, _, _ => px_pc64
  | 65, _, _ => px_pc65
  | 66, _, _ => px_pc66
  | 67, _, _ => px_pc67
  | 68, _, _ => px_pc68
  | 69, _, _ => px_pc69
  | 70, _, _ => px_pc70
  | 71, _, _ => px_pc71
  | 72, _, _ => px_pc72
  | 73, _, _ => px_pc73
  | 74, _, _ => px_pc74
  | 75, _, _ => px_pc75
  | 76, _, _ => px_pc76
  | 77, _, _ => px_pc77
  | 78, _, _ => px_pc78
  | 79, _, _ => px_pc79
  | 80, _, _ => px_pc80
  | 81, _, _ => px_pc81
  | 82, _, _ => px_pc82
  | 83, _, _ => px_pc83
  | 84, _, _ => px_pc84
  | 85, _, _ => px_pc85
  | 86, _, _ => px_pc86
  | 87, _, _ => px_pc87
  | 88, _, _ => px_pc88
  | 89, _, _ => px_pc89
  | 90, _, _ => px_pc90
  | 91, _, _ => px_pc91
  | 92, _, _ => px_pc92
  | 93, _, _ => px_pc93
  | 94, _, _ => px_pc94
  | 95, _, _ => px_pc95
  | 96, _, _ => px_pc96
  | 97, _, _ => px_pc97
  | 98, _, _ => px_pc98
  | 99, _, _ => px_pc99
  | 100, _, _ => px_pc100
  | 101, _, _ => px_pc101
  | n + 102, h, _ => absurd h (by omega)
set_option maxRecDepth 100000 in
theorem px_k0_ok : ∀ j, j < 102 → j ≠ 6 → px_kd j = 0 → lw_tbl[px_ps0 j]? = some (.static (px_y j)) := by decide +kernel
set_option maxRecDepth 100000 in
theorem px_k1_ok : ∀ j, j < 102 → px_kd j ≠ 0 → j ≠ 6 → lw_tbl[px_ps1 j]? = some (.instanceMethod (px_y j)) := by decide +kernel
set_option maxRecDepth 100000 in
theorem px_k2_ok : ∀ j, j < 102 → px_kd j = 1 → j ≠ 6 → lw_tbl[px_ps2 j]? = some (.selects (px_R (px_cn j)) (px_y j) (px_y j)) ∧ px_cn j < 5 := by decide +kernel
set_option maxRecDepth 100000 in
theorem px_in_ok : ∀ j, j < 102 → lw_tbl[px_pin (px_cn j)]? = some (.initialized (px_R (px_cn j))) ∧ (px_y j).cls = px_R (px_cn j) := by decide +kernel
set_option maxRecDepth 100000 in
theorem px_in2 : ∀ j, j < 102 → (parseMethodDescriptor (px_y j).desc).map (fun d => d.parameters.length) = some (px_np j) := by decide +kernel
set_option maxRecDepth 100000 in
theorem px_in3 : ∀ j, j < 102 → (px_y j).cls ≠ "java/lang/invoke/MethodHandle" ∧ (px_y j).cls ≠ "java/lang/invoke/VarHandle" ∧ px_ml j ≤ 40 := by decide +kernel
set_option maxRecDepth 100000 in
theorem px_in4 : ∀ j, j < 102 → j ≠ 2 → j ≠ 3 → plainName (px_y j).cls = true := by decide +kernel
set_option maxRecDepth 100000 in
theorem px_in5 : ∀ j, j < 102 → px_kd j = 2 → (px_y j).name = "<init>" ∧ px_rt j = none ∧ px_hh j = [] := by decide +kernel
set_option maxRecDepth 100000 in
theorem px_ml_lt : ∀ q ∈ px_ml_, q.2.2.1 < 102 ∧ q.2.2.1 ≠ 6 := by decide +kernel
set_option maxRecDepth 100000 in
theorem px_lay_ok : ∀ t, t < 5 → ∀ w ∈ u_ws (px_R t) (px_T t) (px_nf t), w ∈ px_PT := by decide +kernel
set_option maxRecDepth 100000 in
theorem px_ty_ok : ∀ t, t < 5 → ∀ k, k < px_nf t → parseFieldDescriptor (px_T t k).2.2.1 = some (px_ft t k) := by decide +kernel
set_option maxRecDepth 100000 in
theorem px_nm_ok : ∀ t, t < 5 → ∀ a, a < px_nf t → ∀ b, b < px_nf t → a ≠ b → (px_T t a).2.1 ≠ (px_T t b).2.1 := by decide +kernel
set_option maxRecDepth 100000 in
theorem px_dcl_ok : ∀ t, t < 5 → ∀ k, k < px_nf t → (px_T t k).1 = px_R t := by decide +kernel
set_option maxRecDepth 100000 in
theorem px_df_ok : ∀ t, t < 5 → (px_df t).length = px_nf t ∧ ∀ k, k < px_nf t → (px_df t)[k]? = some (defaultValue (px_ft t k)) := by decide +kernel
set_option maxRecDepth 100000 in
theorem px_inst_ok : ∀ t, t < 5 → Cond.instantiable (px_R t) (px_nf t) ∈ px_PT ∧ Cond.initialized (px_R t) ∈ px_PT := by decide +kernel
end
section
/-! THE PURE INTERPRETER: a heap is a list of cells (tag, contents); a reference is a number of a cell -/
abbrev px_C : Type := Nat × List Value
abbrev px_H : Type := List px_C
abbrev px_L : Type := List (Nat × Value)
abbrev px_O : Type := Option Value ⊕ String
abbrev px_F : Type := Nat × px_L × List Value × px_H
abbrev px_E : Type := px_O × px_H
/-- what a step comes to: a frame; an end; a call (method, arguments, the stack below them) -/
abbrev px_N : Type := px_F ⊕ px_E ⊕ (Nat × List Value × List Value)
def px_lk {α : Type} (l : List (Nat × Nat × α)) (a b : Nat) : Option α := match l with
  | [] => none
  | q :: r => if q.1 = a ∧ q.2.1 = b then some q.2.2 else px_lk r a b
def px_ins (t : List (Nat × Instr)) (pc : Nat) : Option Instr := match t with
  | [] => none
  | q :: r => if q.1 = pc then some q.2 else px_ins r pc
def px_get (lv : px_L) (i : Nat) : Option Value := match lv with
  | [] => none
  | q :: r => if q.1 = i then some q.2 else px_get r i
def px_s1 (lv : px_L) (i : Nat) (v : Value) : px_L := (i, v) :: lv.filter (fun q => !(q.1 == i) && !(q.1 + 1 == i && q.2.category == 2))
def px_s2 (lv : px_L) (i : Nat) (v : Value) : px_L := (i, v) :: lv.filter (fun q => !(q.1 == i) && (!(q.1 == i + 1) && !(q.1 + 1 == i && q.2.category == 2)))
def px_ok8 (st : List Value) : Bool := decide ((st.map fun v => v.category).sum ≤ 8)
def px_go (pc : Nat) (lv : px_L) (st : List Value) (hp : px_H) : Option px_N := some (.inl (pc, lv, st, hp))
def px_end (o : px_O) (hp : px_H) : Option px_N := some (.inr (.inl (o, hp)))
def px_jmp (pc : Nat) (off : Int) (lv : px_L) (st : List Value) (hp : px_H) : Option px_N :=
  if 0 ≤ (pc : Int) + off then px_go ((pc : Int) + off).toNat lv st hp else none
def px_if (b : Bool) (pc : Nat) (off : Int) (lv : px_L) (st : List Value) (hp : px_H) : Option px_N :=
  if 0 ≤ (pc : Int) + off then (if b = true then px_go ((pc : Int) + off).toNat lv st hp else px_go (pc + 3) lv st hp) else none
def px_c1 (cond : ClassFile.Cond) (x : Int32) : Bool := match cond with
  | .eq => decide (x = 0) | .ne => decide (¬ x = 0) | .lt => decide (x < 0) | .ge => decide (0 ≤ x) | .gt => decide (0 < x) | .le => decide (x ≤ 0)
def px_c2 (cond : ClassFile.Cond) (x y : Int32) : Bool := match cond with
  | .eq => decide (x = y) | .ne => decide (¬ x = y) | .lt => decide (x < y) | .ge => decide (y ≤ x) | .gt => decide (y < x) | .le => decide (x ≤ y)
def px_ld (k : Nat) (t : Nat) (pc : Nat) (lv : px_L) (st : List Value) (hp : px_H) (i : Nat) : Option px_N := match px_get lv i with
  | some (.int x) => if t = 0 then px_go (pc + k) lv (.int x :: st) hp else none
  | some (.long x) => if t = 1 then px_go (pc + k) lv (.long x :: st) hp else none
  | some (.ref x) => if t = 2 then px_go (pc + k) lv (.ref x :: st) hp else none
  | _ => none
def px_sv (k : Nat) (t : Nat) (nL pc : Nat) (lv : px_L) (st : List Value) (hp : px_H) (i : Nat) : Option px_N := match st with
  | .int x :: r => if t = 0 ∧ i < nL then px_go (pc + k) (px_s1 lv i (.int x)) r hp else none
  | .long x :: r => if t = 1 ∧ i + 1 < nL then px_go (pc + k) (px_s2 lv i (.long x)) r hp else none
  | .ref x :: r => if t = 2 ∧ i < nL then px_go (pc + k) (px_s1 lv i (.ref x)) r hp else none
  | _ => none
def px_ii (pc : Nat) (lv : px_L) (st : List Value) (hp : px_H) (f : Int32 → Int32 → Int32) : Option px_N := match st with
  | .int y :: .int x :: r => px_go (pc + 1) lv (.int (f x y) :: r) hp
  | _ => none
def px_iz (pc : Nat) (lv : px_L) (st : List Value) (hp : px_H) (f : Int32 → Int32 → Int32) : Option px_N := match st with
  | .int y :: .int x :: r => if y = 0 then none else px_go (pc + 1) lv (.int (f x y) :: r) hp
  | _ => none
def px_ll (pc : Nat) (lv : px_L) (st : List Value) (hp : px_H) (f : Int64 → Int64 → Int64) : Option px_N := match st with
  | .long y :: .long x :: r => px_go (pc + 1) lv (.long (f x y) :: r) hp
  | _ => none
def px_li (pc : Nat) (lv : px_L) (st : List Value) (hp : px_H) (f : Int64 → Int32 → Int64) : Option px_N := match st with
  | .int y :: .long x :: r => px_go (pc + 1) lv (.long (f x y) :: r) hp
  | _ => none
/-- element types by tags: 10 int, 11 long, 12 boolean, 13 Form, 14 int[], 20 int (an old one, read alone) -/
def px_ty (t : Nat) : FieldType := match t with
  | 10 => .int | 11 => .long | 12 => .boolean | 13 => .object "ColourSums$Form" | 14 => .array .int | _ => .int
def px_ald (ok : Nat → Bool) (pc : Nat) (lv : px_L) (st : List Value) (hp : px_H) : Option px_N := match st with
  | .int i :: .ref a :: r => match hp[a]? with
    | some (t, vs) => if ok t = true ∧ ¬ i < 0 then (match vs[i.toNatClampNeg]? with
      | some v => px_go (pc + 1) lv (v :: r) hp
      | none => none) else none
    | none => none
  | _ => none
def px_set (hp : px_H) (a : Nat) (t : Nat) (vs : List Value) (i : Nat) (v : Value) : px_H := hp.set a (t, vs.set i v)
def px_iast (pc : Nat) (lv : px_L) (st : List Value) (hp : px_H) : Option px_N := match st with
  | .int x :: .int i :: .ref a :: r => match hp[a]? with
    | some (t, vs) => if t = 10 ∧ 8 ≤ a ∧ ¬ i < 0 ∧ i.toNatClampNeg < vs.length then px_go (pc + 1) lv r (px_set hp a t vs i.toNatClampNeg (.int x)) else none
    | none => none
  | _ => none
def px_zast (pc : Nat) (lv : px_L) (st : List Value) (hp : px_H) : Option px_N := match st with
  | .int x :: .int i :: .ref a :: r => match hp[a]? with
    | some (t, vs) => if t = 12 ∧ 8 ≤ a ∧ ¬ i < 0 ∧ i.toNatClampNeg < vs.length ∧ narrow .boolean (.int x) = .int x then px_go (pc + 1) lv r (px_set hp a t vs i.toNatClampNeg (.int x)) else none
    | none => none
  | _ => none
def px_last (pc : Nat) (lv : px_L) (st : List Value) (hp : px_H) : Option px_N := match st with
  | .long x :: .int i :: .ref a :: r => match hp[a]? with
    | some (t, vs) => if t = 11 ∧ 8 ≤ a ∧ ¬ i < 0 ∧ i.toNatClampNeg < vs.length then px_go (pc + 1) lv r (px_set hp a t vs i.toNatClampNeg (.long x)) else none
    | none => none
  | _ => none
def px_aast (pc : Nat) (lv : px_L) (st : List Value) (hp : px_H) : Option px_N := match st with
  | .ref b :: .int i :: .ref a :: r => match hp[a]? with
    | some (t, vs) => match hp[b]? with
      | some (u, _) => if t = 13 ∧ u = 1 ∧ 8 ≤ a ∧ ¬ i < 0 ∧ i.toNatClampNeg < vs.length then px_go (pc + 1) lv r (px_set hp a t vs i.toNatClampNeg (.ref b)) else none
      | none => none
    | none => none
  | _ => none
def px_alen (pc : Nat) (lv : px_L) (st : List Value) (hp : px_H) : Option px_N := match st with
  | .ref a :: r => match hp[a]? with
    | some (t, vs) => if 10 ≤ t ∧ t ≤ 20 then px_go (pc + 1) lv (.int vs.length.toInt32 :: r) hp else none
    | none => none
  | _ => none
def px_at_ (a : ArrayType) : Option (Nat × Value) := match a with
  | .int => some (10, .int 0) | .long => some (11, .long 0) | .boolean => some (12, .int 0) | _ => none
def px_newa (at_ : ArrayType) (pc : Nat) (lv : px_L) (st : List Value) (hp : px_H) : Option px_N := match st with
  | .int n :: r => match px_at_ at_ with
    | some (t, z) => if ¬ n < 0 ∧ n.toNatClampNeg ≤ 10000 then px_go (pc + 2) lv (.ref hp.length :: r) (hp ++ [(t, List.replicate n.toNatClampNeg z)]) else none
    | none => none
  | _ => none
def px_anew (cn idx : Nat) (pc : Nat) (lv : px_L) (st : List Value) (hp : px_H) : Option px_N := match st with
  | .int n :: r => if cn = 3 ∧ idx = 25 ∧ ¬ n < 0 ∧ n.toNatClampNeg ≤ 10000 then px_go (pc + 3) lv (.ref hp.length :: r) (hp ++ [(13, List.replicate n.toNatClampNeg .null)]) else none
  | _ => none
def px_mna (cn idx dims : Nat) (pc : Nat) (lv : px_L) (st : List Value) (hp : px_H) : Option px_N := match st with
  | .int k :: .int n :: r => if cn = 0 ∧ idx = 13 ∧ dims = 2 ∧ ¬ n < 0 ∧ ¬ k < 0 ∧ n.toNatClampNeg ≤ 1000 ∧ k.toNatClampNeg ≤ 1000 then
      px_go (pc + 4) lv (.ref hp.length :: r) (hp ++ ((14, (List.range n.toNatClampNeg).map (fun i => Value.ref (hp.length + 1 + i))) :: List.replicate n.toNatClampNeg (10, List.replicate k.toNatClampNeg (.int 0)))) else none
  | _ => none
def px_thr (j pc : Nat) : Option String :=
  if j = 49 ∧ pc = 12 then some "java/lang/ArrayIndexOutOfBoundsException" else if j = 53 ∧ pc = 24 then some "java/lang/ArrayIndexOutOfBoundsException" else if j = 64 ∧ pc = 25 then some "java/lang/IllegalArgumentException" else none
def px_new (j idx : Nat) (pc : Nat) (lv : px_L) (st : List Value) (hp : px_H) : Option px_N := match px_thr j pc with
  | some E => if px_ok8 st = true then px_end (.inr E) (hp ++ [(30, List.replicate 6 .null)]) else none
  | none => match px_lk px_cl_ (px_cn j) idx with
    | some (t, _) => px_go (pc + 3) lv (.ref hp.length :: st) (hp ++ [(t, px_df t)])
    | none => none
/-- what a method of the law answers where its callee has thrown -/
def px_hd (j pc : Nat) (E : String) : Option Int32 :=
  if E = "java/lang/ArrayIndexOutOfBoundsException" then
    (if (j = 5 ∨ j = 7 ∨ j = 8 ∨ j = 9 ∨ j = 10 ∨ j = 11) ∧ pc < 9 then some 1 else none)
  else if E = "java/lang/IllegalArgumentException" ∧ j = 10 ∧ pc < 9 then some 2 else none
def px_getf (cn idx : Nat) (pc : Nat) (lv : px_L) (st : List Value) (hp : px_H) : Option px_N := match st with
  | .ref a :: r => match px_lk px_fl_ cn idx with
    | some (ci, k, _) => match hp[a]? with
      | some (t, vs) => if t = ci then (match vs[k]? with
        | some v => px_go (pc + 3) lv (v :: r) hp
        | none => none) else none
      | none => none
    | none => none
  | _ => none
def px_putf (j idx : Nat) (pc : Nat) (lv : px_L) (st : List Value) (hp : px_H) : Option px_N := match st with
  | v :: .ref a :: r => match px_lk px_fl_ (px_cn j) idx with
    | some (ci, k, _, nest) => match hp[a]? with
      | some (t, vs) => if t = ci ∧ 8 ≤ a ∧ k < vs.length ∧ nest = 0 ∧ narrow (px_ft ci k) v = v ∧ fits (px_ft ci k) v = true ∧ (px_fin ci k = true → px_kd j = 2 ∧ px_cn j = ci) then
          px_go (pc + 3) lv r (px_set hp a t vs k v) else none
      | none => none
    | none => none
  | _ => none
def px_gets (cn idx : Nat) (pc : Nat) (lv : px_L) (st : List Value) (hp : px_H) : Option px_N := match px_lk px_sl_ cn idx with
  | some (n, _) => px_go (pc + 3) lv (.ref n :: st) hp
  | none => none
def px_call (j' : Nat) (as rest : List Value) : Option px_N := if px_ok8 rest = true ∧ (lg_sl as).length ≤ px_ml j' then some (.inr (.inr (j', as, rest))) else none
/-- Math.max, Math.min (2, 3) are answered at once -/
def px_math (j' pc : Nat) (lv : px_L) (st : List Value) (hp : px_H) : Option px_N := match st with
  | .int y :: .int x :: r => if px_ok8 r = true then px_go (pc + 3) lv (.int (if j' = 2 then (if x < y then y else x) else (if y < x then y else x)) :: r) hp else none
  | _ => none
def px_invs (cn idx pc : Nat) (lv : px_L) (st : List Value) (hp : px_H) : Option px_N := match px_lk px_ml_ cn idx with
  | some (j', _) => if j' = 2 ∨ j' = 3 then px_math j' pc lv st hp else if px_kd j' = 0 ∧ px_np j' ≤ st.length then px_call j' (st.take (px_np j')).reverse (st.drop (px_np j')) else none
  | none => none
def px_invv (cn idx : Nat) (st : List Value) (hp : px_H) : Option px_N := match px_lk px_ml_ cn idx with
  | some (j', _) => match st.drop (px_np j') with
    | .ref a :: r => match hp[a]? with
      | some (t, _) => if px_kd j' = 1 ∧ px_np j' ≤ st.length ∧ t = px_cn j' then px_call j' (.ref a :: (st.take (px_np j')).reverse) r else none
      | none => none
    | _ => none
  | none => none
def px_invi (cn idx : Nat) (pc : Nat) (lv : px_L) (st : List Value) (hp : px_H) : Option px_N := match px_lk px_oi_ cn idx with
  | some _ => match st with
    | .ref _ :: r => if px_ok8 r = true then px_go (pc + 3) lv r hp else none
    | _ => none
  | none => match px_lk px_ml_ cn idx with
    | some (j', _) => match st.drop (px_np j') with
      | .ref a :: r => if px_kd j' = 2 ∧ px_np j' ≤ st.length then px_call j' (.ref a :: (st.take (px_np j')).reverse) r else none
      | _ => none
    | none => none
def px_sw (dflt lo hi : Int) (offs : Array Int) (pc : Nat) (lv : px_L) (st : List Value) (hp : px_H) : Option px_N := match st with
  | .int x :: r => if x.toInt < lo ∨ hi < x.toInt then px_jmp pc dflt lv r hp else (match offs[(x.toInt - lo).toNat]? with
    | some off => px_jmp pc off lv r hp
    | none => none)
  | _ => none
def px_step (j pc : Nat) (lv : px_L) (st : List Value) (hp : px_H) (i : Instr) : Option px_N := match i with
  | .iconst n => px_go (pc + 1) lv (.int (Int32.ofInt n) :: st) hp
  | .bipush n => px_go (pc + 2) lv (.int (Int8.ofInt n).toInt32 :: st) hp
  | .sipush n => px_go (pc + 3) lv (.int (Int16.ofInt n).toInt32 :: st) hp
  | .lconst n => px_go (pc + 1) lv (.long (Int64.ofNat (n : Nat)) :: st) hp
  | .ldc_w idx => match px_lk px_ki_ (px_cn j) idx with
    | some (v, _) => px_go (pc + 3) lv (.int v :: st) hp
    | none => none
  | .ldc2_w idx => match px_lk px_kl_ (px_cn j) idx with
    | some (v, _) => px_go (pc + 3) lv (.long v :: st) hp
    | none => none
  | .iload_n k => px_ld 1 0 pc lv st hp (k : Nat)
  | .iload k => px_ld 2 0 pc lv st hp k
  | .lload_n k => px_ld 1 1 pc lv st hp (k : Nat)
  | .lload k => px_ld 2 1 pc lv st hp k
  | .aload_n k => px_ld 1 2 pc lv st hp (k : Nat)
  | .aload k => px_ld 2 2 pc lv st hp k
  | .istore_n k => px_sv 1 0 (px_ml j) pc lv st hp (k : Nat)
  | .istore k => px_sv 2 0 (px_ml j) pc lv st hp k
  | .lstore_n k => px_sv 1 1 (px_ml j) pc lv st hp (k : Nat)
  | .lstore k => px_sv 2 1 (px_ml j) pc lv st hp k
  | .astore_n k => px_sv 1 2 (px_ml j) pc lv st hp (k : Nat)
  | .astore k => px_sv 2 2 (px_ml j) pc lv st hp k
  | .iinc k n => match px_get lv k with
    | some (.int x) => if k < px_ml j then px_go (pc + 3) (px_s1 lv k (.int (x + Int32.ofInt n))) st hp else none
    | _ => none
  | .iadd => px_ii pc lv st hp (fun x y => x + y)
  | .isub => px_ii pc lv st hp (fun x y => x - y)
  | .imul => px_ii pc lv st hp (fun x y => x * y)
  | .iand => px_ii pc lv st hp (fun x y => x &&& y)
  | .ior => px_ii pc lv st hp (fun x y => x ||| y)
  | .ishl => px_ii pc lv st hp (fun x y => x <<< (y &&& 31))
  | .ishr => px_ii pc lv st hp (fun x y => x >>> (y &&& 31))
  | .iushr => px_ii pc lv st hp (fun x y => (x.toUInt32 >>> (y.toUInt32 &&& Int32.toUInt32 31)).toInt32)
  | .idiv => px_iz pc lv st hp (fun x y => x / y)
  | .irem => px_iz pc lv st hp (fun x y => x - x / y * y)
  | .ineg => match st with
    | .int x :: r => px_go (pc + 1) lv (.int (-x) :: r) hp
    | _ => none
  | .ladd => px_ll pc lv st hp (fun x y => x + y)
  | .lsub => px_ll pc lv st hp (fun x y => x - y)
  | .land => px_ll pc lv st hp (fun x y => x &&& y)
  | .lor => px_ll pc lv st hp (fun x y => x ||| y)
  | .lxor => px_ll pc lv st hp (fun x y => x ^^^ y)
  | .lneg => match st with
    | .long x :: r => px_go (pc + 1) lv (.long (-x) :: r) hp
    | _ => none
  | .lshl => px_li pc lv st hp (fun x y => x <<< (y.toInt64 &&& 63))
  | .lshr => px_li pc lv st hp (fun x y => x >>> (y.toInt64 &&& 63))
  | .lushr => px_li pc lv st hp (fun x y => (x.toUInt64 >>> (y.toInt64.toUInt64 &&& Int64.toUInt64 63)).toInt64)
  | .i2l => match st with
    | .int x :: r => px_go (pc + 1) lv (.long x.toInt64 :: r) hp
    | _ => none
  | .l2i => match st with
    | .long x :: r => px_go (pc + 1) lv (.int x.toInt32 :: r) hp
    | _ => none
  | .lcmp => match st with
    | .long y :: .long x :: r => px_go (pc + 1) lv (.int (lg_cmp x y) :: r) hp
    | _ => none
  | .dup => match st with
    | v :: r => if v.category = 1 then px_go (pc + 1) lv (v :: v :: r) hp else none
    | _ => none
  | .pop => match st with
    | v :: r => if v.category = 1 then px_go (pc + 1) lv r hp else none
    | _ => none
  | .dup2 => match st with
    | v :: w :: r => if v.category = 1 ∧ w.category = 1 then px_go (pc + 1) lv (v :: w :: v :: w :: r) hp else none
    | _ => none
  | .ifCond cond off => match st with
    | .int x :: r => px_if (px_c1 cond x) pc off lv r hp
    | _ => none
  | .if_icmp cond off => match st with
    | .int y :: .int x :: r => px_if (px_c2 cond x y) pc off lv r hp
    | _ => none
  | .goto off => px_jmp pc off lv st hp
  | .tableswitch d lo hi offs => px_sw d lo hi offs pc lv st hp
  | .iaload => px_ald (fun t => t == 10 || t == 20) pc lv st hp
  | .laload => px_ald (fun t => t == 11) pc lv st hp
  | .baload => px_ald (fun t => t == 12) pc lv st hp
  | .aaload => px_ald (fun t => t == 13 || t == 14) pc lv st hp
  | .iastore => px_iast pc lv st hp
  | .lastore => px_last pc lv st hp
  | .bastore => px_zast pc lv st hp
  | .aastore => px_aast pc lv st hp
  | .arraylength => px_alen pc lv st hp
  | .newarray at_ => px_newa at_ pc lv st hp
  | .anewarray idx => px_anew (px_cn j) idx pc lv st hp
  | .multianewarray idx dims => px_mna (px_cn j) idx dims pc lv st hp
  | .new idx => px_new j idx pc lv st hp
  | .getfield idx => px_getf (px_cn j) idx pc lv st hp
  | .putfield idx => px_putf j idx pc lv st hp
  | .getstatic idx => px_gets (px_cn j) idx pc lv st hp
  | .invokestatic idx => px_invs (px_cn j) idx pc lv st hp
  | .invokevirtual idx => px_invv (px_cn j) idx st hp
  | .invokespecial idx => px_invi (px_cn j) idx pc lv st hp
  | .ireturn => match st with
    | [.int v] => match px_rt j with
      | some ty => if narrow ty (.int v) = .int v then px_end (.inl (some (.int v))) hp else none
      | none => none
    | _ => none
  | .lreturn => match st with
    | [.long v] => match px_rt j with
      | some .long => px_end (.inl (some (.long v))) hp
      | _ => none
    | _ => none
  | .areturn => match st with
    | [.ref a] => match px_rt j with
      | some (.object _) => px_end (.inl (some (.ref a))) hp
      | _ => none
    | _ => none
  | .return_ => match st with
    | [] => match px_rt j with
      | none => px_end (.inl none) hp
      | _ => none
    | _ => none
  | _ => none
/-- d: the depth of calls that is left; n: the steps -/
def px_run : Nat → Nat → Nat → Nat → px_L → List Value → px_H → Option px_E
  | _, 0, _, _, _, _, _ => none
  | d, n + 1, j, pc, lv, st, hp => match px_ins (px_tab j) pc with
    | none => none
    | some i => match px_step j pc lv st hp i with
      | none => none
      | some (.inl f) => px_run d n j f.1 f.2.1 f.2.2.1 f.2.2.2
      | some (.inr (.inl r)) => some r
      | some (.inr (.inr q)) => match d with
        | 0 => none
        | d' + 1 => match px_run d' n q.1 0 (lv_args 0 q.2.1) [] hp with
          | none => none
          | some (.inl v, hp') => px_run (d' + 1) n j (pc + 3) lv (v.toList ++ q.2.2) hp'
          | some (.inr E, hp') => if px_kd q.1 = 2 then none else match px_hd j pc E with
            | some x => some (.inl (some (.int x)), hp')
            | none => if px_hh j = [] then some (.inr E, hp') else none
def px_sz (hp : px_H) : Nat := (hp.map (fun c => c.2.length)).sum
end
section
/-! the pure heap held against the machine's -/
def px_ren (ad : Nat → Nat) (v : Value) : Value := match v with
  | .ref k => .ref (ad k)
  | .int x => .int x
  | .long x => .long x
  | .float x => .float x
  | .double x => .double x
  | .null => .null
  | .retAddr x => .retAddr x
theorem px_cat (ad : Nat → Nat) (v : Value) : (px_ren ad v).category = v.category := by cases v <;> rfl
def px_ad (od : Nat → Nat) (b0 k : Nat) : Nat := if k < 8 then od k else b0 + (k - 8)
def px_ob (D : va_G) (ad : Nat → Nat) (t : Nat) (vs : List Value) (a : Nat) (H : Heap) : Prop :=
  ∃ cell : Cell, H[a]? = some cell ∧ cell.cls = D.1 t ∧ cell.vm = .none ∧ vs.length = px_nf t ∧ ∀ j v, vs[j]? = some v → cell.slots[D.2 t j]? = some (px_ren ad v)
def px_ar (S0 : State) (D : va_G) (ad : Nat → Nat) (t : Nat) (vs : List Value) (a : Nat) (H : Heap) : Prop :=
  ∃ cell : Cell, H[a]? = some cell ∧ S0.isArrayOf cell (px_ty t) ∧ cell.vm ≠ .unknown ∧ (t ≠ 20 → cell.slots = (vs.map (px_ren ad)).toArray) ∧ (t = 13 → cell.cls = D.1 13) ∧ (t = 20 → (∀ (j : Nat) (v : Value), vs[j]? = some v → cell.slots[j]? = some (px_ren ad v)) ∧ cell.slots.size.toInt32 = vs.length.toInt32)
def px_at (S0 : State) (D : va_G) (ad : Nat → Nat) (c : px_C) (a : Nat) (H : Heap) : Prop :=
  (c.1 < 5 → px_ob D ad c.1 c.2 a H) ∧ (10 ≤ c.1 → c.1 ≤ 20 → px_ar S0 D ad c.1 c.2 a H) ∧ (c.1 < 5 ∨ 10 ≤ c.1)
theorem px_at.kept {S0 : State} {D : va_G} {ad : Nat → Nat} {c : px_C} {a : Nat} {H H1 : Heap} (h : px_at S0 D ad c a H) (hq : H1[a]? = H[a]?) : px_at S0 D ad c a H1 := by
  refine ⟨fun h5 => ?_, fun h1 h2 => ?_, h.2.2⟩
  · obtain ⟨cell, q, r⟩ := h.1 h5
    exact ⟨cell, by rw [hq]; exact q, r⟩
  · obtain ⟨cell, q, r⟩ := h.2.1 h1 h2
    exact ⟨cell, by rw [hq]; exact q, r⟩
def px_W (S0 : State) (D : va_G) (od : Nat → Nat) (hp : px_H) (H : Heap) : Prop :=
  8 ≤ hp.length ∧ H.size + 8 = S0.heap.size + hp.length ∧ (∀ q, q < S0.heap.size → H[q]? = S0.heap[q]?) ∧
  ∀ k c, hp[k]? = some c → px_at S0 D (px_ad od S0.heap.size) c (px_ad od S0.heap.size k) H
theorem px_ad_new {od : Nat → Nat} {b0 k : Nat} (h : 8 ≤ k) : px_ad od b0 k = b0 + (k - 8) := by
  unfold px_ad; rw [if_neg (by omega)]
theorem px_ad_old {od : Nat → Nat} {b0 k : Nat} (h : k < 8) : px_ad od b0 k = od k := by
  unfold px_ad; rw [if_pos h]
theorem px_W.set {S0 : State} {D : va_G} {od : Nat → Nat} {hp : px_H} {H H1 : Heap} (hod : ∀ k, k < 8 → od k < S0.heap.size) (h : px_W S0 D od hp H) {a : Nat} (ha : 8 ≤ a) {c' : px_C}
    (hc : px_at S0 D (px_ad od S0.heap.size) c' (px_ad od S0.heap.size a) H1) (hs : H1.size = H.size) (hq : ∀ q, q ≠ px_ad od S0.heap.size a → H1[q]? = H[q]?) : px_W S0 D od (hp.set a c') H1 := by
  have ea := px_ad_new (od := od) (b0 := S0.heap.size) ha
  obtain ⟨h1, h2, h3, h4⟩ := h
  refine ⟨by simpa using h1, by rw [hs]; simpa using h2, fun q hq1 => ?_, fun k c hk => ?_⟩
  · rw [hq q (by rw [ea]; omega)]; exact h3 q hq1
  · by_cases hka : k = a
    · subst hka
      rw [List.getElem?_set_self' ] at hk
      cases hx : hp[k]? with
      | none => rw [hx] at hk; simp at hk
      | some c0 =>
        rw [hx] at hk
        simp at hk
        subst hk
        exact hc
    · rw [List.getElem?_set_ne (Ne.symm hka)] at hk
      refine (h4 k c hk).kept (hq _ ?_)
      rw [ea]
      by_cases hk8 : k < 8
      · rw [px_ad_old hk8]
        have := hod k hk8
        omega
      · rw [px_ad_new (by omega)]
        omega
theorem px_W.app {S0 : State} {D : va_G} {od : Nat → Nat} {hp : px_H} {H H1 : Heap} (hod : ∀ k, k < 8 → od k < S0.heap.size) (h : px_W S0 D od hp H) (cs : px_H)
    (hc : ∀ i c, cs[i]? = some c → px_at S0 D (px_ad od S0.heap.size) c (H.size + i) H1) (hs : H1.size = H.size + cs.length) (hq : ∀ q, q < H.size → H1[q]? = H[q]?) : px_W S0 D od (hp ++ cs) H1 := by
  obtain ⟨h1, h2, h3, h4⟩ := h
  refine ⟨by simp; omega, by rw [hs]; simp; omega, fun q hq1 => ?_, fun k c hk => ?_⟩
  · rw [hq q (by omega)]; exact h3 q hq1
  · by_cases hkl : k < hp.length
    · rw [List.getElem?_append_left hkl] at hk
      refine (h4 k c hk).kept (hq _ ?_)
      by_cases hk8 : k < 8
      · rw [px_ad_old hk8]
        have := hod k hk8
        omega
      · rw [px_ad_new (by omega)]
        omega
    · rw [List.getElem?_append_right (by omega)] at hk
      have := hc _ _ hk
      have e : px_ad od S0.heap.size k = H.size + (k - hp.length) := by
        rw [px_ad_new (by omega)]
        omega
      rw [e]
      exact this
theorem px_W.hpl {S0 : State} {D : va_G} {od : Nat → Nat} {hp : px_H} {H : Heap} (h : px_W S0 D od hp H) : px_ad od S0.heap.size hp.length = H.size := by
  obtain ⟨h1, h2, -, -⟩ := h
  rw [px_ad_new h1]; omega
def px_A (S0 : State) : Nat → Prop := fun q => S0.heap.size ≤ q
/-- what is known of the law's start S0 -/
def px_Cx (l : Launch) (S0 : State) (A0 : Array Value) (D : va_G) (od sa : Nat → Nat) : Prop :=
  (∀ w ∈ lw_tbl, w.before A0 S0 = true) ∧ (∀ t, t < 5 → u_Kn S0 (px_R t) (px_T t) (px_nf t) (D.1 t) (D.2 t)) ∧
  (∃ (kA : Class) (comp : ClassId), S0.vm.classes[D.1 13]? = some kA ∧ kA.kind = .array comp (.object "ColourSums$Form") ∧ S0.vm.findClass "ColourSums$Form" = some comp ∧ S0.vm.findClass ("[" ++ (FieldType.object "ColourSums$Form").toString) = some (D.1 13)) ∧
  (∀ k, k < 8 → od k < S0.heap.size) ∧ (∀ n, 1 ≤ n → n ≤ 6 → va_Z RX2 (px_sn n) "[I" (.ref (od n)) (px_A S0) S0 S0.heap) ∧
  vx_Zq Bundle.tN "UNASSIGNED_STACK" Bundle.steD (px_A S0) S0 S0.heap ∧ vx_Zq Bundle.tN "SUPPRESSED_SENTINEL" Bundle.listD (px_A S0) S0 S0.heap ∧
  vk_R RX3 164 "there is no such cell" (sa 0) S0 ∧ vk_R RX3 167 "there is no such piece" (sa 1) S0 ∧ vk_R RX3 81 "x or y is not 0 .. 3" (sa 2) S0 ∧
  l.stackTraces = false ∧ va_Nc "java/lang/IllegalArgumentException" "java/lang/ArrayIndexOutOfBoundsException" S0
/-- a frame of method j, with room for d calls more -/
def px_B (S0 : State) (j d k0 : Nat) (p : Program) (R : Room) (s : State) (m : MethodId) (meth : Method) (c : Code) : Prop :=
  p.tables.exec = Jvm.exec ∧ c.code = px_c j ∧ c.maxLocals = px_ml j ∧ s.vm.findClass (px_R (px_cn j)) = some m.cls ∧ meth.sig.returnType = px_rt j ∧ meth.locks = false ∧ (px_kd j = 2 → meth.name = "<init>") ∧
  S0.WarmedH s.vm ∧ c.exceptionTable.toList = tableOf (px_hh j) ∧ d + 7 ≤ R.frames ∧ 60 * d + 120 ≤ R.locals ∧ s.heap.size + 8 = S0.heap.size + k0 ∧ 8 ≤ k0 ∧ ∀ q, q < S0.heap.size → s.heap[q]? = S0.heap[q]?
theorem px_word {A0 args : Array Value} {S0 s : State} (h0 : ∀ w ∈ lw_tbl, w.before A0 S0 = true) (hW : S0.WarmedH s.vm) {w : Cond} (hw : w ∈ px_PT) : w.before args s = true := by
  obtain ⟨h1, h2⟩ := List.mem_filter.mp hw
  exact word_at hW (good_of_word h2) (h0 w h1)
theorem px_in {i : Nat} {w : Cond} (h : lw_tbl[i]? = some w) (hg : goodWord w = true) : w ∈ px_PT := List.mem_filter.mpr ⟨List.mem_of_getElem? h, hg⟩
theorem px_lk_mem {α : Type} {l : List (Nat × Nat × α)} {a b : Nat} {x : α} (h : px_lk l a b = some x) : (a, b, x) ∈ l := by
  induction l with
  | nil => cases h
  | cons q r ih =>
    unfold px_lk at h
    split at h
    · rename_i hq
      cases h
      obtain ⟨rfl, rfl⟩ := hq
      exact List.mem_cons_self
    · exact List.mem_cons_of_mem _ (ih h)
theorem px_ins_mem {t : List (Nat × Instr)} {pc : Nat} {i : Instr} (h : px_ins t pc = some i) : (pc, i) ∈ t := by
  induction t with
  | nil => cases h
  | cons q r ih =>
    unfold px_ins at h
    split at h
    · rename_i hq
      cases h
      subst hq
      exact List.mem_cons_self
    · exact List.mem_cons_of_mem _ (ih h)
theorem px_get_mem {lv : px_L} {i : Nat} {v : Value} (h : px_get lv i = some v) : (i, v) ∈ lv := by
  induction lv with
  | nil => cases h
  | cons q r ih =>
    unfold px_get at h
    split at h
    · rename_i hq
      cases h
      subst hq
      exact List.mem_cons_self
    · exact List.mem_cons_of_mem _ (ih h)
/-- locals, renamed -/
def px_rl (ad : Nat → Nat) (lv : px_L) : List (Nat × Value) := lv.map (fun q => (q.1, px_ren ad q.2))
theorem px_rl_at {ad : Nat → Nat} {lv : px_L} {i : Nat} {v : Value} {ls : Array Slot} {nL : Nat} (h : px_get lv i = some v) (hl : lv_has ls nL (px_rl ad lv)) : ls[i]? = some (.val (px_ren ad v)) :=
  hl.2.2 (i, px_ren ad v) (List.mem_map.mpr ⟨(i, v), px_get_mem h, rfl⟩)
theorem px_rl_s1 (ad : Nat → Nat) (lv : px_L) (i : Nat) (v : Value) : (i, px_ren ad v) :: (px_rl ad lv).filter (fun q => !(q.1 == i) && !(q.1 + 1 == i && q.2.category == 2)) = px_rl ad (px_s1 lv i v) := by
  unfold px_rl px_s1
  rw [List.map_cons, List.filter_map]
  congr 2
  apply List.filter_congr
  intro q _
  simp [Function.comp, px_cat]
theorem px_rl_s2 (ad : Nat → Nat) (lv : px_L) (i : Nat) (v : Value) : (i, px_ren ad v) :: (px_rl ad lv).filter (fun q => !(q.1 == i) && (!(q.1 == i + 1) && !(q.1 + 1 == i && q.2.category == 2))) = px_rl ad (px_s2 lv i v) := by
  unfold px_rl px_s2
  rw [List.map_cons, List.filter_map]
  congr 2
  apply List.filter_congr
  intro q _
  simp [Function.comp, px_cat]
theorem px_rl_args (ad : Nat → Nat) : ∀ (i : Nat) (vs : List Value), lv_args i (vs.map (px_ren ad)) = px_rl ad (lv_args i vs)
  | _, [] => rfl
  | i, v :: vs => by
    show (i, px_ren ad v) :: lv_args (if (px_ren ad v).category = 2 then i + 2 else i + 1) (vs.map (px_ren ad)) = _
    rw [px_cat, px_rl_args ad _ vs]
    rfl
theorem px_nar {ad : Nat → Nat} {ty : FieldType} {v : Value} (h : narrow ty v = v) : narrow ty (px_ren ad v) = px_ren ad v := by
  cases v <;> first | exact h | (cases ty <;> first | rfl | simp [narrow, px_ren] at h ⊢)
theorem px_fit {ad : Nat → Nat} {ty : FieldType} {v : Value} (h : fits ty v = true) : fits ty (px_ren ad v) = true := by
  cases v <;> first | exact h | (cases ty <;> first | rfl | simp [fits] at h)
theorem px_cats (ad : Nat → Nat) (st : List Value) : ((st.map (px_ren ad)).map fun v => v.category).sum = (st.map fun v => v.category).sum := by
  rw [List.map_map]
  congr 1
  apply List.map_congr_left
  intro v _
  exact px_cat ad v
theorem px_rd {ad : Nat → Nat} {vs : List Value} {cell : Cell} (h : cell.slots = (vs.map (px_ren ad)).toArray) {i : Nat} {v : Value} (hv : vs[i]? = some v) : cell.slots[i]? = some (px_ren ad v) ∧ ¬ cell.slots.size ≤ i := by
  have hl := (List.getElem?_eq_some_iff.mp hv).1
  rw [h]
  refine ⟨by simp [hv], by simp; omega⟩
theorem px_wr {ad : Nat → Nat} {vs : List Value} {cell : Cell} (h : cell.slots = (vs.map (px_ren ad)).toArray) (i : Nat) (v : Value) : (cell.setSlot i (px_ren ad v)).slots = ((vs.set i v).map (px_ren ad)).toArray := by
  show cell.slots.setIfInBounds i (px_ren ad v) = _
  rw [h]
  simp [List.map_set]
theorem px_ar.rd {S0 : State} {D : va_G} {ad : Nat → Nat} {t : Nat} {vs : List Value} {a : Nat} {H : Heap} (h : px_ar S0 D ad t vs a H) : ∃ cell : Cell, H[a]? = some cell ∧ S0.isArrayOf cell (px_ty t) ∧ cell.vm ≠ .unknown ∧ (∀ (i : Nat) (v : Value), vs[i]? = some v → cell.slots[i]? = some (px_ren ad v) ∧ ¬ cell.slots.size ≤ i) ∧ cell.slots.size.toInt32 = vs.length.toInt32 := by
  obtain ⟨cell, q1, q2, q3, q4, q5, q6⟩ := h
  refine ⟨cell, q1, q2, q3, ?_, ?_⟩
  · intro i v hv
    by_cases h20 : t = 20
    · have h1 := (q6 h20).1 i v hv
      exact ⟨h1, Nat.not_le.mpr (Array.getElem?_eq_some_iff.mp h1).1⟩
    · exact px_rd (q4 h20) hv
  · by_cases h20 : t = 20
    · exact (q6 h20).2
    · rw [q4 h20]; simp
end
section
/-! one step of the pure interpreter is one instruction of the machine's -/
def px_G (S0 : State) (D : va_G) (od : Nat → Nat) (p : Program) (l : Launch) (e : Env) (R : Room) (s : State) (m : MethodId) (args : Array Value) (below : List Frame) (meth : Method) (c : Code) (Q : State → Prop) (nL k0 z0 : Nat) (f : px_F) : Prop :=
  ∀ (H : Heap) (locs : List Loc) (ls : Array Slot) (cells slots : Nat), px_W S0 D od f.2.2.2 H → (∀ q ∈ locs, S0.heap.size ≤ q.base) → lv_has ls nL (px_rl (px_ad od S0.heap.size) f.2.1) → cells + k0 = f.2.2.2.length → slots + z0 = px_sz f.2.2.2 →
    W p l e R s m args below meth c H locs cells slots Q (F0 m f.1 ls (f.2.2.1.map (px_ren (px_ad od S0.heap.size))))
theorem px_ii_inv {pc : Nat} {lv : px_L} {st : List Value} {hp : px_H} {g : Int32 → Int32 → Int32} {n : px_N} (h : px_ii pc lv st hp g = some n) : ∃ x y r, st = .int y :: .int x :: r ∧ n = .inl (pc + 1, lv, .int (g x y) :: r, hp) := by
  unfold px_ii at h
  split at h
  · rename_i y x r
    exact ⟨x, y, r, rfl, (Option.some.inj h).symm⟩
  · cases h
theorem px_iz_inv {pc : Nat} {lv : px_L} {st : List Value} {hp : px_H} {g : Int32 → Int32 → Int32} {n : px_N} (h : px_iz pc lv st hp g = some n) : ∃ x y r, st = .int y :: .int x :: r ∧ ¬ y = 0 ∧ n = .inl (pc + 1, lv, .int (g x y) :: r, hp) := by
  unfold px_iz at h
  split at h
  · rename_i y x r
    split at h
    · cases h
    · rename_i hy
      exact ⟨x, y, r, rfl, hy, (Option.some.inj h).symm⟩
  · cases h
theorem px_ll_inv {pc : Nat} {lv : px_L} {st : List Value} {hp : px_H} {g : Int64 → Int64 → Int64} {n : px_N} (h : px_ll pc lv st hp g = some n) : ∃ x y r, st = .long y :: .long x :: r ∧ n = .inl (pc + 1, lv, .long (g x y) :: r, hp) := by
  unfold px_ll at h
  split at h
  · rename_i y x r
    exact ⟨x, y, r, rfl, (Option.some.inj h).symm⟩
  · cases h
theorem px_li_inv {pc : Nat} {lv : px_L} {st : List Value} {hp : px_H} {g : Int64 → Int32 → Int64} {n : px_N} (h : px_li pc lv st hp g = some n) : ∃ x y r, st = .int y :: .long x :: r ∧ n = .inl (pc + 1, lv, .long (g x y) :: r, hp) := by
  unfold px_li at h
  split at h
  · rename_i y x r
    exact ⟨x, y, r, rfl, (Option.some.inj h).symm⟩
  · cases h
theorem px_ld0 {k pc i : Nat} {lv : px_L} {st : List Value} {hp : px_H} {n : px_N} (h : px_ld k 0 pc lv st hp i = some n) : ∃ x, px_get lv i = some (.int x) ∧ n = .inl (pc + k, lv, .int x :: st, hp) := by
  unfold px_ld at h
  split at h
  · rename_i x hx
    exact ⟨x, hx, (Option.some.inj h).symm⟩
  · cases h
  · cases h
  · cases h
theorem px_ld1 {k pc i : Nat} {lv : px_L} {st : List Value} {hp : px_H} {n : px_N} (h : px_ld k 1 pc lv st hp i = some n) : ∃ x, px_get lv i = some (.long x) ∧ n = .inl (pc + k, lv, .long x :: st, hp) := by
  unfold px_ld at h
  split at h
  · cases h
  · rename_i x hx
    exact ⟨x, hx, (Option.some.inj h).symm⟩
  · cases h
  · cases h
theorem px_ld2 {k pc i : Nat} {lv : px_L} {st : List Value} {hp : px_H} {n : px_N} (h : px_ld k 2 pc lv st hp i = some n) : ∃ x, px_get lv i = some (.ref x) ∧ n = .inl (pc + k, lv, .ref x :: st, hp) := by
  unfold px_ld at h
  split at h
  · cases h
  · cases h
  · rename_i x hx
    exact ⟨x, hx, (Option.some.inj h).symm⟩
  · cases h
theorem px_sv0 {k nL pc i : Nat} {lv : px_L} {st : List Value} {hp : px_H} {n : px_N} (h : px_sv k 0 nL pc lv st hp i = some n) : ∃ x r, st = .int x :: r ∧ i < nL ∧ n = .inl (pc + k, px_s1 lv i (.int x), r, hp) := by
  unfold px_sv at h
  split at h
  · rename_i x r
    split at h
    · rename_i hq
      exact ⟨x, r, rfl, hq.2, (Option.some.inj h).symm⟩
    · cases h
  · simp at h
  · simp at h
  · cases h
theorem px_sv1 {k nL pc i : Nat} {lv : px_L} {st : List Value} {hp : px_H} {n : px_N} (h : px_sv k 1 nL pc lv st hp i = some n) : ∃ x r, st = .long x :: r ∧ i + 1 < nL ∧ n = .inl (pc + k, px_s2 lv i (.long x), r, hp) := by
  unfold px_sv at h
  split at h
  · simp at h
  · rename_i x r
    split at h
    · rename_i hq
      exact ⟨x, r, rfl, hq.2, (Option.some.inj h).symm⟩
    · cases h
  · simp at h
  · cases h
theorem px_sv2 {k nL pc i : Nat} {lv : px_L} {st : List Value} {hp : px_H} {n : px_N} (h : px_sv k 2 nL pc lv st hp i = some n) : ∃ x r, st = .ref x :: r ∧ i < nL ∧ n = .inl (pc + k, px_s1 lv i (.ref x), r, hp) := by
  unfold px_sv at h
  split at h
  · simp at h
  · simp at h
  · rename_i x r
    split at h
    · rename_i hq
      exact ⟨x, r, rfl, hq.2, (Option.some.inj h).symm⟩
    · cases h
  · cases h
theorem px_jmp_inv {pc : Nat} {off : Int} {lv : px_L} {st : List Value} {hp : px_H} {n : px_N} (h : px_jmp pc off lv st hp = some n) : ∃ t : Nat, (pc : Int) + off = (t : Int) ∧ n = .inl (t, lv, st, hp) := by
  unfold px_jmp at h
  split at h
  · rename_i hp0
    exact ⟨_, (Int.toNat_of_nonneg hp0).symm, (Option.some.inj h).symm⟩
  · cases h
theorem px_if_inv {b : Bool} {pc : Nat} {off : Int} {lv : px_L} {st : List Value} {hp : px_H} {n : px_N} (h : px_if b pc off lv st hp = some n) : ∃ t : Nat, (pc : Int) + off = (t : Int) ∧ (b = true → n = .inl (t, lv, st, hp)) ∧ (b = false → n = .inl (pc + 3, lv, st, hp)) := by
  unfold px_if at h
  split at h
  · rename_i hp0
    refine ⟨_, (Int.toNat_of_nonneg hp0).symm, fun hb => ?_, fun hb => ?_⟩
    · rw [if_pos hb] at h
      exact (Option.some.inj h).symm
    · rw [if_neg (by rw [hb]; decide)] at h
      exact (Option.some.inj h).symm
  · cases h
theorem px_ald_inv {ok : Nat → Bool} {pc : Nat} {lv : px_L} {st : List Value} {hp : px_H} {n : px_N} (h : px_ald ok pc lv st hp = some n) : ∃ i a r t vs v, st = .int i :: .ref a :: r ∧ hp[a]? = some (t, vs) ∧ ok t = true ∧ ¬ i < 0 ∧ vs[i.toNatClampNeg]? = some v ∧ n = .inl (pc + 1, lv, v :: r, hp) := by
  unfold px_ald at h
  split at h
  · rename_i i a r
    split at h
    · rename_i t vs hh
      split at h
      · rename_i hq
        split at h
        · rename_i v hv
          exact ⟨i, a, r, t, vs, v, rfl, hh, hq.1, hq.2, hv, (Option.some.inj h).symm⟩
        · cases h
      · cases h
    · cases h
  · cases h
theorem px_iast_inv {pc : Nat} {lv : px_L} {st : List Value} {hp : px_H} {n : px_N} (h : px_iast pc lv st hp = some n) : ∃ x i a r vs, st = .int x :: .int i :: .ref a :: r ∧ hp[a]? = some (10, vs) ∧ 8 ≤ a ∧ ¬ i < 0 ∧ i.toNatClampNeg < vs.length ∧ n = .inl (pc + 1, lv, r, px_set hp a 10 vs i.toNatClampNeg (.int x)) := by
  unfold px_iast at h
  split at h
  · rename_i x i a r
    split at h
    · rename_i t vs hh
      split at h
      · rename_i hq
        obtain ⟨rfl, h1, h2, h3⟩ := hq
        exact ⟨x, i, a, r, vs, rfl, hh, h1, h2, h3, (Option.some.inj h).symm⟩
      · cases h
    · cases h
  · cases h
theorem px_zast_inv {pc : Nat} {lv : px_L} {st : List Value} {hp : px_H} {n : px_N} (h : px_zast pc lv st hp = some n) : ∃ x i a r vs, st = .int x :: .int i :: .ref a :: r ∧ hp[a]? = some (12, vs) ∧ 8 ≤ a ∧ ¬ i < 0 ∧ i.toNatClampNeg < vs.length ∧ narrow .boolean (.int x) = .int x ∧ n = .inl (pc + 1, lv, r, px_set hp a 12 vs i.toNatClampNeg (.int x)) := by
  unfold px_zast at h
  split at h
  · rename_i x i a r
    split at h
    · rename_i t vs hh
      split at h
      · rename_i hq
        obtain ⟨rfl, h1, h2, h3, h4⟩ := hq
        exact ⟨x, i, a, r, vs, rfl, hh, h1, h2, h3, h4, (Option.some.inj h).symm⟩
      · cases h
    · cases h
  · cases h
theorem px_last_inv {pc : Nat} {lv : px_L} {st : List Value} {hp : px_H} {n : px_N} (h : px_last pc lv st hp = some n) : ∃ x i a r vs, st = .long x :: .int i :: .ref a :: r ∧ hp[a]? = some (11, vs) ∧ 8 ≤ a ∧ ¬ i < 0 ∧ i.toNatClampNeg < vs.length ∧ n = .inl (pc + 1, lv, r, px_set hp a 11 vs i.toNatClampNeg (.long x)) := by
  unfold px_last at h
  split at h
  · rename_i x i a r
    split at h
    · rename_i t vs hh
      split at h
      · rename_i hq
        obtain ⟨rfl, h1, h2, h3⟩ := hq
        exact ⟨x, i, a, r, vs, rfl, hh, h1, h2, h3, (Option.some.inj h).symm⟩
      · cases h
    · cases h
  · cases h
theorem px_aast_inv {pc : Nat} {lv : px_L} {st : List Value} {hp : px_H} {n : px_N} (h : px_aast pc lv st hp = some n) : ∃ b i a r vs us, st = .ref b :: .int i :: .ref a :: r ∧ hp[a]? = some (13, vs) ∧ hp[b]? = some (1, us) ∧ 8 ≤ a ∧ ¬ i < 0 ∧ i.toNatClampNeg < vs.length ∧ n = .inl (pc + 1, lv, r, px_set hp a 13 vs i.toNatClampNeg (.ref b)) := by
  unfold px_aast at h
  split at h
  · rename_i b i a r
    split at h
    · rename_i t vs hh
      split at h
      · rename_i u us hu
        split at h
        · rename_i hq
          obtain ⟨rfl, rfl, h1, h2, h3⟩ := hq
          exact ⟨b, i, a, r, vs, us, rfl, hh, hu, h1, h2, h3, (Option.some.inj h).symm⟩
        · cases h
      · cases h
    · cases h
  · cases h
theorem px_alen_inv {pc : Nat} {lv : px_L} {st : List Value} {hp : px_H} {n : px_N} (h : px_alen pc lv st hp = some n) : ∃ a r t vs, st = .ref a :: r ∧ hp[a]? = some (t, vs) ∧ 10 ≤ t ∧ t ≤ 20 ∧ n = .inl (pc + 1, lv, .int vs.length.toInt32 :: r, hp) := by
  unfold px_alen at h
  split at h
  · rename_i a r
    split at h
    · rename_i t vs hh
      split at h
      · rename_i hq
        exact ⟨a, r, t, vs, rfl, hh, hq.1, hq.2, (Option.some.inj h).symm⟩
      · cases h
    · cases h
  · cases h
theorem px_getf_inv {cn idx pc : Nat} {lv : px_L} {st : List Value} {hp : px_H} {n : px_N} (h : px_getf cn idx pc lv st hp = some n) : ∃ a r ci k ps ne vs v, st = .ref a :: r ∧ (cn, idx, ci, k, ps, ne) ∈ px_fl_ ∧ hp[a]? = some (ci, vs) ∧ vs[k]? = some v ∧ n = .inl (pc + 3, lv, v :: r, hp) := by
  unfold px_getf at h
  split at h
  · rename_i a r
    split at h
    · rename_i ci k q hq
      split at h
      · rename_i t vs hh
        split at h
        · rename_i ht
          subst ht
          split at h
          · rename_i v hv
            exact ⟨a, r, t, k, q.1, q.2, vs, v, rfl, px_lk_mem hq, hh, hv, (Option.some.inj h).symm⟩
          · cases h
        · cases h
      · cases h
    · cases h
  · cases h
theorem px_putf_inv {j idx pc : Nat} {lv : px_L} {st : List Value} {hp : px_H} {n : px_N} (h : px_putf j idx pc lv st hp = some n) : ∃ v a r ci k ps vs, st = v :: .ref a :: r ∧ (px_cn j, idx, ci, k, ps, 0) ∈ px_fl_ ∧ hp[a]? = some (ci, vs) ∧ 8 ≤ a ∧ k < vs.length ∧ narrow (px_ft ci k) v = v ∧ fits (px_ft ci k) v = true ∧ (px_fin ci k = true → px_kd j = 2 ∧ px_cn j = ci) ∧ n = .inl (pc + 3, lv, r, px_set hp a ci vs k v) := by
  unfold px_putf at h
  split at h
  · rename_i v a r
    split at h
    · rename_i ci k ps ne hq
      split at h
      · rename_i t vs hh
        split at h
        · rename_i ht
          obtain ⟨rfl, h1, h2, rfl, h3, h4, h5⟩ := ht
          exact ⟨v, a, r, t, k, ps, vs, rfl, px_lk_mem hq, hh, h1, h2, h3, h4, h5, (Option.some.inj h).symm⟩
        · cases h
      · cases h
    · cases h
  · cases h
theorem px_sz_set {hp : px_H} {a t i : Nat} {vs : List Value} {v : Value} (h : hp[a]? = some (t, vs)) : px_sz (px_set hp a t vs i v) = px_sz hp := by
  unfold px_sz px_set
  rw [List.map_set]
  have e : (hp.map (fun c => c.2.length))[a]? = some vs.length := by simp [h]
  simp only [List.length_set]
  congr 1
  apply List.ext_getElem?
  intro k
  by_cases hk : k = a
  · subst hk
    rw [List.getElem?_set_self', e]
    rfl
  · rw [List.getElem?_set_ne (Ne.symm hk)]
theorem px_sz_app (hp cs : px_H) : px_sz (hp ++ cs) = px_sz hp + px_sz cs := by
  unfold px_sz
  simp
end
section
theorem px_fin_eq : ∀ (ci k : Nat), px_fin ci k = (px_T ci k).2.2.2
  | 0, _ => rfl
  | 1, _ => rfl
  | 2, _ => rfl
  | 3, _ => rfl
  | _ + 4, _ => rfl
theorem px_asg (vm : Vm) (c : ClassId) : vm.assignable c c = true := by
  show vm.assignableAux (255 + 1) c c = true
  rw [Vm.assignableAux]
  simp only [beq_self_eq_true, Bool.true_or]
theorem px_AOA {t : FieldType} {A A' : Array Value} {u U : State} (hvm : u.vm.Alike U.vm) (h : (Cond.arrayOver (.array t)).before A u = true) : (Cond.arrayOver (.array t)).before A' U = true := by
  obtain ⟨comp, c, k, h1, h2, h3, h4, h5⟩ := arrayOverA_spec h
  obtain ⟨k', hk', he⟩ := hvm.2.2 _ _ h3
  have hi : (U.vm.classes.findIdx? fun (x : Class) => match x.kind with | .array component _ => component == comp | _ => false) = some c := by
    rw [hvm.findIdx?_eq _ (fun _ => rfl)]
    exact h2
  have hkind : k'.kind = .array comp (.array t) := by rw [he]; exact h4
  have f1 : U.vm.findClass (FieldType.array t).toString = some comp := by rw [hvm.findClass]; exact h1
  have f2 : U.vm.findClass ("[" ++ (FieldType.array t).toString) = some c := by rw [hvm.findClass]; exact h5
  unfold Cond.before Cond.holds
  simp only [Cond.value]
  rw [f1, Option.bind_some]
  refine (congrArg (fun o : Option Nat => (o.bind (fun c => (U.vm.classes[c]?).map fun (k : Class) => match k.kind with | .array _ ty => decide (ty = FieldType.array t) && decide (U.vm.findClass ("[" ++ (FieldType.array t).toString) = some c) | _ => false) == some true)) hi).trans ?_
  simp [hk', hkind, f2]
section PXM
variable {l : Launch} {S0 : State} {A0 : Array Value} {D : va_G} {od sa : Nat → Nat} {p : Program} {e : Env} {R : Room} {s : State} {m : MethodId} {args : Array Value} {below : List Frame} {meth : Method} {c : Code} {Q : State → Prop} {j d k0 z0 : Nat}
theorem px_mna_sound (C : px_Cx l S0 A0 D od sa) (B : px_B S0 j d k0 p R s m meth c) {pc idx dims : Nat} {lv : px_L} {st : List Value} {hp : px_H} {f : px_F} (hd : decode (px_c j) pc = .ok (.multianewarray idx dims, 4)) (h : px_step j pc lv st hp (.multianewarray idx dims) = some (.inl f))
    (hr1 : f.2.2.2.length ≤ k0 + R.cells) (hr2 : px_sz f.2.2.2 ≤ z0 + R.slots) (K : px_G S0 D od p l e R s m args below meth c Q (px_ml j) k0 z0 f) : px_G S0 D od p l e R s m args below meth c Q (px_ml j) k0 z0 (pc, lv, st, hp) := by
  obtain ⟨hx, hb, hml, hown, hrt, hlk, hnm, hW0, het, hfr, hlo, hsz⟩ := id B
  intro H locs ls cells slots w1 w2 w3 w4 w5
  change px_W S0 D od hp H at w1
  change lv_has ls (px_ml j) (px_rl (px_ad od S0.heap.size) lv) at w3
  change cells + k0 = hp.length at w4
  change slots + z0 = px_sz hp at w5
  simp only [px_step, px_mna] at h
  split at h
  · rename_i k n r
    split at h
    · rename_i hn
      cases h
      obtain ⟨n1, rfl, rfl, n3, n4, n5, n6⟩ := hn
      have hown0 : s.vm.findClass RX0 = some m.cls := by rw [n1] at hown; exact hown
      have hl1 : hp.length + (n.toNatClampNeg + 1) ≤ k0 + R.cells := by simpa using hr1
      have hl2 : px_sz hp + (n.toNatClampNeg + n.toNatClampNeg * k.toNatClampNeg) ≤ z0 + R.slots := by
        have := hr2
        simp only [px_sz_app] at this
        simpa [px_sz] using this
      have hw : ∀ w, w ∈ px_PT → w.before args s = true := fun w hw => px_word C.1 hW0 hw
      have e12 : "[" ++ (FieldType.array .int).toString = "[[I" := by decide +kernel
      intro T hT X
      obtain ⟨vm₁, cA, comp, -, fA, fC, hO, hI, X', step⟩ := X.multianewarray2F (ty := .int) (own := RX0) (index := 13) hx hown0 (by rw [e12]; exact hw _ (px_in (i := 110) rfl rfl)) (px_AOA hW0.alike (C.1 _ (List.mem_of_getElem? (i := 111) rfl))) (hw _ (px_in (i := 102) rfl rfl)) (g := F0 m pc ls (.int k :: .int n :: r.map (px_ren (px_ad od S0.heap.size)))) rfl (by rw [hb]; exact hd) (n := n) (k := k) (rest := r.map (px_ren (px_ad od S0.heap.size))) rfl n3 n4 (by omega) (by show k.toNatClampNeg * 4 ≤ _; omega) (by omega) rfl rfl (by omega) (by omega)
      generalize hF : Jvm.Free.Multi.fill (T.setVm vm₁) cA comp n.toNatClampNeg k.toNatClampNeg (defaultValue .int) n.toNatClampNeg = F at X' step
      have hTh : (T.setVm vm₁).heap = H := hT
      obtain ⟨f1, f2, -, -⟩ := Jvm.Free.Multi.fill_facts (T.setVm vm₁) cA comp n.toNatClampNeg k.toNatClampNeg (defaultValue .int) n.toNatClampNeg
      rw [hF, hTh] at f1 f2
      have hold : ∀ x : Nat, x < H.size → F.heap[x]? = H[x]? := fun x hx => by
        have := Jvm.Free.Multi.fill_old (T.setVm vm₁) cA comp n.toNatClampNeg k.toNatClampNeg (defaultValue .int) (a := x) (by rw [hTh]; exact hx) n.toNatClampNeg
        rw [hF, hTh] at this
        exact this
      have hrow : ∀ i : Nat, i < n.toNatClampNeg → F.heap[H.size + 1 + i]? = some (Jvm.Free.Multi.innerC comp k.toNatClampNeg (defaultValue .int)) := fun i hi => by
        have := Jvm.Free.Multi.fill_inner (T.setVm vm₁) cA comp n.toNatClampNeg k.toNatClampNeg (defaultValue .int) n.toNatClampNeg i hi
        rw [hF, hTh] at this
        exact this
      have hpl := w1.hpl
      have h8 := w1.1
      have hs8 := w1.2.1
      have hwd := w1.app (H1 := F.heap) C.2.2.2.1 ((14, (List.range n.toNatClampNeg).map (fun i => Value.ref (hp.length + 1 + i))) :: List.replicate n.toNatClampNeg (10, List.replicate k.toNatClampNeg (.int 0))) (fun i c hc => by
        cases i with
        | zero =>
          cases hc
          refine ⟨fun h => absurd h (by show ¬ (14 : Nat) < 5; decide), fun _ _ => ⟨_, f2, State.isArrayOf_alike hW0.alike.symm (hO _ _ _).1, (hO _ _ _).2, fun _ => ?_, fun z => absurd z (by show ¬ (14 : Nat) = 13; decide), fun z => absurd z (by show ¬ (14 : Nat) = 20; decide)⟩, Or.inr (by show (10 : Nat) ≤ 14; decide)⟩
          rw [vr_outer]
          apply Array.ext
          · simp [arrV]
          · intro i h1 h2
            have hi : i < n.toNatClampNeg := by simpa [arrV] using h1
            simp only [arrV, Array.getElem_ofFn, if_pos hi]
            simp only [va_rf, List.getElem_toArray, List.getElem_map, List.getElem_range, px_ren]
            rw [px_ad_new (by omega), show S0.heap.size + (hp.length + 1 + i - 8) = H.size + 1 + i by omega]
        | succ i =>
          rw [List.getElem?_cons_succ] at hc
          have hi : i < n.toNatClampNeg := by
            have := (List.getElem?_eq_some_iff.mp hc).1
            simpa using this
          have hce := List.eq_of_mem_replicate (List.mem_of_getElem? hc)
          subst hce
          refine ⟨fun h => absurd h (by show ¬ (10 : Nat) < 5; decide), fun _ _ => ⟨_, by rw [show H.size + (i + 1) = H.size + 1 + i by omega]; exact hrow i hi, State.isArrayOf_alike hW0.alike.symm (hI _ _).1, (hI _ _).2, fun _ => ?_, fun z => absurd z (by show ¬ (10 : Nat) = 13; decide), fun z => absurd z (by show ¬ (10 : Nat) = 20; decide)⟩, Or.inr (by show (10 : Nat) ≤ 10; decide)⟩
          show Array.replicate k.toNatClampNeg (Value.int 0) = _
          simp [px_ren]) (by rw [f1]; simp; omega) hold
      have hK := K F.heap locs ls (cells + 1 + n.toNatClampNeg) (slots + n.toNatClampNeg + n.toNatClampNeg * k.toNatClampNeg) hwd w2 w3 (by simp; omega) (by simp only [px_sz_app]; simp [px_sz] at w5 ⊢; omega)
      rw [List.map_cons] at hK
      simp only [px_ren, hpl] at hK
      have hTs : T.heap.size = H.size := by rw [hT]
      rw [← hTs] at hK
      obtain ⟨t, a1, b1⟩ := hK F rfl X'
      exact ⟨t, step t a1, b1⟩
    · cases h
  · cases h
end PXM
end
section
section PXS
variable {l : Launch} {S0 : State} {A0 : Array Value} {D : va_G} {od sa : Nat → Nat} {p : Program} {e : Env} {R : Room} {s : State} {m : MethodId} {args : Array Value} {below : List Frame} {meth : Method} {c : Code} {Q : State → Prop} {j d k0 z0 : Nat}
theorem px_ren_dv (ad : Nat → Nat) (ty : FieldType) : px_ren ad (defaultValue ty) = defaultValue ty := by cases ty <;> rfl
theorem px_B.arr {cell : Cell} {ty : FieldType} (B : px_B S0 j d k0 p R s m meth c) (h : S0.isArrayOf cell ty) : s.isArrayOf cell ty := State.isArrayOf_alike B.2.2.2.2.2.2.2.1.alike h
theorem px_B.arr' {cell : Cell} {ty : FieldType} (B : px_B S0 j d k0 p R s m meth c) (h : s.isArrayOf cell ty) : S0.isArrayOf cell ty := State.isArrayOf_alike B.2.2.2.2.2.2.2.1.alike.symm h
theorem px_Cx.odl (C : px_Cx l S0 A0 D od sa) : ∀ k, k < 8 → od k < S0.heap.size := C.2.2.2.1
theorem px_Cx.w (C : px_Cx l S0 A0 D od sa) (B : px_B S0 j d k0 p R s m meth c) {w : Cond} (hw : w ∈ px_PT) : w.before args s = true := px_word C.1 B.2.2.2.2.2.2.2.1 hw
theorem px_Cx.kn (C : px_Cx l S0 A0 D od sa) (B : px_B S0 j d k0 p R s m meth c) {t : Nat} (ht : t < 5) : u_Kn s (px_R t) (px_T t) (px_nf t) (D.1 t) (D.2 t) := u_Kn_moved B.2.2.2.2.2.2.2.1.alike (C.2.1 t ht)
theorem px_Cx.hts (C : px_Cx l S0 A0 D od sa) (B : px_B S0 j d k0 p R s m meth c) : ∀ w ∈ px_PT, w.before args s = true := fun _ hw => C.w B hw
theorem px_Cx.apart (C : px_Cx l S0 A0 D od sa) (B : px_B S0 j d k0 p R s m meth c) {t : Nat} (ht : t < 5) : ∀ x y, x < px_nf t → y < px_nf t → x ≠ y → D.2 t x ≠ D.2 t y := by
  intro x y hx hy hne
  obtain ⟨hS, -⟩ := C.kn B ht
  obtain ⟨_, _, _, fa, hia, ea⟩ := hS x hx
  obtain ⟨_, _, _, fb, hib, eb⟩ := hS y hy
  rw [← ea, ← eb]
  refine u_apart (u_lays (args := #[]) (C.hts B) (px_lay_ok t ht) hx) (u_lays (args := #[]) (C.hts B) (px_lay_ok t ht) hy) hia hib ?_
  rw [(State.fieldFound?_type hia (px_ty_ok t ht x hx)).1, (State.fieldFound?_type hib (px_ty_ok t ht y hy)).1]
  exact px_nm_ok t ht x hx y hy hne
theorem px_new_base {a : Nat} (ha : 8 ≤ a) {locs : List Loc} {k : Nat} (h : ∀ q ∈ locs, S0.heap.size ≤ q.base) : ∀ q ∈ locs ++ [(⟨px_ad od S0.heap.size a, k⟩ : Loc)], S0.heap.size ≤ q.base := by
  intro q hq
  rcases List.mem_append.mp hq with h1 | h1
  · exact h q h1
  · rw [List.mem_singleton.mp h1]
    show S0.heap.size ≤ px_ad od S0.heap.size a
    rw [px_ad_new ha]
    omega
/-- a store into an array's cell -/
theorem px_put_ar (C : px_Cx l S0 A0 D od sa) {hp : px_H} {H H1 : Heap} {a t i : Nat} {vs : List Value} {v : Value} (w1 : px_W S0 D od hp H) (ha : 8 ≤ a) (ht : 10 ≤ t) (ht2 : t ≤ 14) (hh : hp[a]? = some (t, vs)) {cell : Cell}
    (q2 : S0.isArrayOf cell (px_ty t)) (q3 : cell.vm ≠ .unknown) (q4 : cell.slots = (vs.map (px_ren (px_ad od S0.heap.size))).toArray) (q5 : t = 13 → cell.cls = D.1 13)
    (e1 : H1[px_ad od S0.heap.size a]? = some (cell.setSlot i (px_ren (px_ad od S0.heap.size) v))) (e2 : H1.size = H.size) (e3 : ∀ q, q ≠ px_ad od S0.heap.size a → H1[q]? = H[q]?) : px_W S0 D od (px_set hp a t vs i v) H1 := by
  refine w1.set C.odl ha ⟨fun h => absurd h (by show ¬ t < 5; omega), fun _ _ => ?_, Or.inr ht⟩ e2 e3
  exact ⟨_, e1, q2, q3, fun _ => px_wr q4 i v, q5, fun z => absurd z (by show ¬ t = 20; omega)⟩
set_option maxHeartbeats 4000000 in
theorem px_st (C : px_Cx l S0 A0 D od sa) (B : px_B S0 j d k0 p R s m meth c) {pc : Nat} {lv : px_L} {st : List Value} {hp : px_H} {i : Instr} {f : px_F} (hd : decode (px_c j) pc = .ok (i, px_len pc i)) (h : px_step j pc lv st hp i = some (.inl f))
    (hr1 : f.2.2.2.length ≤ k0 + R.cells) (hr2 : px_sz f.2.2.2 ≤ z0 + R.slots) (K : px_G S0 D od p l e R s m args below meth c Q (px_ml j) k0 z0 f) : px_G S0 D od p l e R s m args below meth c Q (px_ml j) k0 z0 (pc, lv, st, hp) := by
  obtain ⟨hx, hb, hml, hown, hrt, hlk, hnm, hW0, het, hfr, hlo, hsz⟩ := id B
  intro H locs ls cells slots w1 w2 w3 w4 w5
  change px_W S0 D od hp H at w1
  change lv_has ls (px_ml j) (px_rl (px_ad od S0.heap.size) lv) at w3
  change cells + k0 = hp.length at w4
  change slots + z0 = px_sz hp at w5
  cases i
  case iconst n =>
    cases h
    exact lv_iconst hx hb hd rfl (K H locs ls cells slots w1 w2 w3 w4 w5)
  case bipush n =>
    cases h
    exact lv_bipush hx hb hd rfl (K H locs ls cells slots w1 w2 w3 w4 w5)
  case sipush n =>
    cases h
    exact lv_sipush hx hb hd rfl (K H locs ls cells slots w1 w2 w3 w4 w5)
  case lconst n =>
    cases h
    exact lv_lconst hx hb hd rfl (K H locs ls cells slots w1 w2 w3 w4 w5)
  case ldc_w idx =>
    simp only [px_step] at h
    split at h
    · rename_i v ps hq
      cases h
      exact lv_ldcw hx hb hown (C.w B (px_in (px_ki_ok _ (px_lk_mem hq)) rfl)) hd (K H locs ls cells slots w1 w2 w3 w4 w5)
    · cases h
  case ldc2_w idx =>
    simp only [px_step] at h
    split at h
    · rename_i v ps hq
      cases h
      exact lv_ldc2 hx hb hown (C.w B (px_in (px_kl_ok _ (px_lk_mem hq)) rfl)) hd (K H locs ls cells slots w1 w2 w3 w4 w5)
    · cases h
  case iload_n k =>
    obtain ⟨x, hg, e0⟩ := px_ld0 h
    cases e0
    exact lv_iload_n hx hb hd rfl (px_rl_at hg w3) (K H locs ls cells slots w1 w2 w3 w4 w5)
  case iload k =>
    obtain ⟨x, hg, e0⟩ := px_ld0 h
    cases e0
    exact lv_iload hx hb hd (px_rl_at hg w3) (K H locs ls cells slots w1 w2 w3 w4 w5)
  case istore_n k =>
    obtain ⟨x, r, e1, hn, e0⟩ := px_sv0 h
    subst e1
    cases e0
    exact lv_istore_n hx hb hd rfl w3 hn (px_rl_s1 _ lv _ (.int x)) (fun ls' h' => K H locs ls' cells slots w1 w2 h' w4 w5)
  case istore k =>
    obtain ⟨x, r, e1, hn, e0⟩ := px_sv0 h
    subst e1
    cases e0
    exact lv_istore hx hb hd w3 hn (px_rl_s1 _ lv _ (.int x)) (fun ls' h' => K H locs ls' cells slots w1 w2 h' w4 w5)
  case lload_n k =>
    obtain ⟨x, hg, e0⟩ := px_ld1 h
    cases e0
    exact lv_lload_n hx hb hd rfl (px_rl_at hg w3) (K H locs ls cells slots w1 w2 w3 w4 w5)
  case lload k =>
    obtain ⟨x, hg, e0⟩ := px_ld1 h
    cases e0
    exact lv_lload hx hb hd (px_rl_at hg w3) (K H locs ls cells slots w1 w2 w3 w4 w5)
  case lstore_n k =>
    obtain ⟨x, r, e1, hn, e0⟩ := px_sv1 h
    subst e1
    cases e0
    exact lv_lstore_n hx hb hd rfl w3 hn (px_rl_s2 _ lv _ (.long x)) (fun ls' h' => K H locs ls' cells slots w1 w2 h' w4 w5)
  case lstore k =>
    obtain ⟨x, r, e1, hn, e0⟩ := px_sv1 h
    subst e1
    cases e0
    exact lv_lstore hx hb hd w3 hn (px_rl_s2 _ lv _ (.long x)) (fun ls' h' => K H locs ls' cells slots w1 w2 h' w4 w5)
  case aload_n k =>
    obtain ⟨x, hg, e0⟩ := px_ld2 h
    cases e0
    exact lv_aload_n hx hb hd rfl (px_rl_at hg w3) (K H locs ls cells slots w1 w2 w3 w4 w5)
  case aload k =>
    obtain ⟨x, hg, e0⟩ := px_ld2 h
    cases e0
    exact lv_aload hx hb hd (px_rl_at hg w3) (K H locs ls cells slots w1 w2 w3 w4 w5)
  case astore_n k =>
    obtain ⟨x, r, e1, hn, e0⟩ := px_sv2 h
    subst e1
    cases e0
    exact lv_astore_n hx hb hd rfl w3 hn (px_rl_s1 _ lv _ (.ref x)) (fun ls' h' => K H locs ls' cells slots w1 w2 h' w4 w5)
  case astore k =>
    obtain ⟨x, r, e1, hn, e0⟩ := px_sv2 h
    subst e1
    cases e0
    exact lv_astore hx hb hd w3 hn (px_rl_s1 _ lv _ (.ref x)) (fun ls' h' => K H locs ls' cells slots w1 w2 h' w4 w5)
  case iinc k n =>
    simp only [px_step] at h
    split at h
    · rename_i x hg
      split at h
      · rename_i hn
        cases h
        obtain ⟨q, hq⟩ := List.getElem?_of_mem (List.mem_map.mpr ⟨(k, .int x), px_get_mem hg, rfl⟩ : (k, px_ren (px_ad od S0.heap.size) (.int x)) ∈ px_rl (px_ad od S0.heap.size) lv)
        exact lv_iinc hx hb hd w3 hq rfl hn (px_rl_s1 _ lv _ (.int (x + Int32.ofInt n))) (fun ls' h' => K H locs ls' cells slots w1 w2 h' w4 w5)
      · cases h
    · cases h
  case iadd =>
    obtain ⟨x, y, r, e1, e0⟩ := px_ii_inv h
    subst e1
    cases e0
    exact lv_iadd hx hb hd (K H locs ls cells slots w1 w2 w3 w4 w5)
  case isub =>
    obtain ⟨x, y, r, e1, e0⟩ := px_ii_inv h
    subst e1
    cases e0
    exact lv_isub hx hb hd (K H locs ls cells slots w1 w2 w3 w4 w5)
  case imul =>
    obtain ⟨x, y, r, e1, e0⟩ := px_ii_inv h
    subst e1
    cases e0
    exact lv_imul hx hb hd (K H locs ls cells slots w1 w2 w3 w4 w5)
  case iand =>
    obtain ⟨x, y, r, e1, e0⟩ := px_ii_inv h
    subst e1
    cases e0
    exact lv_iand hx hb hd (K H locs ls cells slots w1 w2 w3 w4 w5)
  case ior =>
    obtain ⟨x, y, r, e1, e0⟩ := px_ii_inv h
    subst e1
    cases e0
    exact lv_ior hx hb hd (K H locs ls cells slots w1 w2 w3 w4 w5)
  case ishl =>
    obtain ⟨x, y, r, e1, e0⟩ := px_ii_inv h
    subst e1
    cases e0
    exact lv_ishl hx hb hd (K H locs ls cells slots w1 w2 w3 w4 w5)
  case ishr =>
    obtain ⟨x, y, r, e1, e0⟩ := px_ii_inv h
    subst e1
    cases e0
    exact lv_ishr hx hb hd (K H locs ls cells slots w1 w2 w3 w4 w5)
  case iushr =>
    obtain ⟨x, y, r, e1, e0⟩ := px_ii_inv h
    subst e1
    cases e0
    exact lv_iushr hx hb hd rfl (K H locs ls cells slots w1 w2 w3 w4 w5)
  case idiv =>
    obtain ⟨x, y, r, e1, hy, e0⟩ := px_iz_inv h
    subst e1
    cases e0
    exact lv_idiv hx hb hd hy (K H locs ls cells slots w1 w2 w3 w4 w5)
  case irem =>
    obtain ⟨x, y, r, e1, hy, e0⟩ := px_iz_inv h
    subst e1
    cases e0
    exact lv_irem hx hb hd hy (K H locs ls cells slots w1 w2 w3 w4 w5)
  case ladd =>
    obtain ⟨x, y, r, e1, e0⟩ := px_ll_inv h
    subst e1
    cases e0
    exact lv_ladd hx hb hd (K H locs ls cells slots w1 w2 w3 w4 w5)
  case lsub =>
    obtain ⟨x, y, r, e1, e0⟩ := px_ll_inv h
    subst e1
    cases e0
    exact lv_lsub hx hb hd (K H locs ls cells slots w1 w2 w3 w4 w5)
  case land =>
    obtain ⟨x, y, r, e1, e0⟩ := px_ll_inv h
    subst e1
    cases e0
    exact lv_land hx hb hd (K H locs ls cells slots w1 w2 w3 w4 w5)
  case lor =>
    obtain ⟨x, y, r, e1, e0⟩ := px_ll_inv h
    subst e1
    cases e0
    exact lv_lor hx hb hd (K H locs ls cells slots w1 w2 w3 w4 w5)
  case lxor =>
    obtain ⟨x, y, r, e1, e0⟩ := px_ll_inv h
    subst e1
    cases e0
    exact lv_lxor hx hb hd (K H locs ls cells slots w1 w2 w3 w4 w5)
  case lshl =>
    obtain ⟨x, y, r, e1, e0⟩ := px_li_inv h
    subst e1
    cases e0
    exact lv_lshl hx hb hd rfl (K H locs ls cells slots w1 w2 w3 w4 w5)
  case lshr =>
    obtain ⟨x, y, r, e1, e0⟩ := px_li_inv h
    subst e1
    cases e0
    exact lv_lshr hx hb hd rfl (K H locs ls cells slots w1 w2 w3 w4 w5)
  case lushr =>
    obtain ⟨x, y, r, e1, e0⟩ := px_li_inv h
    subst e1
    cases e0
    exact lv_lushr hx hb hd rfl (K H locs ls cells slots w1 w2 w3 w4 w5)
  case ineg =>
    simp only [px_step] at h
    split at h
    · rename_i x r
      cases h
      exact lv_ineg hx hb hd (K H locs ls cells slots w1 w2 w3 w4 w5)
    · cases h
  case lneg =>
    simp only [px_step] at h
    split at h
    · rename_i x r
      cases h
      exact lv_lneg hx hb hd (K H locs ls cells slots w1 w2 w3 w4 w5)
    · cases h
  case i2l =>
    simp only [px_step] at h
    split at h
    · rename_i x r
      cases h
      exact lv_i2l hx hb hd rfl (K H locs ls cells slots w1 w2 w3 w4 w5)
    · cases h
  case l2i =>
    simp only [px_step] at h
    split at h
    · rename_i x r
      cases h
      exact lv_l2i hx hb hd rfl (K H locs ls cells slots w1 w2 w3 w4 w5)
    · cases h
  case lcmp =>
    simp only [px_step] at h
    split at h
    · rename_i y x r
      cases h
      exact W.lcmp hx hb hd (K H locs ls cells slots w1 w2 w3 w4 w5)
    · cases h
  case dup =>
    simp only [px_step] at h
    split at h
    · rename_i v r
      split at h
      · rename_i hv
        cases h
        exact lv_dup hx hb hd ((px_cat _ v).trans hv) (K H locs ls cells slots w1 w2 w3 w4 w5)
      · cases h
    · cases h
  case pop =>
    simp only [px_step] at h
    split at h
    · rename_i v r
      split at h
      · rename_i hv
        cases h
        exact lv_pop hx hb hd ((px_cat _ v).trans hv) (K H locs ls cells slots w1 w2 w3 w4 w5)
      · cases h
    · cases h
  case dup2 =>
    simp only [px_step] at h
    split at h
    · rename_i v w r
      split at h
      · rename_i hv
        cases h
        exact lv_dup2_11 hx hb hd ((px_cat _ v).trans hv.1) ((px_cat _ w).trans hv.2) (K H locs ls cells slots w1 w2 w3 w4 w5)
      · cases h
    · cases h
  case ifCond cond off =>
    simp only [px_step] at h
    split at h
    · rename_i x r
      obtain ⟨t, ht, hT, hF⟩ := px_if_inv h
      cases cond
      case eq =>
        refine lv_if_eq hx hb hd ht (fun q => ?_) (fun q => ?_)
        · cases hT (decide_eq_true q)
          exact K H locs ls cells slots w1 w2 w3 w4 w5
        · cases hF (decide_eq_false q)
          exact K H locs ls cells slots w1 w2 w3 w4 w5
      case ne =>
        refine lv_if_ne hx hb hd ht (fun q => ?_) (fun q => ?_)
        · cases hT (decide_eq_true q)
          exact K H locs ls cells slots w1 w2 w3 w4 w5
        · cases hF (decide_eq_false (not_not_intro q))
          exact K H locs ls cells slots w1 w2 w3 w4 w5
      case lt =>
        refine lv_if_lt hx hb hd ht (fun q => ?_) (fun q => ?_)
        · cases hT (decide_eq_true q)
          exact K H locs ls cells slots w1 w2 w3 w4 w5
        · cases hF (decide_eq_false q)
          exact K H locs ls cells slots w1 w2 w3 w4 w5
      case ge =>
        refine lv_if_ge hx hb hd ht (fun q => ?_) (fun q => ?_)
        · cases hT (decide_eq_true q)
          exact K H locs ls cells slots w1 w2 w3 w4 w5
        · cases hF (decide_eq_false q)
          exact K H locs ls cells slots w1 w2 w3 w4 w5
      case gt =>
        refine lv_if_gt hx hb hd ht (fun q => ?_) (fun q => ?_)
        · cases hT (decide_eq_true q)
          exact K H locs ls cells slots w1 w2 w3 w4 w5
        · cases hF (decide_eq_false q)
          exact K H locs ls cells slots w1 w2 w3 w4 w5
      case le =>
        refine lv_if_le hx hb hd ht (fun q => ?_) (fun q => ?_)
        · cases hT (decide_eq_true q)
          exact K H locs ls cells slots w1 w2 w3 w4 w5
        · cases hF (decide_eq_false q)
          exact K H locs ls cells slots w1 w2 w3 w4 w5
    · cases h
  case if_icmp cond off =>
    simp only [px_step] at h
    split at h
    · rename_i y x r
      obtain ⟨t, ht, hT, hF⟩ := px_if_inv h
      cases cond
      case eq =>
        refine lv_icmp_eq hx hb hd ht (fun q => ?_) (fun q => ?_)
        · cases hT (decide_eq_true q)
          exact K H locs ls cells slots w1 w2 w3 w4 w5
        · cases hF (decide_eq_false q)
          exact K H locs ls cells slots w1 w2 w3 w4 w5
      case ne =>
        refine lv_icmp_ne hx hb hd ht (fun q => ?_) (fun q => ?_)
        · cases hT (decide_eq_true q)
          exact K H locs ls cells slots w1 w2 w3 w4 w5
        · cases hF (decide_eq_false (not_not_intro q))
          exact K H locs ls cells slots w1 w2 w3 w4 w5
      case lt =>
        refine lv_icmp_lt hx hb hd ht (fun q => ?_) (fun q => ?_)
        · cases hT (decide_eq_true q)
          exact K H locs ls cells slots w1 w2 w3 w4 w5
        · cases hF (decide_eq_false q)
          exact K H locs ls cells slots w1 w2 w3 w4 w5
      case ge =>
        refine lv_icmp_ge hx hb hd ht (fun q => ?_) (fun q => ?_)
        · cases hT (decide_eq_true q)
          exact K H locs ls cells slots w1 w2 w3 w4 w5
        · cases hF (decide_eq_false q)
          exact K H locs ls cells slots w1 w2 w3 w4 w5
      case gt =>
        refine lv_icmp_gt hx hb hd ht (fun q => ?_) (fun q => ?_)
        · cases hT (decide_eq_true q)
          exact K H locs ls cells slots w1 w2 w3 w4 w5
        · cases hF (decide_eq_false q)
          exact K H locs ls cells slots w1 w2 w3 w4 w5
      case le =>
        refine lv_icmp_le hx hb hd ht (fun q => ?_) (fun q => ?_)
        · cases hT (decide_eq_true q)
          exact K H locs ls cells slots w1 w2 w3 w4 w5
        · cases hF (decide_eq_false q)
          exact K H locs ls cells slots w1 w2 w3 w4 w5
    · cases h
  case goto off =>
    obtain ⟨t, ht, e0⟩ := px_jmp_inv h
    cases e0
    exact lv_goto hx hb hd ht (K H locs ls cells slots w1 w2 w3 w4 w5)
  case tableswitch dflt lo hi offs =>
    simp only [px_step, px_sw] at h
    split at h
    · rename_i x r
      split at h
      · rename_i hq
        obtain ⟨t, ht, e0⟩ := px_jmp_inv h
        cases e0
        exact lv_tableOut hx hb hd hq ht (K H locs ls cells slots w1 w2 w3 w4 w5)
      · rename_i hq
        split at h
        · rename_i off ho
          obtain ⟨t, ht, e0⟩ := px_jmp_inv h
          cases e0
          exact lv_tableIn hx hb hd (fun z => hq (Or.inl z)) (fun z => hq (Or.inr z)) ho ht (K H locs ls cells slots w1 w2 w3 w4 w5)
        · cases h
    · cases h
  case iaload =>
    obtain ⟨x, a, r, t, vs, v, e1, hh, hok, hi, hv, e0⟩ := px_ald_inv h
    subst e1
    cases e0
    obtain ⟨-, har, -⟩ := w1.2.2.2 a _ hh
    have ht : t = 10 ∨ t = 20 := by simpa using hok
    rcases ht with rfl | rfl
    · obtain ⟨cell, q1, q2, q3, q4, -⟩ := (har (show (10 : Nat) ≤ 10 by decide) (show (10 : Nat) ≤ 20 by decide)).rd
      obtain ⟨q5, q6⟩ := q4 _ _ hv
      exact W.iald hx hb q1 (B.arr q2) q3 (fun z => z.elim hi q6) q5 rfl rfl hd (K H locs ls cells slots w1 w2 w3 w4 w5)
    · obtain ⟨cell, q1, q2, q3, q4, -⟩ := (har (show (10 : Nat) ≤ 20 by decide) (show (20 : Nat) ≤ 20 by decide)).rd
      obtain ⟨q5, q6⟩ := q4 _ _ hv
      exact W.iald hx hb q1 (B.arr q2) q3 (fun z => z.elim hi q6) q5 rfl rfl hd (K H locs ls cells slots w1 w2 w3 w4 w5)
  case laload =>
    obtain ⟨x, a, r, t, vs, v, e1, hh, hok, hi, hv, e0⟩ := px_ald_inv h
    subst e1
    cases e0
    obtain ⟨-, har, -⟩ := w1.2.2.2 a _ hh
    have ht : t = 11 := by simpa using hok
    subst ht
    obtain ⟨cell, q1, q2, q3, q4, -⟩ := (har (show (10 : Nat) ≤ 11 by decide) (show (11 : Nat) ≤ 20 by decide)).rd
    obtain ⟨q5, q6⟩ := q4 _ _ hv
    exact W.lald hx hb q1 (B.arr q2) q3 (fun z => z.elim hi q6) q5 rfl rfl hd (K H locs ls cells slots w1 w2 w3 w4 w5)
  case baload =>
    obtain ⟨x, a, r, t, vs, v, e1, hh, hok, hi, hv, e0⟩ := px_ald_inv h
    subst e1
    cases e0
    obtain ⟨-, har, -⟩ := w1.2.2.2 a _ hh
    have ht : t = 12 := by simpa using hok
    subst ht
    obtain ⟨cell, q1, q2, q3, q4, -⟩ := (har (show (10 : Nat) ≤ 12 by decide) (show (12 : Nat) ≤ 20 by decide)).rd
    obtain ⟨q5, q6⟩ := q4 _ _ hv
    exact W.zald hx hb q1 (B.arr q2) q3 (fun z => z.elim hi q6) q5 rfl rfl hd (K H locs ls cells slots w1 w2 w3 w4 w5)
  case aaload =>
    obtain ⟨x, a, r, t, vs, v, e1, hh, hok, hi, hv, e0⟩ := px_ald_inv h
    subst e1
    cases e0
    obtain ⟨-, har, -⟩ := w1.2.2.2 a _ hh
    have ht : t = 13 ∨ t = 14 := by simpa using hok
    rcases ht with rfl | rfl
    · obtain ⟨cell, q1, q2, q3, q4, -⟩ := (har (show (10 : Nat) ≤ 13 by decide) (show (13 : Nat) ≤ 20 by decide)).rd
      obtain ⟨q5, q6⟩ := q4 _ _ hv
      exact W.aald hx hb q1 (B.arr q2) rfl q3 (fun z => z.elim hi q6) q5 rfl rfl hd (K H locs ls cells slots w1 w2 w3 w4 w5)
    · obtain ⟨cell, q1, q2, q3, q4, -⟩ := (har (show (10 : Nat) ≤ 14 by decide) (show (14 : Nat) ≤ 20 by decide)).rd
      obtain ⟨q5, q6⟩ := q4 _ _ hv
      exact W.aald hx hb q1 (B.arr q2) rfl q3 (fun z => z.elim hi q6) q5 rfl rfl hd (K H locs ls cells slots w1 w2 w3 w4 w5)
  case iastore =>
    obtain ⟨x, i, a, r, vs, e1, hh, ha, hi, hl, e0⟩ := px_iast_inv h
    subst e1
    cases e0
    obtain ⟨-, har, -⟩ := w1.2.2.2 a _ hh
    obtain ⟨cell, q1, q2, q3, q40, q5, -⟩ := har (show (10 : Nat) ≤ 10 by decide) (show (10 : Nat) ≤ 20 by decide)
    have q4 := q40 (show (10 : Nat) ≠ 20 by decide)
    have q6 : ¬ cell.slots.size ≤ i.toNatClampNeg := by rw [q4]; simp; omega
    refine W.iast hx hb q1 (B.arr q2) q3 (fun z => z.elim hi q6) rfl rfl hd (fun H1 e1 e2 e3 => ?_)
    exact K H1 _ ls cells slots (px_put_ar C w1 ha (by decide) (by decide) hh q2 q3 q4 q5 (v := .int x) e1 e2 e3) (px_new_base ha w2) w3 (by rw [w4]; simp [px_set]) (by rw [w5]; exact (px_sz_set hh).symm)
  case lastore =>
    obtain ⟨x, i, a, r, vs, e1, hh, ha, hi, hl, e0⟩ := px_last_inv h
    subst e1
    cases e0
    obtain ⟨-, har, -⟩ := w1.2.2.2 a _ hh
    obtain ⟨cell, q1, q2, q3, q40, q5, -⟩ := har (show (10 : Nat) ≤ 11 by decide) (show (11 : Nat) ≤ 20 by decide)
    have q4 := q40 (show (11 : Nat) ≠ 20 by decide)
    have q6 : ¬ cell.slots.size ≤ i.toNatClampNeg := by rw [q4]; simp; omega
    refine W.last hx hb q1 (B.arr q2) q3 (fun z => z.elim hi q6) rfl rfl hd (fun H1 e1 e2 e3 => ?_)
    exact K H1 _ ls cells slots (px_put_ar C w1 ha (by decide) (by decide) hh q2 q3 q4 q5 (v := .long x) e1 e2 e3) (px_new_base ha w2) w3 (by rw [w4]; simp [px_set]) (by rw [w5]; exact (px_sz_set hh).symm)
  case bastore =>
    obtain ⟨x, i, a, r, vs, e1, hh, ha, hi, hl, hnw, e0⟩ := px_zast_inv h
    subst e1
    cases e0
    obtain ⟨-, har, -⟩ := w1.2.2.2 a _ hh
    obtain ⟨cell, q1, q2, q3, q40, q5, -⟩ := har (show (10 : Nat) ≤ 12 by decide) (show (12 : Nat) ≤ 20 by decide)
    have q4 := q40 (show (12 : Nat) ≠ 20 by decide)
    have q6 : ¬ cell.slots.size ≤ i.toNatClampNeg := by rw [q4]; simp; omega
    refine W.zast hx hb q1 (B.arr q2) q3 (fun z => z.elim hi q6) rfl rfl hd (fun H1 e1 e2 e3 => ?_)
    rw [hnw] at e1
    exact K H1 _ ls cells slots (px_put_ar C w1 ha (by decide) (by decide) hh q2 q3 q4 q5 (v := .int x) e1 e2 e3) (px_new_base ha w2) w3 (by rw [w4]; simp [px_set]) (by rw [w5]; exact (px_sz_set hh).symm)
  case aastore =>
    obtain ⟨b, i, a, r, vs, us, e1, hh, hu, ha, hi, hl, e0⟩ := px_aast_inv h
    subst e1
    cases e0
    obtain ⟨-, har, -⟩ := w1.2.2.2 a _ hh
    obtain ⟨cell, q1, q2, q3, q40, q5, -⟩ := har (show (10 : Nat) ≤ 13 by decide) (show (13 : Nat) ≤ 20 by decide)
    have q4 := q40 (show (13 : Nat) ≠ 20 by decide)
    obtain ⟨cb, o1, o2, o3, -⟩ := (w1.2.2.2 b _ hu).1 (show (1 : Nat) < 5 by decide)
    obtain ⟨kA, comp, f1, f2, f3, -⟩ := C.2.2.1
    obtain ⟨kA1, f1s, fe⟩ := hW0.alike.2.2 _ _ f1
    obtain ⟨-, hfc, kC, hkC, hkind⟩ := C.kn B (t := 1) (by decide)
    have hcp : D.1 1 = comp := Option.some.inj (hfc.symm.trans (by rw [hW0.alike.findClass]; exact f3))
    have q6 : i.toNatClampNeg < cell.slots.size := by rw [q4]; simp; exact hl
    refine W.aast (t := .object "ColourSums$Form") (k := kA1) (comp := comp) (kv := kC) (kcomp := kC) (cv := cb) hx hb q1 (fun q => q2.1 q) q3 (by rw [q5 rfl]; exact f1s) (by rw [fe]; exact f2) rfl (by rw [← hcp]; exact hkC) ⟨hi, q6⟩ o1 (fun q => by rw [o3]; exact fun z => by cases z) (by rw [o2]; exact hkC) (by rw [o2, hcp]; exact px_asg _ _) rfl rfl hd (fun H1 e1 e2 e3 => ?_)
    exact K H1 _ ls cells slots (px_put_ar C w1 ha (by decide) (by decide) hh q2 q3 q4 q5 (v := .ref b) e1 e2 e3) (px_new_base ha w2) w3 (by rw [w4]; simp [px_set]) (by rw [w5]; exact (px_sz_set hh).symm)
  case arraylength =>
    obtain ⟨a, r, t, vs, e1, hh, h1, h2, e0⟩ := px_alen_inv h
    subst e1
    cases e0
    obtain ⟨-, har, -⟩ := w1.2.2.2 a _ hh
    obtain ⟨cell, q1, q2, q3, -, q5⟩ := (har h1 h2).rd
    exact W.alen hx hb q1 (B.arr q2) q5 rfl rfl hd (K H locs ls cells slots w1 w2 w3 w4 w5)
  case getfield idx =>
    obtain ⟨a, r, ci, k, ps, ne, vs, v, e1, hq, hh, hv, e0⟩ := px_getf_inv h
    subst e1
    cases e0
    obtain ⟨h5, hk, hps⟩ := px_fl_ok _ hq
    obtain ⟨cell, q1, q2, q3, -, q4⟩ := (w1.2.2.2 a _ hh).1 h5
    obtain ⟨hS, hfc, kC, hkC, hkind⟩ := C.kn B h5
    obtain ⟨cf, kf, fi, fd, hfi, hsl⟩ := hS k hk
    rw [px_dcl_ok ci h5 k hk] at hfi
    have hst := (u_facts hfc hkC (by have := u_lays (args := args) (C.hts B) (px_lay_ok ci h5) hk; rw [px_dcl_ok ci h5 k hk] at this; exact this) hfi).1
    by_cases hne : ne = 0
    · subst hne
      refine W.getf hx hb hown (C.w B (px_in hps rfl)) hfi hst q1 (by rw [q3]; exact fun z => by cases z) (by rw [hsl]; exact q4 k v hv) rfl rfl hd (K H locs ls cells slots w1 w2 w3 w4 w5)
    · simp only [hne, if_false] at hps
      refine va_Wgetf hx hb hown (va_any rfl (va_Nw.warmF hW0 (va_any rfl (C.1 _ (List.mem_of_getElem? hps))))) hfi hst q1 (by rw [q3]; exact fun z => by cases z) (by rw [hsl]; exact q4 k v hv) rfl rfl hd (K H locs ls cells slots w1 w2 w3 w4 w5)
  case putfield idx =>
    obtain ⟨v, a, r, ci, k, ps, vs, e1, hq, hh, ha, hkl, hnar, hfit, hfin, e0⟩ := px_putf_inv h
    subst e1
    cases e0
    obtain ⟨h5, hk, hps⟩ := px_fl_ok _ hq
    obtain ⟨cell, q1, q2, q3, qn, q4⟩ := (w1.2.2.2 a _ hh).1 h5
    obtain ⟨hS, hfc, kC, hkC, hkind⟩ := C.kn B h5
    obtain ⟨cf, kf, fi, fd, hfi, hsl⟩ := hS k hk
    have hdc := px_dcl_ok ci h5 k hk
    have hlay := C.hts B (args := args) _ (px_lay_ok ci h5 _ (u_in_lay hk))
    have hst := (u_facts hfc hkC (u_lays (args := args) (C.hts B) (px_lay_ok ci h5) hk) hfi).1
    obtain ⟨v0, hv0⟩ : ∃ v0, vs[k]? = some v0 := ⟨_, List.getElem?_eq_getElem hkl⟩
    have hlt : fd.slot < cell.slots.size := by rw [hsl]; exact k2_hasslot (q4 k v0 hv0)
    have key : ∀ H1 : Heap, H1[px_ad od S0.heap.size a]? = some (cell.setSlot fd.slot (px_ren (px_ad od S0.heap.size) v)) → H1.size = H.size → (∀ q, q ≠ px_ad od S0.heap.size a → H1[q]? = H[q]?) →
        W p l e R s m args below meth c H1 (locs ++ [⟨px_ad od S0.heap.size a, fd.slot⟩]) cells slots Q (F0 m (pc + 3) ls (r.map (px_ren (px_ad od S0.heap.size)))) := by
      intro H1 e1 e2 e3
      refine K H1 _ ls cells slots (w1.set C.odl ha (c' := (ci, vs.set k v)) ⟨fun _ => ?_, fun z => absurd h5 (by show ¬ ci < 5; have : 10 ≤ ci := z; omega), Or.inl h5⟩ e2 e3) (px_new_base ha w2) w3 (by rw [w4]; simp [px_set]) (by rw [w5]; exact (px_sz_set hh).symm)
      refine ⟨_, e1, q2, q3, by simpa using qn, fun x w hw => ?_⟩
      have hxl : x < vs.length := by
        have := (List.getElem?_eq_some_iff.mp hw).1
        simpa using this
      by_cases hxk : x = k
      · subst hxk
        have hw' : (vs.set x v)[x]? = some w := hw
        rw [List.getElem?_set_self hkl] at hw'
        cases hw'
        rw [← hsl]
        exact Cell.slots_setSlot_self _ hlt
      · have hw' : (vs.set k v)[x]? = some w := hw
        rw [List.getElem?_set_ne (Ne.symm hxk)] at hw'
        rw [slot_ne _ _ (by rw [hsl]; exact C.apart B h5 k x hk (by rw [← qn]; exact hxl) (Ne.symm hxk))]
        exact q4 x w hw'
    have hlink : (Cond.fieldLink (px_R (px_cn j)) idx (px_R ci) (px_T ci k).2.1 (px_T ci k).2.2.1).before args s = true := C.w B (px_in hps rfl)
    by_cases hf : (px_T ci k).2.2.2 = true
    · have hfin' := hfin ((px_fin_eq ci k).trans hf)
      unfold u_lay at hlay
      rw [if_pos hf] at hlay
      have h6 := u_fits hfc hkC hkind (Or.inr hlay) hfi (px_ty_ok ci h5 k hk) (px_nar (ad := px_ad od S0.heap.size) hnar) (px_fit (ad := px_ad od S0.heap.size) hfit)
      have hcf : m.cls = cf := by
        obtain ⟨_, _, c', _, _, _, -, -, hf', -, -, -, hown2, -⟩ := Cond.laysFinal_spec hlay
        have e1 : c' = cf := by have := hfi.symm.trans hf'; simp at this; exact this.1.symm
        rw [hdc, ← hfin'.2] at hown2
        rw [← e1]; exact Option.some.inj (hown.symm.trans hown2)
      rw [hdc] at hfi
      exact W.putFinK hx hb hown hlink hfi hst hcf (hnm hfin'.1) (by rw [q2]; exact h6) q1 q3 hlt rfl rfl hd key
    · unfold u_lay at hlay
      rw [if_neg hf] at hlay
      have h6 := u_store hfc hkC hkind hlay hfi (px_ty_ok ci h5 k hk) (px_nar (ad := px_ad od S0.heap.size) hnar) (px_fit (ad := px_ad od S0.heap.size) hfit)
      rw [hdc] at hfi
      exact W.putK hx hb (f := fd) ⟨hown, hlink, ⟨_, _, _, hfi⟩, hst⟩ (by rw [q2]; exact h6) q1 q3 hlt rfl rfl hd key
  case getstatic idx =>
    simp only [px_step, px_gets] at h
    split at h
    · rename_i n ps hq
      cases h
      obtain ⟨n1, n2, hps⟩ := px_sl_ok _ (px_lk_mem hq)
      obtain ⟨cf, kf, fi, fd, a, cell, z1, z2, z3, z4, z5, z6, z7, z8⟩ := va_Z.moved hW0.alike (C.2.2.2.2.1 n n1 n2)
      have hn : px_ad od S0.heap.size n = od n := px_ad_old (Nat.lt_of_le_of_lt (show n ≤ 6 from n2) (by decide))
      refine W.gets hx hb hown (C.w B (px_in hps rfl)) z1 z2 z3 z4 (by rw [w1.2.2.1 a (Nat.not_le.mp z8)]; exact z5) (fun z => by rw [z] at z6; cases z6) z7 rfl hd ?_
      rw [← hn]
      exact K H locs ls cells slots w1 w2 w3 w4 w5
    · cases h
  case newarray at_ =>
    simp only [px_step, px_newa] at h
    split at h
    · rename_i n r
      split at h
      · rename_i t z hz
        split at h
        · rename_i hn
          cases h
          have hty : px_ty t = newarray.typeOf at_ ∧ 10 ≤ t ∧ t ≤ 12 ∧ z = defaultValue (newarray.typeOf at_) ∧ Cond.arrayClass (newarray.typeOf at_) ∈ px_PT ∧ (∀ ad, px_ren ad z = z) ∧ componentBytes (newarray.typeOf at_) ≤ 8 := by
            cases at_ <;> simp only [px_at_] at hz <;> cases hz
            · exact ⟨rfl, by decide, by decide, rfl, px_in (i := 128) rfl rfl, fun _ => rfl, by decide⟩
            · exact ⟨rfl, by decide, by decide, rfl, px_in (i := 102) rfl rfl, fun _ => rfl, by decide⟩
            · exact ⟨rfl, by decide, by decide, rfl, px_in (i := 103) rfl rfl, fun _ => rfl, by decide⟩
          obtain ⟨t1, t2, t3, t4, t5, t6, t7⟩ := hty
          have hl1 : (hp ++ [(t, List.replicate n.toNatClampNeg z)]).length ≤ k0 + R.cells := hr1
          have hl2 : px_sz (hp ++ [(t, List.replicate n.toNatClampNeg z)]) ≤ z0 + R.slots := hr2
          rw [px_sz_app] at hl2
          simp [px_sz] at hl1 hl2
          refine W.newa hx hb (C.w B t5) rfl hd rfl hn.1 (Nat.le_trans (Nat.mul_le_mul hn.2 t7) (by decide)) (by omega) (by simp only [px_sz] at w5; omega) (fun cA kA comp h1 h2 h3 => ?_)
          have hw := w1.app (H1 := H.push { cls := cA, slots := Array.replicate n.toNatClampNeg (defaultValue (newarray.typeOf at_)), vm := .none }) C.odl [(t, List.replicate n.toNatClampNeg z)] (fun i c hc => by
            have hi : i = 0 := by
              have := (List.getElem?_eq_some_iff.mp hc).1
              simp at this; exact this
            subst hi
            cases hc
            refine ⟨fun h => absurd h (by show ¬ t < 5; omega), fun _ _ => ⟨{ cls := cA, slots := Array.replicate n.toNatClampNeg (defaultValue (newarray.typeOf at_)), vm := .none }, by simp, B.arr' ⟨fun k z => (by cases z), kA, h2, comp, by rw [t1]; exact h3⟩, fun z => (by cases z), fun _ => ?_, fun z => absurd z (by show ¬ t = 13; omega), fun z => absurd z (by show ¬ t = 20; omega)⟩, Or.inr t2⟩
            rw [← t4]
            simp [t6]) (by simp) (fun q hq => by rw [Array.getElem?_push, if_neg (Nat.ne_of_lt hq)])
          have hK := K _ locs ls (cells + 1) (slots + n.toNatClampNeg) hw w2 w3 (by simp; omega) (by rw [px_sz_app]; simp [px_sz] at w5 ⊢; omega)
          rw [List.map_cons] at hK
          simp only [px_ren, w1.hpl] at hK
          exact hK
        · cases h
      · cases h
    · cases h
  case anewarray idx =>
    simp only [px_step, px_anew] at h
    split at h
    · rename_i n r
      split at h
      · rename_i hn
        cases h
        obtain ⟨n1, rfl, n3, n4⟩ := hn
        have hl1 : (hp ++ [(13, List.replicate n.toNatClampNeg Value.null)]).length ≤ k0 + R.cells := hr1
        have hl2 : px_sz (hp ++ [(13, List.replicate n.toNatClampNeg Value.null)]) ≤ z0 + R.slots := hr2
        rw [px_sz_app] at hl2
        simp [px_sz] at hl1 hl2
        have hown3 : s.vm.findClass RX3 = some m.cls := by rw [n1] at hown; exact hown
        refine W.anew (C := "ColourSums$Form") hx hb hown3 (C.w B (px_in (i := 68) rfl rfl)) (va_AO.use (va_AO.moved hW0.alike (va_AO.of (C.1 _ (List.mem_of_getElem? (i := 69) rfl))))) rfl hd rfl n3 (by omega) (by omega) (by simp only [px_sz] at w5; omega) (fun cA kA comp h1 h2 h3 h4 => ?_)
        have hw := w1.app (H1 := H.push { cls := cA, slots := Array.replicate n.toNatClampNeg .null, vm := .none }) C.odl [(13, List.replicate n.toNatClampNeg Value.null)] (fun i c hc => by
          have hi : i = 0 := by
            have := (List.getElem?_eq_some_iff.mp hc).1
            simp at this; exact this
          subst hi
          cases hc
          refine ⟨fun h => absurd h (by show ¬ (13 : Nat) < 5; decide), fun _ _ => ⟨{ cls := cA, slots := Array.replicate n.toNatClampNeg .null, vm := .none }, by simp, B.arr' ⟨fun k z => (by cases z), kA, h2, comp, h3⟩, fun z => (by cases z), fun _ => ?_, fun _ => ?_, fun z => absurd z (by show ¬ (13 : Nat) = 20; decide)⟩, Or.inr (by show (10 : Nat) ≤ 13; decide)⟩
          · simp [px_ren]
          · obtain ⟨_, _, _, _, _, f4⟩ := C.2.2.1
            exact Option.some.inj ((h1.symm.trans (by rw [hW0.alike.findClass]; exact f4)))) (by simp) (fun q hq => by rw [Array.getElem?_push, if_neg (Nat.ne_of_lt hq)])
        have hK := K _ locs ls (cells + 1) (slots + n.toNatClampNeg) hw w2 w3 (by simp; omega) (by rw [px_sz_app]; simp [px_sz] at w5 ⊢; omega)
        rw [List.map_cons] at hK
        simp only [px_ren, w1.hpl] at hK
        exact hK
      · cases h
    · cases h
  case new idx =>
    simp only [px_step, px_new] at h
    split at h
    · split at h <;> cases h
    · split at h
      · rename_i t ps hq
        cases h
        obtain ⟨h5, hps⟩ := px_cl_ok _ (px_lk_mem hq)
        obtain ⟨i1, i2⟩ := px_inst_ok t h5
        obtain ⟨d1, d2⟩ := px_df_ok t h5
        have hl1 : (hp ++ [(t, px_df t)]).length ≤ k0 + R.cells := hr1
        have hl2 : px_sz (hp ++ [(t, px_df t)]) ≤ z0 + R.slots := hr2
        rw [px_sz_app] at hl2
        simp [px_sz, d1] at hl1 hl2
        have hkn := C.kn B h5
        refine W.newcK hx hb hown (C.w B (px_in hps rfl)) (C.w B i1) (C.w B i2) rfl hd (by omega) (by simp only [px_sz] at w5; omega) hkn.2.1 rfl (fun H1 kC h1 h2 h3 h4 => ?_)
        obtain ⟨cell, b1, b2, b3, b4⟩ := u_born (px_ft t) (args := args) (C.hts B) (px_lay_ok t h5) hkn h1 h2 (px_ty_ok t h5)
        have hw := w1.app (H1 := H1) C.odl [(t, px_df t)] (fun i c hc => by
          have hi : i = 0 := by
            have := (List.getElem?_eq_some_iff.mp hc).1
            simp at this; exact this
          subst hi
          cases hc
          refine ⟨fun _ => ⟨cell, b1, b2, b3, d1, fun x v hv => ?_⟩, fun z => absurd h5 (by show ¬ t < 5; have : 10 ≤ t := z; omega), Or.inl h5⟩
          have hx9 : x < px_nf t := by rw [← d1]; exact (List.getElem?_eq_some_iff.mp hv).1
          have hv' : (px_df t)[x]? = some v := hv
          rw [d2 x hx9] at hv'
          cases hv'
          rw [b4 x hx9]
          rw [px_ren_dv]) (by rw [h3]; rfl) (fun q hq => h4 q hq)
        have hK := K _ locs ls (cells + 1) (slots + px_nf t) hw w2 w3 (by simp; omega) (by rw [px_sz_app]; simp [px_sz, d1] at w5 ⊢; omega)
        rw [List.map_cons] at hK
        simp only [px_ren, w1.hpl] at hK
        exact hK
      · cases h
  case invokestatic idx =>
    simp only [px_step, px_invs] at h
    split at h
    · rename_i j' ps hq
      have hlk2 := px_ml_ok _ (px_lk_mem hq)
      split at h
      · rename_i hj
        simp only [px_math] at h
        split at h
        · rename_i y x r
          split at h
          · rename_i h8
            cases h
            have h8' : (r.map fun v => v.category).sum ≤ 8 := of_decide_eq_true h8
            rw [← px_cats (px_ad od S0.heap.size)] at h8'
            rcases hj with rfl | rfl
            · exact va_mmax hx hb (hml.trans w3.1.symm) hown (C.w B (px_in hlk2 rfl)) (C.w B (px_in (px_k0_ok 2 (by decide) (by decide) rfl) rfl)) (C.w B (px_in (px_in_ok 2 (by decide)).1 rfl)) (C.w B (px_in (px_pc_ok 2 (by decide) (by decide)) rfl)) (by omega) (by omega) (by have : hp.length ≤ k0 + R.cells := hr1; omega) (by have : px_sz hp ≤ z0 + R.slots := hr2; omega) hd (K H locs ls cells slots w1 w2 w3 w4 w5)
            · exact va_mmin hx hb (hml.trans w3.1.symm) hown (C.w B (px_in hlk2 rfl)) (C.w B (px_in (px_k0_ok 3 (by decide) (by decide) rfl) rfl)) (C.w B (px_in (px_in_ok 3 (by decide)).1 rfl)) (C.w B (px_in (px_pc_ok 3 (by decide) (by decide)) rfl)) (by omega) (by omega) (by have : hp.length ≤ k0 + R.cells := hr1; omega) (by have : px_sz hp ≤ z0 + R.slots := hr2; omega) hd (K H locs ls cells slots w1 w2 w3 w4 w5)
          · cases h
        · cases h
      · split at h
        · simp only [px_call] at h
          split at h <;> cases h
        · cases h
    · cases h
  case invokespecial idx =>
    simp only [px_step, px_invi] at h
    split at h
    · rename_i ps hq
      split at h
      · rename_i a r
        split at h
        · rename_i h8
          cases h
          have h8' : (r.map fun v => v.category).sum ≤ 8 := of_decide_eq_true h8
          rw [← px_cats (px_ad od S0.heap.size)] at h8'
          exact W.objInit hx hb hown (C.w B (px_in (px_oi_ok _ (px_lk_mem hq)) rfl)) (C.w B (px_in (i := 60) rfl rfl)) (C.w B (px_in (i := 61) rfl rfl)) rfl (w3.1.trans hml.symm) rfl hd (by omega) (by show 2 * 0 + _ + 12 ≤ _; omega) (K H locs ls cells slots w1 w2 w3 w4 w5)
        · cases h
      · cases h
    · split at h
      · split at h
        · split at h
          · simp only [px_call] at h
            split at h <;> cases h
          · cases h
        · cases h
      · cases h
  case multianewarray idx dims =>
    exact px_mna_sound C B hd h hr1 hr2 K H locs ls cells slots w1 w2 w3 w4 w5
  case invokevirtual idx =>
    simp only [px_step, px_invv] at h
    split at h
    · split at h
      · split at h
        · split at h
          · simp only [px_call] at h
            split at h <;> cases h
          · cases h
        · cases h
      · cases h
    · cases h
  case ireturn =>
    simp only [px_step, px_end] at h
    split at h
    · split at h
      · split at h <;> cases h
      · cases h
    · cases h
  case lreturn =>
    simp only [px_step, px_end] at h
    split at h
    · split at h <;> cases h
    · cases h
  case areturn =>
    simp only [px_step, px_end] at h
    split at h
    · split at h <;> cases h
    · cases h
  case return_ =>
    simp only [px_step, px_end] at h
    split at h
    · split at h <;> cases h
    · cases h
  all_goals (cases h)
end PXS
end
section
/-! 'throw new E("text")': the kit's row vx_throwS (printed among the names), with the heap's size behind it exact -/
section PXT
variable {p : Program} {l : Launch} {e : Env} {R : Room} {s : State} {m : MethodId} {args : Array Value} {below : List Frame} {meth : Method} {c : Code} {H : Heap} {locs : List Loc} {cells slots : Nat} {Q : State → Prop}
variable {free : Addr → Prop} {ls : Array Slot} {rest : List Value}
variable {Qc : Array Value → State → Outcome → State → Prop} {XC : String → State → State → Prop}
theorem px_throwS {cc : ByteArray} {pc : Nat} (hexec : p.tables.exec = Jvm.exec) (hb : c.code = cc) (hl : l.stackTraces = false) {own cls text : String} {names : List String} {ik is ic mc ms sa : Nat} {A : Nat → Prop}
    (hown : s.vm.findClass own = some m.cls) (hcls : Bundle.fit cls = true) (hnames : ∀ n ∈ names, Bundle.fit n = true)
    (hk : (Cond.classLink own ik cls).before args s = true) (hini : (Cond.initialized cls).before args s = true) (hstr : vk_R own is text sa s) (hat : ∀ w ∈ vx_atS own ic cls names, w.before args s = true)
    (hgood : ∀ w ∈ Cond.classLink own ik cls :: Cond.initialized cls :: vx_atS own ic cls names, vx_ot w = true)
    (hU : vx_Zq Bundle.tN "UNASSIGNED_STACK" Bundle.steD A s s.heap) (hN : vx_Zq Bundle.tN "SUPPRESSED_SENTINEL" Bundle.listD A s s.heap) (hS : va_S A s.heap H locs) (hsize : ls.size = c.maxLocals)
    (d0 : decode cc pc = .ok (.new ik, 3)) (d3 : decode cc (pc + 3) = .ok (.dup, 1)) (d4 : decode cc (pc + 4) = .ok (.ldc is, 2)) (d6 : decode cc (pc + 6) = .ok (.invokespecial ic, 3)) (d9 : decode cc (pc + 9) = .ok (.athrow, 1))
    (hout : ∀ x ∈ c.exceptionTable.toList, covers x (pc + 9) = false)
    (hRframes : names.length + 3 < R.frames) (hRlocals : (rest.map fun v => v.category).sum + (13 * (names.length + 1) + 43) ≤ R.locals) (hRcells : cells + 1 ≤ R.cells) (hRslots : slots + 6 ≤ R.slots) (hlocks : meth.locks = false)
    (hx : ∀ t : State, s.vm.Alike t.vm → t.heap.size = H.size + 1 → (∀ q : Nat, q < H.size → t.heap[q]? = H[q]?) → XC cls s t)
    (hf : ∀ z ∈ locs, free z.base) (hc : cells + 1 ≤ mc) (hs : slots + 6 ≤ ms) :
    W p l e R s m args below meth c H locs cells slots (vx_MQ below Qc XC args s mc ms free) (F0 m pc ls rest) := by
  intro T hT X
  have htr : e.platform.stackTraces = false := (show e.platform.stackTraces = l.stackTraces by rw [X.admits.platform]).trans hl
  have Y := vx_rebase X (R' := { frames := R.frames, locals := R.locals, cells := 1, slots := 6 }) (Nat.le_refl _) (Nat.le_refl _) hRcells hRslots
  obtain ⟨s', hA⟩ : ∃ z, z = (T.setVm s.vm).setFrames (.invoking m args :: below) := ⟨_, rfl⟩
  rw [← hA] at Y
  have hvm : s'.vm = s.vm := by rw [hA]; rfl
  have hhp : s'.heap = H := by rw [hA]; exact hT
  have hW0 : s.WarmedH s'.vm := by rw [hvm]; exact State.WarmedH.refl s
  have hat' : ∀ w ∈ vx_atS own ic cls names, w.before args s' = true := fun w hw => vx_ot_at hW0 hvm.symm (hgood w (List.mem_cons_of_mem _ (List.mem_cons_of_mem _ hw))) (hat w hw)
  have hk' : (Cond.classLink own ik cls).before args s' = true := vx_ot_at hW0 hvm.symm (hgood _ List.mem_cons_self) hk
  have hini' : (Cond.initialized cls).before args s' = true := vx_ot_at hW0 hvm.symm (hgood _ (List.mem_cons_of_mem _ List.mem_cons_self)) hini
  have hU' : vx_Zq Bundle.tN "UNASSIGNED_STACK" Bundle.steD A s' s'.heap := by rw [hhp]; exact vx_Zq.moved hW0.alike (hU.kept hS.2.1)
  have hN' : vx_Zq Bundle.tN "SUPPRESSED_SENTINEL" Bundle.listD A s' s'.heap := by rw [hhp]; exact vx_Zq.moved hW0.alike (hN.kept hS.2.1)
  have h : ∀ w ∈ Bundle.ownAtoms own ic cls names, w.before args s' = true := vx_own hat' (vx_isRefq hU'.1) (vx_isRefq hN'.1) hU'.2.word hN'.2.word
  have hown' : s'.vm.findClass own = some m.cls := by rw [hvm]; exact hown
  have hins : (Cond.instantiable cls 6).before args s' = true := h _ (by simp [Bundle.ownAtoms])
  obtain ⟨vm₁, cX, kX, hfX, hkX, -, -, X₁, st1⟩ := Y.newCold hexec (own := own) (C := cls) (index := ik) (n := 6) hown' hk' hins hini'
    (g := F0 m pc ls rest) rfl (by rw [hb]; exact d0) (Nat.le_refl _) (Nat.le_refl _)
  generalize hT1 : (T.setVm vm₁).pushCell { cls := cX, slots := kX.instanceTypes.map defaultValue, vm := .none } = T1 at X₁ st1
  have hcat : (Value.ref T.heap.size).category = 1 := rfl
  have hcellA : T1.heap[T.heap.size]? = some (freshCell cX kX) := by rw [← hT1]; exact State.heap_pushCell_size _ _
  have d3' : decode c.code (pc + 3) = .ok (.dup, 1) := by rw [hb]; exact d3
  have d4' : decode c.code (pc + 4) = .ok (.ldc is, 2) := by rw [hb]; exact d4
  have hstr' : vk_R own is text sa s' := vk_R.warm hW0 hstr
  obtain ⟨U, hsteps, hrun, hend, hW, hsame, ce, hce, hO⟩ := X₁.ctorThrowS hexec htr (own := own) (cls := cls) (names := names) (ic := ic) hown' hcls hnames h (fun x hx => nomatch hx) hfX hkX hcellA (by rw [hhp, hT]; exact Nat.le_refl _) (msg := .ref sa) rfl
    (g := { method := m, pc := pc + 6, locals := ls, stack := .ref sa :: .ref T.heap.size :: .ref T.heap.size :: rest, locked := none }) rfl hsize rfl rfl (rest := rest) rfl
    (by rw [hb]; exact d6) (by rw [hb]; exact d9) hout hRframes (by simp only [List.map_cons, List.sum_cons, hcat]; omega) hlocks
  obtain ⟨f1, f2⟩ := vx_frame hsame
  rw [hhp] at f1 f2
  have fsz : U.heap.size = H.size + 1 := by
    have h1 : U.heap.size ≤ s'.heap.size + (0 + 1) := hsame.2.2.1
    have h2 : T.heap.size < U.heap.size := (Array.getElem?_eq_some_iff.mp hce).1
    rw [hhp] at h1
    rw [hT] at h2
    omega
  have hWs : s.WarmedH U.vm := State.WarmedH.trans hW0 hW
  have hcl : s.vm.findClass cls = some ce.cls := by
    have h9 := hO.cls
    rw [hvm] at h9
    exact h9
  have hall : s.sameButNew ({ U with vm := s.vm } : State) locs mc ms := by
    subst hA
    obtain ⟨e1, e2⟩ := hsame
    rw [State.setFrames_setFrames] at e1
    have h2 : (T.setVm s.vm).sameButNew ({ U with vm := s.vm } : State) [] (0 + 1) (0 + 6) := ⟨e1, e2⟩
    have h3 := X.same.trans h2
    rw [List.append_nil] at h3
    exact h3.mono hc hs
  refine ⟨U, ?_, .threw T.heap.size, hrun, hend, Or.inr ⟨T.heap.size, rfl, cls, ce, locs, hx U hWs.alike fsz (fun q hq => f2 q hq (fun z hz => nomatch hz)), hce, hO.vm, hcl, hWs, hall, hf⟩⟩
  refine st1 _ ?_
  show Steps p.tables e below (T1.setTop { method := m, pc := pc + 3, locals := ls, stack := .ref T.heap.size :: rest, locked := none }) _
  jvm_step X₁.here [X₁.here.top, hexec, d3', Value.category]
  exact X₁.ldcString hexec (own := own) (text := text) (index := is) (a := sa) hown' hstr'.1 hstr'.2
    (g := { method := m, pc := pc + 4, locals := ls, stack := .ref T.heap.size :: .ref T.heap.size :: rest, locked := none }) rfl d4' _ hsteps
end PXT
def px_gw (w : Cond) : Bool := match w with
  | .declares _ => true
  | .native _ => true
  | .castable _ _ => true
  | w => goodWord w
theorem px_ow {A0 args : Array Value} {S0 s : State} (hW : S0.WarmedH s.vm) {w : Cond} (h : w.before A0 S0 = true) (hk : px_gw w = true) : w.before args s = true := by
  have tr : ∀ {c : Cond}, c.onTables = true → c.before A0 (S0.setVm s.vm) = true → c.before args s = true := by
    intro c hc h
    have e := Cond.onTables_vm (A := A0) (A' := args) (U := S0) (U' := s) s.vm c hc
    have hU : s.setVm s.vm = s := rfl
    rw [hU] at e
    rw [← e]
    exact h
  cases w with
  | declares x => exact tr rfl (by rw [Cond.declares_setVm hW.alike]; exact h)
  | native x => exact tr rfl (by rw [Cond.native_setVm hW.alike]; exact h)
  | castable C T => exact tr rfl (by rw [Cond.castable_setVm hW.alike]; exact h)
  | _ => exact word_at hW (good_of_word hk) h
def px_xA : String := "java/lang/ArrayIndexOutOfBoundsException"
def px_xI : String := "java/lang/IllegalArgumentException"
def px_nA : List String := ["java/lang/IndexOutOfBoundsException", "java/lang/RuntimeException", "java/lang/Exception"]
def px_nI : List String := ["java/lang/RuntimeException", "java/lang/Exception"]
theorem px_xA_ok : ∀ w ∈ vx_atS RX3 166 px_xA px_nA, w ∈ lw_tbl ∧ px_gw w = true ∧ vx_ot w = true := by decide +kernel
theorem px_xI_ok : ∀ w ∈ vx_atS RX3 83 px_xI px_nI, w ∈ lw_tbl ∧ px_gw w = true ∧ vx_ot w = true := by decide +kernel
end
section
/-! ends, calls, and the soundness of a run -/
def px_Qc (S0 : State) (D : va_G) (od : Nat → Nat) (r : px_E) : Array Value → State → Outcome → State → Prop := fun _ _ o t => ∃ v, r.1 = .inl v ∧ o = .returned (v.map (px_ren (px_ad od S0.heap.size))) ∧ px_W S0 D od r.2 t.heap
def px_XC (S0 : State) (D : va_G) (od : Nat → Nat) (r : px_E) : String → State → State → Prop := fun E _ t => r.1 = .inr E ∧ px_W S0 D od r.2 t.heap
def px_ws (j : Nat) : List Cond := [if px_hh j = [] then .code (px_y j) (px_c j) (px_ml j) (px_rt j) else .codeWith (px_y j) (px_c j) (px_ml j) (px_rt j) (px_hh j)]
def px_Pc (S0 : State) (D : va_G) (od : Nat → Nat) (as : List Value) (hp : px_H) : Array Value → State → Prop := fun a U => a = (as.map (px_ren (px_ad od S0.heap.size))).toArray ∧ px_W S0 D od hp U.heap ∧ S0.WarmedH U.vm
def px_rm (d mc ms : Nat) : Room := { frames := d + 7, cells := mc, slots := ms, locals := 60 * d + 120 }
section PXE
variable {l : Launch} {S0 : State} {A0 : Array Value} {D : va_G} {od sa : Nat → Nat} {p : Program} {e : Env} {R : Room} {s : State} {m : MethodId} {args : Array Value} {below : List Frame} {meth : Method} {c : Code} {j d k0 z0 mc ms : Nat}
theorem px_zq (C : px_Cx l S0 A0 D od sa) (B : px_B S0 j d k0 p R s m meth c) : vx_Zq Bundle.tN "UNASSIGNED_STACK" Bundle.steD (px_A S0) s s.heap ∧ vx_Zq Bundle.tN "SUPPRESSED_SENTINEL" Bundle.listD (px_A S0) s s.heap := by
  obtain ⟨hx, hb, hml, hown, hrt, hlk, hnm, hW0, het, hfr, hlo, hsz, hk8, hold⟩ := id B
  obtain ⟨-, -, -, -, -, h1, h2, -⟩ := C
  exact ⟨(vx_Zq.moved hW0.alike h1).kept (fun a ha _ => hold a ha), (vx_Zq.moved hW0.alike h2).kept (fun a ha _ => hold a ha)⟩
/-- 'throw new ..' -/
theorem px_thr_sound (C : px_Cx l S0 A0 D od sa) (B : px_B S0 j d k0 p R s m meth c) {pc : Nat} {lv : px_L} {st : List Value} {hp : px_H} {r : px_E} {cls text : String} {names : List String} {ik is ic t0 : Nat} (hcn : px_cn j = 3) (hhh : px_hh j = [])
    (hcls : Bundle.fit cls = true) (hnames : ∀ n ∈ names, Bundle.fit n = true) (hnl : names.length ≤ 3) (hk : Cond.classLink RX3 ik cls ∈ px_PT) (hini : Cond.initialized cls ∈ px_PT) (hstr : vk_R RX3 is text t0 S0) (hat : ∀ w ∈ vx_atS RX3 ic cls names, w ∈ lw_tbl ∧ px_gw w = true ∧ vx_ot w = true)
    (d0 : decode (px_c j) pc = .ok (.new ik, 3)) (d3 : decode (px_c j) (pc + 3) = .ok (.dup, 1)) (d4 : decode (px_c j) (pc + 4) = .ok (.ldc is, 2)) (d6 : decode (px_c j) (pc + 6) = .ok (.invokespecial ic, 3)) (d9 : decode (px_c j) (pc + 9) = .ok (.athrow, 1))
    (h8 : px_ok8 st = true) (hr : r = (.inr cls, hp ++ [(30, List.replicate 6 .null)])) (hmc : k0 + mc = r.2.length) (hms : z0 + ms = px_sz r.2) (hRc : mc ≤ R.cells) (hRs : ms ≤ R.slots) :
    px_G S0 D od p l e R s m args below meth c (vx_MQ below (px_Qc S0 D od r) (px_XC S0 D od r) args s mc ms (px_A S0)) (px_ml j) k0 z0 (pc, lv, st, hp) := by
  obtain ⟨hU, hN⟩ := px_zq C B
  obtain ⟨hx, hb, hml, hown, hrt, hlk, hnm, hW0, het, hfr, hlo, hsz, hk8, hold⟩ := id B
  intro H locs ls cells slots w1 w2 w3 w4 w5
  change px_W S0 D od hp H at w1
  change lv_has ls (px_ml j) (px_rl (px_ad od S0.heap.size) lv) at w3
  change cells + k0 = hp.length at w4
  change slots + z0 = px_sz hp at w5
  subst hr
  have e1 : (hp ++ [(30, List.replicate 6 Value.null)]).length = hp.length + 1 := by simp
  have e2 : px_sz (hp ++ [(30, List.replicate 6 Value.null)]) = px_sz hp + 6 := by rw [px_sz_app]; simp [px_sz]
  change k0 + mc = (hp ++ [(30, List.replicate 6 Value.null)]).length at hmc
  change z0 + ms = px_sz (hp ++ [(30, List.replicate 6 Value.null)]) at hms
  rw [e1] at hmc
  rw [e2] at hms
  have hw1 := w1.1
  have hw2 := w1.2.1
  rw [hcn] at hown
  have h8' : (st.map fun v => v.category).sum ≤ 8 := of_decide_eq_true h8
  rw [← px_cats (px_ad od S0.heap.size)] at h8'
  refine px_throwS (A := px_A S0) (own := RX3) (cls := cls) (text := text) (names := names) (ik := ik) (is := is) (ic := ic) (sa := t0) hx hb C.2.2.2.2.2.2.2.2.2.2.1 hown hcls hnames (px_word C.1 hW0 hk) (px_word C.1 hW0 hini) (vk_R.warm hW0 hstr) (fun w hw => px_ow hW0 (C.1 w (hat w hw).1) (hat w hw).2.1) ?_ hU hN ⟨by omega, fun q hq hA => ?_, w2⟩ (w3.1.trans hml.symm) d0 d3 d4 d6 d9 ?_ (by omega) (by show (List.map (fun v => v.category) (st.map (px_ren (px_ad od S0.heap.size)))).sum + _ ≤ _; omega) (by omega) (by omega) hlk ?_ w2 (by omega) (by omega)
  · intro w hw
    rcases List.mem_cons.mp hw with rfl | hw
    · rfl
    · rcases List.mem_cons.mp hw with rfl | hw
      · rfl
      · exact (hat w hw).2.2
  · have hq0 : q < S0.heap.size := Nat.not_le.mp hA
    rw [w1.2.2.1 q hq0, hold q hq0]
  · rw [het, hhh]
    intro x hx
    cases hx
  · intro t hvm hs hq
    refine ⟨rfl, w1.app C.2.2.2.1 _ (fun i c hc => ?_) (by rw [hs]; rfl) hq⟩
    have hi : i = 0 := by
      have := (List.getElem?_eq_some_iff.mp hc).1
      simp at this; exact this
    subst hi
    cases hc
    exact ⟨fun h => absurd h (by show ¬ (30 : Nat) < 5; decide), fun _ h => absurd h (by show ¬ (30 : Nat) ≤ 20; decide), Or.inr (by show (10 : Nat) ≤ 30; decide)⟩
set_option maxRecDepth 100000 in
set_option maxHeartbeats 1000000 in
/-- a step that ends the method -/
theorem px_se (C : px_Cx l S0 A0 D od sa) (B : px_B S0 j d k0 p R s m meth c) {pc : Nat} {lv : px_L} {st : List Value} {hp : px_H} {i : Instr} {r : px_E} (hd : decode (px_c j) pc = .ok (i, px_len pc i)) (h : px_step j pc lv st hp i = some (.inr (.inl r)))
    (hmc : k0 + mc = r.2.length) (hms : z0 + ms = px_sz r.2) (hRc : mc ≤ R.cells) (hRs : ms ≤ R.slots) :
    px_G S0 D od p l e R s m args below meth c (vx_MQ below (px_Qc S0 D od r) (px_XC S0 D od r) args s mc ms (px_A S0)) (px_ml j) k0 z0 (pc, lv, st, hp) := by
  obtain ⟨hx, hb, hml, hown, hrt, hlk, hnm, hW0, het, hfr, hlo, hsz, hk8, hold⟩ := id B
  cases i
  case ireturn =>
    simp only [px_step, px_end] at h
    split at h
    · rename_i v
      split at h
      · rename_i ty hty
        split at h
        · rename_i hn
          cases h
          intro H locs ls cells slots w1 w2 w3 w4 w5
          have c1 : cells = mc := by change cells + k0 = hp.length at w4; change k0 + mc = hp.length at hmc; omega
          have c2 : slots = ms := by change slots + z0 = px_sz hp at w5; change z0 + ms = px_sz hp at hms; omega
          subst c1
          subst c2
          exact vx_ret (W.zret hx hb (hrt.trans hty) hn (fun t ht hW => ⟨some (.int v), rfl, rfl, by rw [ht]; exact w1⟩) w2 hd hlk)
        · cases h
      · cases h
    · cases h
  case lreturn =>
    simp only [px_step, px_end] at h
    split at h
    · rename_i v
      split at h
      · rename_i hty
        cases h
        intro H locs ls cells slots w1 w2 w3 w4 w5
        have c1 : cells = mc := by change cells + k0 = hp.length at w4; change k0 + mc = hp.length at hmc; omega
        have c2 : slots = ms := by change slots + z0 = px_sz hp at w5; change z0 + ms = px_sz hp at hms; omega
        subst c1
        subst c2
        exact vx_ret (W.lret hx hb (hrt.trans hty) (fun t ht hW => ⟨some (.long v), rfl, rfl, by rw [ht]; exact w1⟩) w2 hd hlk)
      · cases h
    · cases h
  case areturn =>
    simp only [px_step, px_end] at h
    split at h
    · rename_i a
      split at h
      · rename_i nm hty
        cases h
        intro H locs ls cells slots w1 w2 w3 w4 w5
        have c1 : cells = mc := by change cells + k0 = hp.length at w4; change k0 + mc = hp.length at hmc; omega
        have c2 : slots = ms := by change slots + z0 = px_sz hp at w5; change z0 + ms = px_sz hp at hms; omega
        subst c1
        subst c2
        exact vx_ret (W.aret hx hb (hrt.trans hty) (Or.inl ⟨nm, rfl⟩) (Or.inr ⟨_, rfl⟩) (fun t ht hW => ⟨some (.ref a), rfl, rfl, by rw [ht]; exact w1⟩) w2 hd hlk)
      · cases h
    · cases h
  case return_ =>
    simp only [px_step, px_end] at h
    split at h
    · split at h
      · rename_i hty
        cases h
        intro H locs ls cells slots w1 w2 w3 w4 w5
        have c1 : cells = mc := by change cells + k0 = hp.length at w4; change k0 + mc = hp.length at hmc; omega
        have c2 : slots = ms := by change slots + z0 = px_sz hp at w5; change z0 + ms = px_sz hp at hms; omega
        subst c1
        subst c2
        exact vx_ret (W.vret hx hb (hrt.trans hty) (fun t ht hW => ⟨none, rfl, rfl, by rw [ht]; exact w1⟩) w2 hd hlk)
      · cases h
    · cases h
  case new idx =>
    simp only [px_step, px_new] at h
    split at h
    · rename_i E hE
      split at h
      · rename_i h8
        simp only [px_end] at h
        have hr : r = (.inr E, hp ++ [(30, List.replicate 6 .null)]) := by cases h; rfl
        unfold px_thr at hE
        split at hE
        · rename_i hj
          obtain ⟨rfl, rfl⟩ := hj
          cases hE
          exact px_thr_sound C B (cls := px_xA) (names := px_nA) (text := "there is no such piece") rfl rfl (by decide +kernel) (by decide +kernel) (by decide) (px_in (i := 459) rfl rfl) (px_in (i := 49) rfl rfl) C.2.2.2.2.2.2.2.2.1 px_xA_ok (px_dec 49 (12, .new 162) (px_ins_mem rfl)) (px_dec 49 (15, .dup) (px_ins_mem rfl)) (px_dec 49 (16, .ldc 167) (px_ins_mem rfl)) (px_dec 49 (18, .invokespecial 166) (px_ins_mem rfl)) (px_dec 49 (21, .athrow) (px_ins_mem rfl)) h8 hr hmc hms hRc hRs
        · split at hE
          · rename_i hj
            obtain ⟨rfl, rfl⟩ := hj
            cases hE
            exact px_thr_sound C B (cls := px_xA) (names := px_nA) (text := "there is no such cell") rfl rfl (by decide +kernel) (by decide +kernel) (by decide) (px_in (i := 459) rfl rfl) (px_in (i := 49) rfl rfl) C.2.2.2.2.2.2.2.1 px_xA_ok (px_dec 53 (24, .new 162) (px_ins_mem rfl)) (px_dec 53 (27, .dup) (px_ins_mem rfl)) (px_dec 53 (28, .ldc 164) (px_ins_mem rfl)) (px_dec 53 (30, .invokespecial 166) (px_ins_mem rfl)) (px_dec 53 (33, .athrow) (px_ins_mem rfl)) h8 hr hmc hms hRc hRs
          · split at hE
            · rename_i hj
              obtain ⟨rfl, rfl⟩ := hj
              cases hE
              exact px_thr_sound C B (cls := px_xI) (names := px_nI) (text := "x or y is not 0 .. 3") rfl rfl (by decide +kernel) (by decide +kernel) (by decide) (px_in (i := 475) rfl rfl) (px_in (i := 51) rfl rfl) C.2.2.2.2.2.2.2.2.2.1 px_xI_ok (px_dec 64 (25, .new 79) (px_ins_mem rfl)) (px_dec 64 (28, .dup) (px_ins_mem rfl)) (px_dec 64 (29, .ldc 81) (px_ins_mem rfl)) (px_dec 64 (31, .invokespecial 83) (px_ins_mem rfl)) (px_dec 64 (34, .athrow) (px_ins_mem rfl)) h8 hr hmc hms hRc hRs
            · cases hE
      · cases h
    · split at h <;> cases h
  case ldc_w idx => simp only [px_step, px_go] at h; split at h <;> cases h
  case ldc2_w idx => simp only [px_step, px_go] at h; split at h <;> cases h
  case iinc k n => simp only [px_step, px_go] at h; split at h <;> (try split at h) <;> cases h
  all_goals (try (first | (cases h; done) | (obtain ⟨x, y, z, e1, e0⟩ := px_ii_inv h; cases e0; done) | (obtain ⟨x, y, z, e1, e2, e0⟩ := px_iz_inv h; cases e0; done) | (obtain ⟨x, y, z, e1, e0⟩ := px_ll_inv h; cases e0; done) | (obtain ⟨x, y, z, e1, e0⟩ := px_li_inv h; cases e0; done) | (obtain ⟨x, hg, e0⟩ := px_ld0 h; cases e0; done) | (obtain ⟨x, hg, e0⟩ := px_ld1 h; cases e0; done) | (obtain ⟨x, hg, e0⟩ := px_ld2 h; cases e0; done) | (obtain ⟨x, y, hg, hn, e0⟩ := px_sv0 h; cases e0; done) | (obtain ⟨x, y, hg, hn, e0⟩ := px_sv1 h; cases e0; done) | (obtain ⟨x, y, hg, hn, e0⟩ := px_sv2 h; cases e0; done) | (obtain ⟨t, ht, e0⟩ := px_jmp_inv h; cases e0; done)))
  case iaload => obtain ⟨_, _, _, _, _, _, _, _, _, _, _, e0⟩ := px_ald_inv h; cases e0
  case laload => obtain ⟨_, _, _, _, _, _, _, _, _, _, _, e0⟩ := px_ald_inv h; cases e0
  case baload => obtain ⟨_, _, _, _, _, _, _, _, _, _, _, e0⟩ := px_ald_inv h; cases e0
  case aaload => obtain ⟨_, _, _, _, _, _, _, _, _, _, _, e0⟩ := px_ald_inv h; cases e0
  case iastore => obtain ⟨_, _, _, _, _, _, _, _, _, _, e0⟩ := px_iast_inv h; cases e0
  case lastore => obtain ⟨_, _, _, _, _, _, _, _, _, _, e0⟩ := px_last_inv h; cases e0
  case bastore => obtain ⟨_, _, _, _, _, _, _, _, _, _, _, e0⟩ := px_zast_inv h; cases e0
  case aastore => obtain ⟨_, _, _, _, _, _, _, _, _, _, _, _, e0⟩ := px_aast_inv h; cases e0
  case arraylength => obtain ⟨_, _, _, _, _, _, _, _, e0⟩ := px_alen_inv h; cases e0
  case getfield idx => obtain ⟨_, _, _, _, _, _, _, _, _, _, _, _, e0⟩ := px_getf_inv h; cases e0
  case putfield idx => obtain ⟨_, _, _, _, _, _, _, _, _, _, _, _, _, _, _, e0⟩ := px_putf_inv h; cases e0
  all_goals (simp only [px_step, px_go, px_call, px_end, px_jmp, px_if, px_sw, px_invs, px_invv, px_invi, px_math, px_gets, px_newa, px_anew, px_mna] at h; (repeat' split at h) <;> cases h)
end PXE
end
section
/-! the heap only grows -/
theorem px_grow {j pc : Nat} {lv : px_L} {st : List Value} {hp : px_H} {i : Instr} {f : px_F} (h : px_step j pc lv st hp i = some (.inl f)) : hp.length ≤ f.2.2.2.length ∧ px_sz hp ≤ px_sz f.2.2.2 := by
  have hgo : ∀ {pc' : Nat} {lv' : px_L} {st' : List Value} {f' : px_F}, px_go pc' lv' st' hp = some (.inl f') → hp.length ≤ f'.2.2.2.length ∧ px_sz hp ≤ px_sz f'.2.2.2 := by
    intro pc' lv' st' f' h
    cases h
    exact ⟨Nat.le_refl _, Nat.le_refl _⟩
  have happ : ∀ {pc' : Nat} {lv' : px_L} {st' : List Value} {cs : px_H} {f' : px_F}, px_go pc' lv' st' (hp ++ cs) = some (.inl f') → hp.length ≤ f'.2.2.2.length ∧ px_sz hp ≤ px_sz f'.2.2.2 := by
    intro pc' lv' st' cs f' h
    cases h
    refine ⟨?_, ?_⟩
    · show hp.length ≤ (hp ++ cs).length
      simp
    · show px_sz hp ≤ px_sz (hp ++ cs)
      rw [px_sz_app]
      omega
  have hset : ∀ {pc' : Nat} {lv' : px_L} {st' : List Value} {a t k : Nat} {vs : List Value} {v : Value} {f' : px_F}, hp[a]? = some (t, vs) → Sum.inl f' = (Sum.inl (pc', lv', st', px_set hp a t vs k v) : px_N) → hp.length ≤ f'.2.2.2.length ∧ px_sz hp ≤ px_sz f'.2.2.2 := by
    intro pc' lv' st' a t k vs v f' hh e
    cases e
    refine ⟨?_, ?_⟩
    · show hp.length ≤ (px_set hp a t vs k v).length
      simp [px_set]
    · show px_sz hp ≤ px_sz (px_set hp a t vs k v)
      rw [px_sz_set hh]
      exact Nat.le_refl _
  cases i
  case iastore => obtain ⟨_, _, _, _, _, _, hh, _, _, _, e0⟩ := px_iast_inv h; exact hset hh e0
  case lastore => obtain ⟨_, _, _, _, _, _, hh, _, _, _, e0⟩ := px_last_inv h; exact hset hh e0
  case bastore => obtain ⟨_, _, _, _, _, _, hh, _, _, _, _, e0⟩ := px_zast_inv h; exact hset hh e0
  case aastore => obtain ⟨_, _, _, _, _, _, _, hh, _, _, _, _, e0⟩ := px_aast_inv h; exact hset hh e0
  case putfield idx => obtain ⟨_, _, _, _, _, _, _, _, _, hh, _, _, _, _, _, e0⟩ := px_putf_inv h; exact hset hh e0
  all_goals (try (first | (cases h; exact ⟨Nat.le_refl _, Nat.le_refl _⟩) | (obtain ⟨x, y, z, e1, e0⟩ := px_ii_inv h; cases e0; exact ⟨Nat.le_refl _, Nat.le_refl _⟩) | (obtain ⟨x, y, z, e1, e2, e0⟩ := px_iz_inv h; cases e0; exact ⟨Nat.le_refl _, Nat.le_refl _⟩) | (obtain ⟨x, y, z, e1, e0⟩ := px_ll_inv h; cases e0; exact ⟨Nat.le_refl _, Nat.le_refl _⟩) | (obtain ⟨x, y, z, e1, e0⟩ := px_li_inv h; cases e0; exact ⟨Nat.le_refl _, Nat.le_refl _⟩) | (obtain ⟨x, hg, e0⟩ := px_ld0 h; cases e0; exact ⟨Nat.le_refl _, Nat.le_refl _⟩) | (obtain ⟨x, hg, e0⟩ := px_ld1 h; cases e0; exact ⟨Nat.le_refl _, Nat.le_refl _⟩) | (obtain ⟨x, hg, e0⟩ := px_ld2 h; cases e0; exact ⟨Nat.le_refl _, Nat.le_refl _⟩) | (obtain ⟨x, y, hg, hn, e0⟩ := px_sv0 h; cases e0; exact ⟨Nat.le_refl _, Nat.le_refl _⟩) | (obtain ⟨x, y, hg, hn, e0⟩ := px_sv1 h; cases e0; exact ⟨Nat.le_refl _, Nat.le_refl _⟩) | (obtain ⟨x, y, hg, hn, e0⟩ := px_sv2 h; cases e0; exact ⟨Nat.le_refl _, Nat.le_refl _⟩) | (obtain ⟨t, ht, e0⟩ := px_jmp_inv h; cases e0; exact ⟨Nat.le_refl _, Nat.le_refl _⟩)))
  all_goals (simp only [px_step, px_call, px_end, px_jmp, px_if, px_sw, px_invs, px_invv, px_invi, px_math, px_gets, px_newa, px_anew, px_mna, px_new, px_ald, px_alen, px_getf] at h; (repeat' split at h) <;> first | exact hgo h | exact happ h | cases h)
theorem px_grow_end {j pc : Nat} {lv : px_L} {st : List Value} {hp : px_H} {i : Instr} {r : px_E} (h : px_step j pc lv st hp i = some (.inr (.inl r))) : hp.length ≤ r.2.length ∧ px_sz hp ≤ px_sz r.2 := by
  have hgo : ∀ {pc' : Nat} {lv' : px_L} {st' : List Value} {hp' : px_H}, px_go pc' lv' st' hp' = some (.inr (.inl r)) → False := by
    intro pc' lv' st' hp' h
    cases h
  have hen : ∀ {o : px_O}, px_end o hp = some (.inr (.inl r)) → hp.length ≤ r.2.length ∧ px_sz hp ≤ px_sz r.2 := by
    intro o h
    cases h
    exact ⟨Nat.le_refl _, Nat.le_refl _⟩
  have hap : ∀ {o : px_O} {cs : px_H}, px_end o (hp ++ cs) = some (.inr (.inl r)) → hp.length ≤ r.2.length ∧ px_sz hp ≤ px_sz r.2 := by
    intro o cs h
    cases h
    refine ⟨?_, ?_⟩
    · show hp.length ≤ (hp ++ cs).length
      simp
    · show px_sz hp ≤ px_sz (hp ++ cs)
      rw [px_sz_app]
      omega
  cases i
  all_goals (simp only [px_step, px_call, px_jmp, px_if, px_sw, px_invs, px_invv, px_invi, px_math, px_gets, px_newa, px_anew, px_mna, px_new, px_ald, px_alen, px_getf, px_putf, px_iast, px_last, px_zast, px_aast, px_ii, px_iz, px_ll, px_li, px_ld, px_sv] at h; (repeat' split at h) <;> first | exact absurd h hgo | exact hen h | exact hap h | cases h)
theorem px_mono : ∀ (n d j pc : Nat) (lv : px_L) (st : List Value) (hp : px_H) (r : px_E), px_run d n j pc lv st hp = some r → hp.length ≤ r.2.length ∧ px_sz hp ≤ px_sz r.2
  | 0, d, j, pc, lv, st, hp, r, h => by
    unfold px_run at h
    cases h
  | n + 1, d, j, pc, lv, st, hp, r, h => by
    unfold px_run at h
    split at h
    · cases h
    · split at h
      · cases h
      · rename_i f hs
        have h1 := px_grow hs
        have h2 := px_mono n d j _ _ _ _ r h
        omega
      · rename_i r' hs
        cases h
        exact px_grow_end hs
      · rename_i q hs
        split at h
        · cases h
        · rename_i d'
          split at h
          · cases h
          · rename_i v hp' hc
            have h1 := px_mono n d' _ _ _ _ _ _ hc
            have h2 := px_mono n (d' + 1) j _ _ _ _ r h
            change hp.length ≤ hp'.length ∧ px_sz hp ≤ px_sz hp' at h1
            omega
          · rename_i E hp' hc
            have h1 := px_mono n d' _ _ _ _ _ _ hc
            change hp.length ≤ hp'.length ∧ px_sz hp ≤ px_sz hp' at h1
            split at h
            · cases h
            · split at h
              · cases h
                exact h1
              · split at h
                · cases h
                  exact h1
                · cases h
end
section
set_option maxRecDepth 100000 in
theorem px_hh_v : ∀ j, j < 102 → px_kd j ≠ 0 → px_hh j = [] := by decide +kernel
set_option maxRecDepth 100000 in
theorem px_ml_23 : ∀ q ∈ px_ml_, px_kd q.2.2.1 ≠ 0 → q.2.2.1 ≠ 2 ∧ q.2.2.1 ≠ 3 := by decide +kernel
theorem px_call_mk {j' : Nat} {as rest : List Value} {n : px_N} (h : px_call j' as rest = some n) : n = .inr (.inr (j', as, rest)) ∧ px_ok8 rest = true ∧ (lg_sl as).length ≤ px_ml j' := by
  unfold px_call at h
  split at h
  · rename_i hq
    exact ⟨(Option.some.inj h).symm, hq⟩
  · cases h
theorem px_callinv {j pc : Nat} {lv : px_L} {st : List Value} {hp : px_H} {i : Instr} {q : Nat × List Value × List Value} (h : px_step j pc lv st hp i = some (.inr (.inr q))) :
    ∃ idx ps, (px_cn j, idx, q.1, ps) ∈ px_ml_ ∧ px_ok8 q.2.2 = true ∧ (lg_sl q.2.1).length ≤ px_ml q.1 ∧
    ((i = .invokestatic idx ∧ px_kd q.1 = 0 ∧ q.1 ≠ 2 ∧ q.1 ≠ 3 ∧ st = q.2.1.reverse ++ q.2.2 ∧ q.2.1.length = px_np q.1) ∨
     (∃ a as vs, i = .invokevirtual idx ∧ px_kd q.1 = 1 ∧ q.2.1 = .ref a :: as ∧ st = as.reverse ++ .ref a :: q.2.2 ∧ as.length = px_np q.1 ∧ hp[a]? = some (px_cn q.1, vs)) ∨
     (∃ a as, i = .invokespecial idx ∧ px_kd q.1 = 2 ∧ q.2.1 = .ref a :: as ∧ st = as.reverse ++ .ref a :: q.2.2 ∧ as.length = px_np q.1)) := by
  cases i
  case invokestatic idx =>
    simp only [px_step, px_invs] at h
    split at h
    · rename_i j' ps hq
      split at h
      · simp only [px_math, px_go] at h
        split at h
        · split at h <;> cases h
        · cases h
      · rename_i h23
        split at h
        · rename_i hk
          obtain ⟨e0, h8, hl⟩ := px_call_mk h
          cases e0
          refine ⟨idx, ps, px_lk_mem hq, h8, hl, Or.inl ⟨rfl, hk.1, fun z => h23 (Or.inl z), fun z => h23 (Or.inr z), ?_, ?_⟩⟩
          · show st = (st.take (px_np j')).reverse.reverse ++ st.drop (px_np j')
            rw [List.reverse_reverse, List.take_append_drop]
          · show (st.take (px_np j')).reverse.length = px_np j'
            rw [List.length_reverse, List.length_take]
            omega
        · cases h
    · cases h
  case invokevirtual idx =>
    simp only [px_step, px_invv] at h
    split at h
    · rename_i j' ps hq
      split at h
      · rename_i a r hdr
        split at h
        · rename_i t vs hh
          split at h
          · rename_i hk
            obtain ⟨e0, h8, hl⟩ := px_call_mk h
            cases e0
            obtain ⟨k1, k2, rfl⟩ := hk
            refine ⟨idx, ps, px_lk_mem hq, h8, hl, Or.inr (Or.inl ⟨a, (st.take (px_np j')).reverse, vs, rfl, k1, rfl, ?_, ?_, hh⟩)⟩
            · show st = (st.take (px_np j')).reverse.reverse ++ .ref a :: r
              rw [List.reverse_reverse, ← hdr, List.take_append_drop]
            · show (st.take (px_np j')).reverse.length = px_np j'
              rw [List.length_reverse, List.length_take]
              omega
          · cases h
        · cases h
      · cases h
    · cases h
  case invokespecial idx =>
    simp only [px_step, px_invi] at h
    split at h
    · simp only [px_go] at h
      split at h
      · split at h <;> cases h
      · cases h
    · split at h
      · rename_i j' ps hq
        split at h
        · rename_i a r hdr
          split at h
          · rename_i hk
            obtain ⟨e0, h8, hl⟩ := px_call_mk h
            cases e0
            refine ⟨idx, ps, px_lk_mem hq, h8, hl, Or.inr (Or.inr ⟨a, (st.take (px_np j')).reverse, rfl, hk.1, rfl, ?_, ?_⟩)⟩
            · show st = (st.take (px_np j')).reverse.reverse ++ .ref a :: r
              rw [List.reverse_reverse, ← hdr, List.take_append_drop]
            · show (st.take (px_np j')).reverse.length = px_np j'
              rw [List.length_reverse, List.length_take]
              omega
          · cases h
        · cases h
      · cases h
  all_goals (exfalso; simp only [px_step, px_go, px_end, px_jmp, px_if, px_sw, px_math, px_gets, px_newa, px_anew, px_mna, px_new, px_ald, px_alen, px_getf, px_putf, px_iast, px_last, px_zast, px_aast, px_ii, px_iz, px_ll, px_li, px_ld, px_sv] at h; (repeat' split at h) <;> cases h)
section PXR
variable {l : Launch} {S0 : State} {A0 : Array Value} {D : va_G} {od sa : Nat → Nat} {p : Program} {e : Env} {R : Room} {s : State} {m : MethodId} {args : Array Value} {below : List Frame} {meth : Method} {c : Code} {j d k0 z0 mc ms : Nat}
theorem px_lgl (ad : Nat → Nat) (vs : List Value) : (lg_sl (vs.map (px_ren ad))).length = (lg_sl vs).length := by
  induction vs with
  | nil => rfl
  | cons v vs ih =>
    have e1 : lg_sl ((v :: vs).map (px_ren ad)) = (if (px_ren ad v).category = 2 then [.val (px_ren ad v), .second] else [.val (px_ren ad v)]) ++ lg_sl (vs.map (px_ren ad)) := rfl
    have e2 : lg_sl (v :: vs) = (if v.category = 2 then [.val v, .second] else [.val v]) ++ lg_sl vs := rfl
    rw [e1, e2, List.length_append, List.length_append, ih, px_cat]
    split <;> rfl
/-- a method's contract, out of its body's run -/
theorem px_met (C : px_Cx l S0 A0 D od sa) {j' : Nat} {as : List Value} {hp : px_H} {r : px_E} (hj : j' < 102) (hj6 : j' ≠ 6) (hj2 : j' ≠ 2) (hj3 : j' ≠ 3) (hlg : (lg_sl as).length ≤ px_ml j')
    (IH : ∀ (p : Program) (e : Env) (R : Room) (s : State) (m : MethodId) (args : Array Value) (below : List Frame) (meth : Method) (c : Code), px_B S0 j' d hp.length p R s m meth c → mc ≤ R.cells → ms ≤ R.slots →
      px_G S0 D od p l e R s m args below meth c (vx_MQ below (px_Qc S0 D od r) (px_XC S0 D od r) args s mc ms (px_A S0)) (px_ml j') hp.length (px_sz hp) (0, lv_args 0 as, [], hp)) :
    vx_Met l (px_y j') (px_ws j') (px_rm d mc ms) (px_Pc S0 D od as hp) (px_Qc S0 D od r) (px_XC S0 D od r) mc ms (px_A S0) := by
  have body : ∀ (p : Program) (e : Env) (s : State) (m : MethodId) (args : Array Value) (below : List Frame) (meth : Method) (c : Code) (s₁ : State), BodyLoose p l (px_y j') (headSpec (px_ws j') (px_rm d mc ms)) (px_c j') (px_ml j') (px_rt j') e s m args below meth c s₁ → c.maxLocals = px_ml j' → c.exceptionTable.toList = tableOf (px_hh j') → px_Pc S0 D od as hp args s →
      W p l e (headSpec (px_ws j') (px_rm d mc ms)).room s m args below meth c s.heap [] 0 0 (vx_MQ below (px_Qc S0 D od r) (px_XC S0 D od r) args s mc ms (px_A S0)) (entryFrame m args (px_ml j')) := by
    intro p e s m args below meth c s₁ B hml het hP
    obtain ⟨rfl, hw, hW0⟩ := hP
    have hown : s.vm.findClass (px_R (px_cn j')) = some m.cls := by rw [← (px_in_ok j' hj).2]; exact findClass_of_methodNamed B.named
    have hnm : px_kd j' = 2 → meth.name = "<init>" := fun z => ((name_of_methodNamed B.named B.method).1).trans (px_in5 j' hj z).1
    have hB : px_B S0 j' d hp.length p (px_rm d mc ms) s m meth c := ⟨B.exec, B.bytes, hml, hown, B.returns, B.notSynchronized, hnm, hW0, het, Nat.le_refl _, Nat.le_refl _, hw.2.1, hw.1, hw.2.2.1⟩
    rw [lg_entry_eq]
    refine IH p e (px_rm d mc ms) s m _ below meth c hB (Nat.le_refl _) (Nat.le_refl _) s.heap [] _ 0 0 hw (fun q hq => nomatch hq) ?_ (Nat.zero_add _) (Nat.zero_add _)
    rw [← px_rl_args]
    exact lv_entry _ (by rw [px_lgl]; exact hlg)
  by_cases hh : px_hh j' = []
  · refine vx_ofW (px_in4 j' hj hj2 hj3) (cc := px_c j') (maxL := px_ml j') (ret := px_rt j') (ws' := []) (by unfold px_ws; rw [if_pos hh]) ?_
    intro p e s m args below meth c s₁ B hml ht hP
    refine body p e s m args below meth c s₁ B hml ?_ hP
    rw [hh]
    cases hx : c.exceptionTable.toList with
    | nil => rfl
    | cons x xs => exact (ht x (by rw [hx]; exact List.mem_cons_self)).elim
  · refine vx_ofWH (px_in4 j' hj hj2 hj3) (cc := px_c j') (maxL := px_ml j') (ret := px_rt j') (hh := px_hh j') (ws' := []) (by unfold px_ws; rw [if_neg hh]) ?_
    intro p e s m args below meth c s₁ B hml hP
    refine body p e s m args below meth c s₁ B hml ?_ hP
    exact vx_table (x := px_y j') B (atoms_spec (ws := px_ws j') B.pre _ (by unfold px_ws; rw [if_neg hh]; exact List.mem_cons_self))
/-- the call itself -/
theorem px_callrun (C : px_Cx l S0 A0 D od sa) (B : px_B S0 j (d + 1) k0 p R s m meth c) {pc : Nat} {lv : px_L} {st : List Value} {hp : px_H} {i : Instr} {q : Nat × List Value × List Value} {r : px_E} {H : Heap} {locs : List Loc} {ls : Array Slot} {cells slots : Nat}
    (hd : decode (px_c j) pc = .ok (i, px_len pc i)) (h : px_step j pc lv st hp i = some (.inr (.inr q))) (w1 : px_W S0 D od hp H) (w3 : lv_has ls (px_ml j) (px_rl (px_ad od S0.heap.size) lv))
    (hM : vx_Met l (px_y q.1) (px_ws q.1) (px_rm d mc ms) (px_Pc S0 D od q.2.1 hp) (px_Qc S0 D od r) (px_XC S0 D od r) mc ms (px_A S0)) (hk : px_kd q.1 = 2 → ∀ E, r.1 ≠ .inr E) (hf : cells + mc ≤ R.cells ∧ slots + ms ≤ R.slots) :
    vx_Run p l e R s m args below meth c H locs cells slots mc ms (F0 m pc ls (st.map (px_ren (px_ad od S0.heap.size)))) (q.2.2.map (px_ren (px_ad od S0.heap.size))) (px_Qc S0 D od r (q.2.1.map (px_ren (px_ad od S0.heap.size))).toArray) (px_XC S0 D od r) (px_A S0) := by
  obtain ⟨hx, hb, hml, hown, hrt, hlk, hnm, hW0, het, hfr, hlo, hsz, hk8, hold⟩ := id B
  obtain ⟨idx, ps, hlink, h8, hlg, hcase⟩ := px_callinv h
  obtain ⟨hj, hj6⟩ := px_ml_lt _ hlink
  change q.1 < 102 at hj
  change q.1 ≠ 6 at hj6
  have hlinkw := px_ml_ok _ hlink
  have hlw : (Cond.methodLink (px_R (px_cn j)) idx (px_y q.1)).before args s = true := px_word C.1 hW0 (px_in hlinkw rfl)
  obtain ⟨n1, n2, n3⟩ := px_in3 q.1 hj
  have hini : (Cond.initialized (px_y q.1).cls).before args s = true := by rw [(px_in_ok q.1 hj).2]; exact px_word C.1 hW0 (px_in (px_in_ok q.1 hj).1 rfl)
  have hlen : ∀ sig, parseMethodDescriptor (px_y q.1).desc = some sig → px_np q.1 = sig.parameters.length := fun sig hs => by
    have h2 := px_in2 q.1 hj
    rw [hs] at h2
    exact (Option.some.inj h2).symm
  have hpcw := px_pc_ok q.1 hj hj6
  have hws : ∀ w ∈ px_ws q.1, ∀ (a' : Array Value) (U : State), s.WarmedH U.vm → w.before a' U = true := by
    intro w hw a' U hU
    have hw' := List.mem_singleton.mp hw
    subst hw'
    refine px_word C.1 (State.WarmedH.trans hW0 hU) (px_in hpcw ?_)
    split <;> rfl
  have h8' : (q.2.2.map fun v => v.category).sum ≤ 8 := of_decide_eq_true h8
  rw [← px_cats (px_ad od S0.heap.size)] at h8'
  have hbl : FrameBlind (px_Pc S0 D od q.2.1 hp) := fun a U g mk z => z
  have hpre : ∀ U : State, U.heap = H → s.WarmedH U.vm → px_Pc S0 D od q.2.1 hp (q.2.1.map (px_ren (px_ad od S0.heap.size))).toArray U := fun U hU hW => ⟨rfl, by rw [hU]; exact w1, State.WarmedH.trans hW0 hW⟩
  have hfr2 : (px_rm d mc ms).frames + 1 ≤ R.frames := by show d + 7 + 1 ≤ _; omega
  have hlo2 : 8 + (px_ml q.1 + 11) + (px_rm d mc ms).locals ≤ R.locals := by show 8 + (px_ml q.1 + 11) + (60 * d + 120) ≤ _; omega
  have S : CallFix p m c (px_c j) (px_ml j) s args [] (px_R (px_cn j)) := ⟨hx, hb, hml, hown, fun w hw => nomatch hw⟩
  rcases hcase with ⟨rfl, k1, k2, k3, hst, hal⟩ | ⟨a, as, vs, rfl, k1, hq1, hst, hal, hh⟩ | ⟨a, as, rfl, k1, hq1, hst, hal⟩
  · have hstk : (F0 m pc ls (st.map (px_ren (px_ad od S0.heap.size)))).stack = (q.2.1.map (px_ren (px_ad od S0.heap.size))).reverse ++ q.2.2.map (px_ren (px_ad od S0.heap.size)) := by
      show st.map _ = _
      rw [hst, List.map_append, List.map_reverse]
    have hstat : (Cond.static (px_y q.1)).before args s = true := px_word C.1 hW0 (px_in (px_k0_ok q.1 hj hj6 k1) rfl)
    by_cases hhq : px_hh q.1 = []
    · have hcm : Cond.code (px_y q.1) (px_c q.1) (px_ml q.1) (px_rt q.1) ∈ px_ws q.1 := by unfold px_ws; rw [if_pos hhq]; exact List.mem_cons_self
      exact vx_runS (n := px_np q.1) S hM ⟨⟨rfl, rfl, hfr2, hlo2, hws, hcm, hws _ hcm args s (State.WarmedH.refl s), hini, ⟨n1, n2⟩, hlen, hlw⟩, hstat⟩ ⟨hbl, hpre⟩ rfl (by rw [List.length_map]; exact hal) w3.1 hstk (lv_room h8') hd hf
    · have hcm : Cond.codeWith (px_y q.1) (px_c q.1) (px_ml q.1) (px_rt q.1) (px_hh q.1) ∈ px_ws q.1 := by unfold px_ws; rw [if_neg hhq]; exact List.mem_cons_self
      exact vx_runSX (n := px_np q.1) S hM ⟨⟨rfl, rfl, hfr2, hlo2, hws, hcm⟩, hws _ hcm args s (State.WarmedH.refl s), hini, ⟨n1, n2⟩, hlen, hlw, hstat⟩ ⟨hbl, hpre⟩ rfl (by rw [List.length_map]; exact hal) w3.1 hstk (lv_room h8') hd hf
  · have hhq := px_hh_v q.1 hj (by rw [k1]; decide)
    have hcm : Cond.code (px_y q.1) (px_c q.1) (px_ml q.1) (px_rt q.1) ∈ px_ws q.1 := by unfold px_ws; rw [if_pos hhq]; exact List.mem_cons_self
    obtain ⟨s1, s2⟩ := px_k2_ok q.1 hj k1 hj6
    have hstk : (F0 m pc ls (st.map (px_ren (px_ad od S0.heap.size)))).stack = (as.map (px_ren (px_ad od S0.heap.size))).reverse ++ .ref (px_ad od S0.heap.size a) :: q.2.2.map (px_ren (px_ad od S0.heap.size)) := by
      show st.map _ = _
      rw [hst, List.map_append, List.map_reverse, List.map_cons]
      rfl
    have hargs : (q.2.1.map (px_ren (px_ad od S0.heap.size))) = .ref (px_ad od S0.heap.size a) :: as.map (px_ren (px_ad od S0.heap.size)) := by
      rw [hq1, List.map_cons]
      rfl
    obtain ⟨cell, q1, q2, q3, -⟩ := (w1.2.2.2 a _ hh).1 s2
    have hkn := u_Kn_moved hW0.alike (C.2.1 _ s2)
    rw [hargs] at hpre ⊢
    exact vx_runV (n := px_np q.1) (C := px_R (px_cn q.1)) S hM ⟨⟨rfl, rfl, hfr2, hlo2, hws, hcm, hws _ hcm args s (State.WarmedH.refl s), hini, ⟨n1, n2⟩, hlen, hlw⟩, px_word C.1 hW0 (px_in (px_k1_ok q.1 hj (by rw [k1]; decide) hj6) rfl), px_word C.1 hW0 (px_in s1 rfl)⟩ ⟨hbl, ⟨cell, q1, by rw [q3]; rfl, by rw [q2]; exact hkn.2.1⟩, hpre⟩ rfl (by rw [List.length_map]; exact hal) w3.1 hstk (lv_room h8') hd hf
  · have hhq := px_hh_v q.1 hj (by rw [k1]; decide)
    obtain ⟨i1, i2, i3⟩ := px_in5 q.1 hj k1
    have hcm : Cond.code (px_y q.1) (px_c q.1) (px_ml q.1) none ∈ px_ws q.1 := by unfold px_ws; rw [if_pos hhq, i2]; exact List.mem_cons_self
    have hstk : (F0 m pc ls (st.map (px_ren (px_ad od S0.heap.size)))).stack = (as.map (px_ren (px_ad od S0.heap.size))).reverse ++ .ref (px_ad od S0.heap.size a) :: q.2.2.map (px_ren (px_ad od S0.heap.size)) := by
      show st.map _ = _
      rw [hst, List.map_append, List.map_reverse, List.map_cons]
      rfl
    have hargs : (q.2.1.map (px_ren (px_ad od S0.heap.size))) = .ref (px_ad od S0.heap.size a) :: as.map (px_ren (px_ad od S0.heap.size)) := by
      rw [hq1, List.map_cons]
      rfl
    have hMet : Met l (px_y q.1) (px_ws q.1) (px_rm d mc ms) (px_Pc S0 D od q.2.1 hp) (px_Qc S0 D od r) mc ms (px_A S0) := by
      intro p e h1 h2 h3 s m args below h4 h5 h6 h7
      obtain ⟨n, o, a1, a2, a3, a4⟩ := hM p e h1 h2 h3 s m args below h4 h5 h6 h7
      refine ⟨n, o, a1, a2, a3, ?_⟩
      rcases a4 with a4 | ⟨q9, -, E, ce, L, hxc, -⟩
      · exact a4
      · exact absurd hxc.1 (hk k1 E)
    rw [hargs] at hpre ⊢
    have hrun := va_runI (n := px_np q.1) S hMet ⟨⟨rfl, rfl, hfr2, hlo2, hws, hcm, hws _ hcm args s (State.WarmedH.refl s), hini, ⟨n1, n2⟩, hlen, hlw⟩, i1, px_word C.1 hW0 (px_in (px_k1_ok q.1 hj (by rw [k1]; decide) hj6) rfl)⟩ ⟨hbl, hpre⟩ (g := F0 m pc ls (st.map (px_ren (px_ad od S0.heap.size)))) (p := p) (e := e) (below := below) (meth := meth) (locs := locs) (cells := cells) (slots := slots) rfl (by rw [List.length_map]; exact hal) w3.1 hstk (lv_room h8') hd hf
    intro T hT X
    exact Or.inl (hrun T hT X)
end PXR
end
section
section PXZ
variable {l : Launch} {S0 : State} {A0 : Array Value} {D : va_G} {od sa : Nat → Nat} {p : Program} {e : Env} {R : Room} {s : State} {m : MethodId} {args : Array Value} {below : List Frame} {meth : Method} {c : Code} {j d k0 z0 mc ms : Nat}
/-- caught in a method of the law: it answers x -/
theorem px_hand (B : px_B S0 j d k0 p R s m meth c) {pc hpc k : Nat} {E nm : String} {ce : Cell} {q : Addr} {H : Heap} {locs : List Loc} {ls : Array Slot} {rest : List Value} {lv : px_L} {hp : px_H} {x : Int32} {n : Int} {pre suf : List ExceptionTableEntry} {z : ExceptionTableEntry} {ia : Instr} {la : Nat}
    (hcn : px_cn j = 5) (hsplit : tableOf (px_hh j) = pre ++ z :: suf) (hpass : ∀ y ∈ pre, covers y pc = false ∨ (y.catchType ≠ 0 ∧ ∃ nm : String, (Cond.classLink RL y.catchType nm).before args s = true ∧ va_Nc E nm s)) (hz : covers z pc = true) (h0 : z.catchType ≠ 0)
    (hlink : (Cond.classLink RL z.catchType nm).before args s = true) (hcast : (Cond.castable E nm).before args s = true) (hcell : H[q]? = some ce) (hv : ce.vm = .none) (hcl : s.vm.findClass E = some ce.cls)
    (hhp : z.handlerPc = hpc) (hia : (ia = .astore k ∧ la = 2) ∨ (∃ kf : Fin 4, ia = .astore_n kf ∧ (kf : Nat) = k ∧ la = 1)) (dA : decode (px_c j) hpc = .ok (ia, la)) (dB : decode (px_c j) (hpc + la) = .ok (.iconst n, 1)) (dC : decode (px_c j) (hpc + la + 1) = .ok (.ireturn, 1)) (hk : k < px_ml j) (hret : px_rt j = some .int) (hn : Int32.ofInt n = x)
    (w1 : px_W S0 D od hp H) (w2 : ∀ q ∈ locs, S0.heap.size ≤ q.base) (w3 : lv_has ls (px_ml j) (px_rl (px_ad od S0.heap.size) lv)) :
    vx_W p l e R s m args below meth c H locs mc ms (vx_MQ below (px_Qc S0 D od (.inl (some (.int x)), hp)) (px_XC S0 D od (.inl (some (.int x)), hp)) args s mc ms (px_A S0)) (F0 m pc ls rest) q := by
  obtain ⟨hx, hb, hml, hown, hrt, hlk, hnm, hW0, het, hfr, hlo, hsz, hk8, hold⟩ := id B
  rw [hcn] at hown
  refine vx_catch (own := RL) hown pre z suf (by rw [het]; exact hsplit) hpass hz h0 hlink hcast hcell hv hcl ?_
  rw [hhp]
  have fin : ∀ ls' : Array Slot, W p l e R s m args below meth c H locs mc ms (vx_MQ below (px_Qc S0 D od (.inl (some (.int x)), hp)) (px_XC S0 D od (.inl (some (.int x)), hp)) args s mc ms (px_A S0)) (F0 m (hpc + la) ls' []) := fun ls' =>
    lv_iconst hx hb dB hn (vx_ret (W.zret hx hb (hrt.trans hret) rfl (fun t ht hW => ⟨some (.int x), rfl, rfl, by rw [ht]; exact w1⟩) w2 dC hlk))
  rcases hia with ⟨rfl, rfl⟩ | ⟨kf, rfl, hkf, rfl⟩
  · exact lv_astore hx hb dA w3 hk rfl (fun ls' _ => fin ls')
  · exact lv_astore_n hx hb dA hkf w3 hk rfl (fun ls' _ => fin ls')
set_option maxRecDepth 100000 in
theorem px_caught (C : px_Cx l S0 A0 D od sa) (B : px_B S0 j d k0 p R s m meth c) {pc : Nat} {E : String} {ce : Cell} {q : Addr} {H : Heap} {locs : List Loc} {ls : Array Slot} {rest : List Value} {lv : px_L} {hp : px_H} {x : Int32} (h : px_hd j pc E = some x)
    (hcell : H[q]? = some ce) (hv : ce.vm = .none) (hcl : s.vm.findClass E = some ce.cls) (w1 : px_W S0 D od hp H) (w2 : ∀ q ∈ locs, S0.heap.size ≤ q.base) (w3 : lv_has ls (px_ml j) (px_rl (px_ad od S0.heap.size) lv)) :
    vx_W p l e R s m args below meth c H locs mc ms (vx_MQ below (px_Qc S0 D od (.inl (some (.int x)), hp)) (px_XC S0 D od (.inl (some (.int x)), hp)) args s mc ms (px_A S0)) (F0 m pc ls rest) q := by
  have hW0 := B.2.2.2.2.2.2.2.1
  have lA : (Cond.classLink RL 13 px_xA).before args s = true := px_word C.1 hW0 (px_in (i := 376) rfl rfl)
  have lI : (Cond.classLink RL 19 px_xI).before args s = true := px_word C.1 hW0 (px_in (i := 465) rfl rfl)
  have cA : (Cond.castable px_xA px_xA).before args s = true := px_ow hW0 (C.1 _ (List.mem_of_getElem? (i := 426) rfl)) rfl
  have cI : (Cond.castable px_xI px_xI).before args s = true := px_ow hW0 (C.1 _ (List.mem_of_getElem? (i := 477) rfl)) rfl
  have nc : va_Nc px_xI px_xA s := by
    obtain ⟨a, b, h1, h2, h3⟩ := C.2.2.2.2.2.2.2.2.2.2.2
    refine ⟨a, b, by rw [hW0.alike.findClass]; exact h1, by rw [hW0.alike.findClass]; exact h2, ?_⟩
    rw [hW0.alike.assignable]; exact h3
  unfold px_hd at h
  split at h
  · rename_i hE
    subst hE
    split at h
    · rename_i hj
      obtain ⟨hj, hpc⟩ := hj
      cases h
      rcases hj with rfl | rfl | rfl | rfl | rfl | rfl
      · exact px_hand B (pre := []) (suf := []) (z := ⟨0, 19, 22, 13⟩) (k := 5) (ia := .astore 5) (la := 2) (n := 1) rfl rfl (fun y hy => nomatch hy) (by simp [covers]; omega) (by decide) lA cA hcell hv hcl rfl (Or.inl ⟨rfl, rfl⟩) (px_dec 5 (22, .astore 5) (px_ins_mem rfl)) (px_dec 5 (24, .iconst 1) (px_ins_mem rfl)) (px_dec 5 (25, .ireturn) (px_ins_mem rfl)) (by decide) rfl rfl w1 w2 w3
      · exact px_hand B (pre := []) (suf := []) (z := ⟨0, 19, 22, 13⟩) (k := 5) (ia := .astore 5) (la := 2) (n := 1) rfl rfl (fun y hy => nomatch hy) (by simp [covers]; omega) (by decide) lA cA hcell hv hcl rfl (Or.inl ⟨rfl, rfl⟩) (px_dec 7 (22, .astore 5) (px_ins_mem rfl)) (px_dec 7 (24, .iconst 1) (px_ins_mem rfl)) (px_dec 7 (25, .ireturn) (px_ins_mem rfl)) (by decide) rfl rfl w1 w2 w3
      · exact px_hand B (pre := []) (suf := []) (z := ⟨0, 12, 15, 13⟩) (k := 5) (ia := .astore 5) (la := 2) (n := 1) rfl rfl (fun y hy => nomatch hy) (by simp [covers]; omega) (by decide) lA cA hcell hv hcl rfl (Or.inl ⟨rfl, rfl⟩) (px_dec 8 (15, .astore 5) (px_ins_mem rfl)) (px_dec 8 (17, .iconst 1) (px_ins_mem rfl)) (px_dec 8 (18, .ireturn) (px_ins_mem rfl)) (by decide) rfl rfl w1 w2 w3
      · exact px_hand B (pre := []) (suf := []) (z := ⟨0, 9, 12, 13⟩) (k := 3) (ia := .astore_n 3) (la := 1) (n := 1) rfl rfl (fun y hy => nomatch hy) (by simp [covers]; omega) (by decide) lA cA hcell hv hcl rfl (Or.inr ⟨3, rfl, rfl, rfl⟩) (px_dec 9 (12, .astore_n 3) (px_ins_mem rfl)) (px_dec 9 (13, .iconst 1) (px_ins_mem rfl)) (px_dec 9 (14, .ireturn) (px_ins_mem rfl)) (by decide) rfl rfl w1 w2 w3
      · exact px_hand B (pre := []) (suf := [⟨0, 19, 26, 19⟩]) (z := ⟨0, 19, 22, 13⟩) (k := 5) (ia := .astore 5) (la := 2) (n := 1) rfl rfl (fun y hy => nomatch hy) (by simp [covers]; omega) (by decide) lA cA hcell hv hcl rfl (Or.inl ⟨rfl, rfl⟩) (px_dec 10 (22, .astore 5) (px_ins_mem rfl)) (px_dec 10 (24, .iconst 1) (px_ins_mem rfl)) (px_dec 10 (25, .ireturn) (px_ins_mem rfl)) (by decide) rfl rfl w1 w2 w3
      · exact px_hand B (pre := []) (suf := []) (z := ⟨0, 10, 13, 13⟩) (k := 4) (ia := .astore 4) (la := 2) (n := 1) rfl rfl (fun y hy => nomatch hy) (by simp [covers]; omega) (by decide) lA cA hcell hv hcl rfl (Or.inl ⟨rfl, rfl⟩) (px_dec 11 (13, .astore 4) (px_ins_mem rfl)) (px_dec 11 (15, .iconst 1) (px_ins_mem rfl)) (px_dec 11 (16, .ireturn) (px_ins_mem rfl)) (by decide) rfl rfl w1 w2 w3
    · cases h
  · split at h
    · rename_i hj
      obtain ⟨rfl, rfl, hpc⟩ := hj
      cases h
      refine px_hand B (pre := [⟨0, 19, 22, 13⟩]) (suf := []) (z := ⟨0, 19, 26, 19⟩) (k := 5) (ia := .astore 5) (la := 2) (n := 2) rfl rfl (fun y hy => Or.inr ?_) (by simp [covers]; omega) (by decide) lI cI hcell hv hcl rfl (Or.inl ⟨rfl, rfl⟩) (px_dec 10 (26, .astore 5) (px_ins_mem rfl)) (px_dec 10 (28, .iconst 2) (px_ins_mem rfl)) (px_dec 10 (29, .ireturn) (px_ins_mem rfl)) (by decide) rfl rfl w1 w2 w3
      have := List.mem_singleton.mp hy
      subst this
      exact ⟨by decide, px_xA, lA, nc⟩
    · cases h
/-- THE SOUNDNESS OF A RUN -/
theorem px_sound (C : px_Cx l S0 A0 D od sa) : ∀ (n d j pc : Nat) (lv : px_L) (st : List Value) (hp : px_H) (r : px_E), px_run d n j pc lv st hp = some r →
    ∀ (p : Program) (e : Env) (R : Room) (s : State) (m : MethodId) (args : Array Value) (below : List Frame) (meth : Method) (c : Code) (k0 z0 mc ms : Nat), px_B S0 j d k0 p R s m meth c → k0 + mc = r.2.length → z0 + ms = px_sz r.2 → mc ≤ R.cells → ms ≤ R.slots →
    px_G S0 D od p l e R s m args below meth c (vx_MQ below (px_Qc S0 D od r) (px_XC S0 D od r) args s mc ms (px_A S0)) (px_ml j) k0 z0 (pc, lv, st, hp)
  | 0, d, j, pc, lv, st, hp, r, h => by
    unfold px_run at h
    cases h
  | n + 1, d, j, pc, lv, st, hp, r, h => by
    intro p e R s m args below meth c k0 z0 mc ms B hmc hms hRc hRs
    unfold px_run at h
    split at h
    · cases h
    · rename_i i hins
      have hd : decode (px_c j) pc = .ok (i, px_len pc i) := px_dec j (pc, i) (px_ins_mem hins)
      split at h
      · cases h
      · rename_i f hs
        have hm := px_mono n d j _ _ _ _ r h
        have ih := px_sound C n d j _ _ _ _ r h p e R s m args below meth c k0 z0 mc ms B hmc hms hRc hRs
        exact px_st C B hd hs (by omega) (by omega) ih
      · rename_i r' hs
        cases h
        exact px_se C B hd hs hmc hms hRc hRs
      · rename_i q hs
        obtain ⟨idx, ps, hlink, h8, hlg, hcase⟩ := px_callinv hs
        obtain ⟨hj, hj6⟩ := px_ml_lt _ hlink
        change q.1 < 102 at hj
        change q.1 ≠ 6 at hj6
        have h23 : q.1 ≠ 2 ∧ q.1 ≠ 3 := by
          rcases hcase with ⟨-, -, k2, k3, -⟩ | ⟨_, _, _, -, k1, -⟩ | ⟨_, _, -, k1, -⟩
          · exact ⟨k2, k3⟩
          · exact px_ml_23 _ hlink (by show px_kd q.1 ≠ 0; rw [k1]; decide)
          · exact px_ml_23 _ hlink (by show px_kd q.1 ≠ 0; rw [k1]; decide)
        have hlen3 : px_len pc i = 3 := by
          rcases hcase with ⟨rfl, -⟩ | ⟨_, _, _, rfl, -⟩ | ⟨_, _, rfl, -⟩ <;> rfl
        obtain ⟨hx, hb, hml, hown, hrt, hlk, hnm, hW0, het, hfr, hlo, hsz, hk8, hold⟩ := id B
        split at h
        · cases h
        · rename_i d'
          split at h
          · cases h
          · rename_i v hp' hc
            have hg1 := px_mono n d' q.1 _ _ _ _ _ hc
            change hp.length ≤ hp'.length ∧ px_sz hp ≤ px_sz hp' at hg1
            have hg2 := px_mono n (d' + 1) j _ _ _ _ r h
            obtain ⟨mc', hmc'⟩ : ∃ x, hp.length + x = hp'.length := ⟨hp'.length - hp.length, by omega⟩
            obtain ⟨ms', hms'⟩ : ∃ x, px_sz hp + x = px_sz hp' := ⟨px_sz hp' - px_sz hp, by omega⟩
            have hM := px_met (mc := mc') (ms := ms') (r := (.inl v, hp')) C hj hj6 h23.1 h23.2 hlg (fun p e R s m args below meth c B9 h1 h2 => px_sound C n d' q.1 0 (lv_args 0 q.2.1) [] hp (.inl v, hp') hc p e R s m args below meth c hp.length (px_sz hp) mc' ms' B9 hmc' hms' h1 h2)
            have ih := px_sound C n (d' + 1) j (pc + 3) lv (v.toList ++ q.2.2) hp' r h p e R s m args below meth c k0 z0 mc ms B hmc hms hRc hRs
            intro H locs ls cells slots w1 w2 w3 w4 w5
            change px_W S0 D od hp H at w1
            change lv_has ls (px_ml j) (px_rl (px_ad od S0.heap.size) lv) at w3
            change cells + k0 = hp.length at w4
            change slots + z0 = px_sz hp at w5
            have hrun := px_callrun (e := e) (args := args) (below := below) (locs := locs) (ls := ls) (cells := cells) (slots := slots) C B hd hs w1 w3 hM (fun _ E => nofun) ⟨by omega, by omega⟩
            intro T hT X
            rcases hrun T hT X with ⟨v', st₀, t, T', L, h0, X', hL, e1, e2, ⟨v2, hv2, ho, hw⟩, go⟩ | ⟨q9, st₀, t, T', L, E, ce, h0, X', hL, e1, e2, hxc, -⟩
            · cases hv2
              cases ho
              rw [← e1] at hw
              have hK := ih T'.heap (locs ++ L) ls (cells + mc') (slots + ms') hw (fun y hy => (List.mem_append.mp hy).elim (w2 y) (hL y)) w3 (by show cells + mc' + k0 = hp'.length; omega) (by show slots + ms' + z0 = px_sz hp'; omega)
              obtain ⟨t2, a1, b1⟩ := hK T' rfl X'
              refine ⟨t2, go t2 ?_, b1⟩
              have es : (v.map (px_ren (px_ad od S0.heap.size))).toList ++ q.2.2.map (px_ren (px_ad od S0.heap.size)) = (v.toList ++ q.2.2).map (px_ren (px_ad od S0.heap.size)) := by
                cases v <;> rfl
              show Steps p.tables e below (T'.setTop (F0 m (pc + 3) ls ((v.map (px_ren (px_ad od S0.heap.size))).toList ++ q.2.2.map (px_ren (px_ad od S0.heap.size))))) t2
              rw [es]
              exact a1
            · cases hxc.1
          · rename_i E hp' hc
            have hg1 := px_mono n d' q.1 _ _ _ _ _ hc
            change hp.length ≤ hp'.length ∧ px_sz hp ≤ px_sz hp' at hg1
            split at h
            · cases h
            · rename_i hkd
              obtain ⟨mc', hmc'⟩ : ∃ x, hp.length + x = hp'.length := ⟨hp'.length - hp.length, by omega⟩
              obtain ⟨ms', hms'⟩ : ∃ x, px_sz hp + x = px_sz hp' := ⟨px_sz hp' - px_sz hp, by omega⟩
              have hM := px_met (mc := mc') (ms := ms') (r := (.inr E, hp')) C hj hj6 h23.1 h23.2 hlg (fun p e R s m args below meth c B9 h1 h2 => px_sound C n d' q.1 0 (lv_args 0 q.2.1) [] hp (.inr E, hp') hc p e R s m args below meth c hp.length (px_sz hp) mc' ms' B9 hmc' hms' h1 h2)
              have hr2 : r.2 = hp' := by
                split at h
                · cases h; rfl
                · split at h
                  · cases h; rfl
                  · cases h
              rw [hr2] at hmc hms
              intro H locs ls cells slots w1 w2 w3 w4 w5
              change px_W S0 D od hp H at w1
              change lv_has ls (px_ml j) (px_rl (px_ad od S0.heap.size) lv) at w3
              change cells + k0 = hp.length at w4
              change slots + z0 = px_sz hp at w5
              have c1 : cells + mc' = mc := by omega
              have c2 : slots + ms' = ms := by omega
              have hrun := px_callrun (e := e) (args := args) (below := below) (locs := locs) (ls := ls) (cells := cells) (slots := slots) C B hd hs w1 w3 hM (fun z => absurd z hkd) ⟨by omega, by omega⟩
              intro T hT X
              rcases hrun T hT X with ⟨v', st₀, t, T', L, h0, X', hL, e1, e2, ⟨v2, hv2, -⟩, -⟩ | ⟨q9, st₀, t, T', L, E9, ce, h0, X', hL, e1, e2, ⟨hE, hw⟩, hce, hcv, hcl, st9⟩
              · cases hv2
              · cases hE
                rw [← e1] at hw hce
                rw [c1, c2] at X'
                have hlocs : ∀ y ∈ locs ++ L, S0.heap.size ≤ y.base := fun y hy => (List.mem_append.mp hy).elim (w2 y) (hL y)
                split at h
                · rename_i x hhd
                  cases h
                  obtain ⟨t2, a1, b1⟩ := px_caught (mc := mc) (ms := ms) C B hhd hce hcv hcl hw hlocs w3 T' rfl X'
                  exact ⟨t2, st9.trans a1, b1⟩
                · split at h
                  · rename_i hhh
                    cases h
                    obtain ⟨t2, a1, b1⟩ := vx_out (mc := mc) (ms := ms) (cells := mc) (slots := ms) (pc := pc) (ls := ls) (rest := q.2.2.map (px_ren (px_ad od S0.heap.size))) (Qc := px_Qc S0 D od (.inr E, hp')) (XC := px_XC S0 D od (.inr E, hp')) (free := px_A S0) (by rw [het, hhh]; intro x hx; cases hx) hlk hce hcv hcl (fun t9 ht9 _ => ⟨rfl, by rw [ht9]; exact hw⟩) hlocs (Nat.le_refl _) (Nat.le_refl _) T' rfl X'
                    exact ⟨t2, st9.trans a1, b1⟩
                  · cases h
end PXZ
end
section
/-! the law's entry -/
def px_sv_ (n j : Nat) : Int32 := match n with
  | 1 => ([1, 0, -1, 0] : List Int32).getD j 0
  | 2 => ([0, 1, 0, -1] : List Int32).getD j 0
  | 3 => ([0, -1, -1, 0] : List Int32).getD j 0
  | 4 => ([0, 0, -1, -1] : List Int32).getD j 0
  | 5 => ([0, 0, -1, -1] : List Int32).getD j 0
  | _ => ([-1, 0, 0, -1] : List Int32).getD j 0
def px_sarr (n : Nat) : px_C := (20, [.int (px_sv_ n 0), .int (px_sv_ n 1), .int (px_sv_ n 2), .int (px_sv_ n 3)])
/-- the heap at the law's start: the script, the six static arrays, nothing -/
def px_h0 (L : Nat) (xs : Nat → Int32) : px_H := [(20, (List.range L).map (fun j => Value.int (xs j))), px_sarr 1, px_sarr 2, px_sarr 3, px_sarr 4, px_sarr 5, px_sarr 6, (30, [])]
set_option maxRecDepth 100000 in
theorem px_nw : ∀ n, n < 6 → (Cond.arrayOf (.static RX2 (px_sn (n + 1)) "[I") .int) ∈ flatC (Jvm.Cond.and given_1 narrow_1) ∧ (Cond.eq (.length (.static RX2 (px_sn (n + 1)) "[I")) (.int 4)) ∈ flatC (Jvm.Cond.and given_1 narrow_1) ∧ (∀ j, j < 4 → (Cond.eq (.elem (.static RX2 (px_sn (n + 1)) "[I") (.int (Int32.ofNat j))) (.int (px_sv_ (n + 1) j))) ∈ flatC (Jvm.Cond.and given_1 narrow_1)) ∧ Cond.laysStatic RX2 (px_sn (n + 1)) "[I" ∈ lw_tbl := by decide +kernel
set_option maxRecDepth 100000 in
theorem px_nw2 : Cond.isRef (.static Bundle.tN "UNASSIGNED_STACK" Bundle.steD) ∈ flatC (Jvm.Cond.and given_1 narrow_1) ∧ Cond.isRef (.static Bundle.tN "SUPPRESSED_SENTINEL" Bundle.listD) ∈ flatC (Jvm.Cond.and given_1 narrow_1) ∧ Cond.exactly (.string RX3 164) "java/lang/String" ∈ flatC (Jvm.Cond.and given_1 narrow_1) ∧ Cond.exactly (.string RX3 167) "java/lang/String" ∈ flatC (Jvm.Cond.and given_1 narrow_1) ∧ Cond.exactly (.string RX3 81) "java/lang/String" ∈ flatC (Jvm.Cond.and given_1 narrow_1) ∧ Cond.not (.castable "java/lang/IllegalArgumentException" "java/lang/ArrayIndexOutOfBoundsException") ∈ flatC (Jvm.Cond.and given_1 narrow_1) := by decide +kernel
def R_law : String := "ColourSumsLaw"
def lw_At (p : Program) (s : State) (m : MethodId) (meth : Method) (c : Code) (b L : Nat) (xs : Nat → Int32) : Prop :=
  p.tables.exec = Jvm.exec ∧ c.code = code ∧ meth.sig.returnType = ret ∧ c.maxLocals = 7 ∧ s.vm.findClass R_law = some m.cls ∧ (∀ w ∈ lw_tbl, w.before #[Value.ref b] s = true) ∧ va_X b L xs s s.heap ∧ b < s.heap.size ∧ meth.locks = false ∧ (Jvm.Cond.and given_1 narrow_1).before #[Value.ref b] s = true
set_option maxRecDepth 100000 in
theorem px_ctx {p : Program} {s : State} {m : MethodId} {meth : Method} {c : Code} {l : Launch} (hl : l.stackTraces = false) {b L : Nat} {xs : Nat → Int32} (C0 : lw_At p s m meth c b L xs) :
    ∃ (D : va_G) (od sa : Nat → Nat), px_Cx l s #[Value.ref b] D od sa ∧ px_W s D od (px_h0 L xs) s.heap ∧ od 0 = b := by
  obtain ⟨hx, hb, hr, hml, hown, hts, hX, hbl, hlocks, hgv⟩ := C0
  have hs := flat_of_before _ hgv
  have hA : ∀ a : Nat, a < s.heap.size → ¬ px_A s a := fun a ha h => absurd h (Nat.not_le.mpr ha)
  have hin : ∀ t, t < 5 → ∀ w ∈ u_ws (px_R t) (px_T t) (px_nf t), w ∈ lw_tbl := fun t ht w hw => (List.mem_filter.mp (px_lay_ok t ht w hw)).1
  have hins : ∀ t, t < 5 → (Cond.instantiable (px_R t) (px_nf t)).before #[Value.ref b] s = true := fun t ht => hts _ (List.mem_filter.mp (px_inst_ok t ht).1).1
  obtain ⟨c0, i0, K0⟩ := u_known hts (hin 0 (by decide)) (hins 0 (by decide))
  obtain ⟨c1, i1, K1⟩ := u_known hts (hin 1 (by decide)) (hins 1 (by decide))
  obtain ⟨c2, i2, K2⟩ := u_known hts (hin 2 (by decide)) (hins 2 (by decide))
  obtain ⟨c3, i3, K3⟩ := u_known hts (hin 3 (by decide)) (hins 3 (by decide))
  obtain ⟨c4, i4, K4⟩ := u_known hts (hin 4 (by decide)) (hins 4 (by decide))
  obtain ⟨comp, cA, kA, a1, -, a3, a4, a5⟩ := Cond.arrayOver_spec (hts (.arrayOver (.object "ColourSums$Form")) (List.mem_of_getElem? (i := 69) rfl))
  have hT : ∀ n, n < 6 → ∃ t, va_Z RX2 (px_sn (n + 1)) "[I" (.ref t) (px_A s) s s.heap ∧ va_T .int t 4 (fun j => .int (px_sv_ (n + 1) j)) (px_A s) s s.heap := by
    intro n hn
    obtain ⟨h1, h2, h3, h4⟩ := px_nw n hn
    obtain ⟨t, e1, e2⟩ := va_Tof (N := 4) (A := px_A s) (by decide) (hs _ h1) (va_eqt (hs _ h2)) (fun j hj => va_eqt (hs _ (h3 j hj))) hA
    exact ⟨t, va_Zof (hts _ h4) (hts (.initialized RX2) (List.mem_filter.mp (px_inst_ok 2 (by decide)).2).1) e1 hA, e2⟩
  obtain ⟨t1, Z1, T1⟩ := hT 0 (by decide)
  obtain ⟨t2, Z2, T2⟩ := hT 1 (by decide)
  obtain ⟨t3, Z3, T3⟩ := hT 2 (by decide)
  obtain ⟨t4, Z4, T4⟩ := hT 3 (by decide)
  obtain ⟨t5, Z5, T5⟩ := hT 4 (by decide)
  obtain ⟨t6, Z6, T6⟩ := hT 5 (by decide)
  obtain ⟨w1, w2, w3, w4, w5, w6⟩ := px_nw2
  have hini : (Cond.initialized Bundle.tN).before #[Value.ref b] s = true := hts _ (List.mem_of_getElem? (i := 45) rfl)
  have hU := vx_Zqof (A := px_A s) (hts (.laysStatic Bundle.tN "UNASSIGNED_STACK" Bundle.steD) (List.mem_of_getElem? (i := 394) rfl)) hini (hs _ w1) hA
  have hN := vx_Zqof (A := px_A s) (hts (.laysStatic Bundle.tN "SUPPRESSED_SENTINEL" Bundle.listD) (List.mem_of_getElem? (i := 396) rfl)) hini (hs _ w2) hA
  obtain ⟨s1, _, _, _, e1, -⟩ := Cond.exactly_spec (hs _ w3)
  obtain ⟨s2, _, _, _, e2, -⟩ := Cond.exactly_spec (hs _ w4)
  obtain ⟨s3, _, _, _, e3, -⟩ := Cond.exactly_spec (hs _ w5)
  have lt : ∀ {t N : Nat} {f : Nat → Value}, va_T .int t N f (px_A s) s s.heap → t < s.heap.size := fun h => by
    obtain ⟨cell, h1, -⟩ := h
    exact (Array.getElem?_eq_some_iff.mp h1).1
  refine ⟨(fun k => if k = 0 then c0 else if k = 1 then c1 else if k = 2 then c2 else if k = 3 then c3 else if k = 4 then c4 else cA, fun k => if k = 0 then i0 else if k = 1 then i1 else if k = 2 then i2 else if k = 3 then i3 else i4), fun k => if k = 1 then t1 else if k = 2 then t2 else if k = 3 then t3 else if k = 4 then t4 else if k = 5 then t5 else if k = 6 then t6 else b, fun k => if k = 0 then s1 else if k = 1 then s2 else s3, ⟨hts, ?_, ⟨kA, comp, a3, a4, a1, a5⟩, ?_, ?_, hU, hN, vk_R.of (hts _ (List.mem_of_getElem? (i := 460) rfl)) e1, vk_R.of (hts _ (List.mem_of_getElem? (i := 474) rfl)) e2, vk_R.of (hts _ (List.mem_of_getElem? (i := 484) rfl)) e3, hl, va_Nc.of (hs _ w6)⟩, ⟨Nat.le_refl 8, rfl, fun _ _ => rfl, ?_⟩, rfl⟩
  · intro t ht
    rcases (show t = 0 ∨ t = 1 ∨ t = 2 ∨ t = 3 ∨ t = 4 by omega) with rfl | rfl | rfl | rfl | rfl
    · exact K0
    · exact K1
    · exact K2
    · exact K3
    · exact K4
  · intro k hk
    rcases (show k = 0 ∨ k = 1 ∨ k = 2 ∨ k = 3 ∨ k = 4 ∨ k = 5 ∨ k = 6 ∨ k = 7 by omega) with rfl | rfl | rfl | rfl | rfl | rfl | rfl | rfl
    · exact hbl
    · exact lt T1
    · exact lt T2
    · exact lt T3
    · exact lt T4
    · exact lt T5
    · exact lt T6
    · exact hbl
  · intro n h1 h6
    rcases (show n = 1 ∨ n = 2 ∨ n = 3 ∨ n = 4 ∨ n = 5 ∨ n = 6 by omega) with rfl | rfl | rfl | rfl | rfl | rfl
    · exact Z1
    · exact Z2
    · exact Z3
    · exact Z4
    · exact Z5
    · exact Z6
  · have key : ∀ {D : va_G} {ad : Nat → Nat} {t n : Nat}, va_T .int t 4 (fun j => .int (px_sv_ n j)) (px_A s) s s.heap → px_at s D ad (px_sarr n) t s.heap := by
      intro D ad t n h
      obtain ⟨cell, g1, g2, g3, g4, g5, g6, -⟩ := h
      refine ⟨fun z => absurd z (by show ¬ (20 : Nat) < 5; decide), fun _ _ => ⟨cell, g1, g2, g3, fun z => absurd rfl z, fun z => absurd z (by show ¬ (20 : Nat) = 13; decide), fun _ => ⟨fun j v hv => ?_, g5⟩⟩, Or.inr (by show (10 : Nat) ≤ 20; decide)⟩
      have hj : j < 4 := (List.getElem?_eq_some_iff.mp hv).1
      rw [g6 j hj]
      rcases (show j = 0 ∨ j = 1 ∨ j = 2 ∨ j = 3 by omega) with rfl | rfl | rfl | rfl <;> (cases hv; rfl)
    intro k c hk
    rcases (show k = 0 ∨ k = 1 ∨ k = 2 ∨ k = 3 ∨ k = 4 ∨ k = 5 ∨ k = 6 ∨ k = 7 by have := (List.getElem?_eq_some_iff.mp hk).1; simp [px_h0] at this; omega) with rfl | rfl | rfl | rfl | rfl | rfl | rfl | rfl
    · cases hk
      obtain ⟨scr, g1, g2, g3, g4, g5⟩ := hX
      refine ⟨fun z => absurd z (by show ¬ (20 : Nat) < 5; decide), fun _ _ => ⟨scr, g1, g2, g3, fun z => absurd rfl z, fun z => absurd z (by show ¬ (20 : Nat) = 13; decide), fun _ => ⟨fun j v hv => ?_, ?_⟩⟩, Or.inr (by show (10 : Nat) ≤ 20; decide)⟩
      · have hj : j < L := by
          have := (List.getElem?_eq_some_iff.mp hv).1
          simpa using this
        have hv' : ((List.range L).map (fun j => Value.int (xs j)))[j]? = some v := hv
        rw [List.getElem?_map, List.getElem?_range hj] at hv'
        cases hv'
        exact g5 j hj
      · show scr.slots.size.toInt32 = ((List.range L).map (fun j => Value.int (xs j))).length.toInt32
        rw [g4, List.length_map, List.length_range]
    · cases hk
      exact key T1
    · cases hk
      exact key T2
    · cases hk
      exact key T3
    · cases hk
      exact key T4
    · cases hk
      exact key T5
    · cases hk
      exact key T6
    · cases hk
      exact ⟨fun z => absurd z (by show ¬ (30 : Nat) < 5; decide), fun _ z => absurd z (by show ¬ (30 : Nat) ≤ 20; decide), Or.inr (by show (10 : Nat) ≤ 30; decide)⟩
end
section
/-! rules for pure runs: the goal first -/
def px_Go (d j : Nat) (f : px_F) (r : px_E) : Prop := ∃ n, px_run d n j f.1 f.2.1 f.2.2.1 f.2.2.2 = some r
theorem px_up : ∀ (n d j pc : Nat) (lv : px_L) (st : List Value) (hp : px_H) (r : px_E), px_run d n j pc lv st hp = some r → px_run d (n + 1) j pc lv st hp = some r
  | 0, d, j, pc, lv, st, hp, r, h => by
    unfold px_run at h
    cases h
  | n + 1, d, j, pc, lv, st, hp, r, h => by
    rw [px_run] at h ⊢
    cases hins : px_ins (px_tab j) pc with
    | none => rw [hins] at h; cases h
    | some i =>
      rw [hins] at h
      dsimp only at h ⊢
      cases hs : px_step j pc lv st hp i with
      | none => rw [hs] at h; cases h
      | some x =>
        rw [hs] at h
        rcases x with f | r' | q
        · exact px_up n d j _ _ _ _ r h
        · exact h
        · cases d with
          | zero => cases h
          | succ d' =>
            dsimp only at h ⊢
            cases hc : px_run d' n q.1 0 (lv_args 0 q.2.1) [] hp with
            | none => rw [hc] at h; cases h
            | some y =>
              rw [hc] at h
              rw [px_up n d' _ _ _ _ _ _ hc]
              obtain ⟨o, hp'⟩ := y
              cases o with
              | inl v => exact px_up n (d' + 1) j _ _ _ _ r h
              | inr E => exact h
theorem px_ups {n m d j pc : Nat} {lv : px_L} {st : List Value} {hp : px_H} {r : px_E} (h : px_run d n j pc lv st hp = some r) (hm : n ≤ m) : px_run d m j pc lv st hp = some r := by
  induction hm with
  | refl => exact h
  | step _ ih => exact px_up _ _ _ _ _ _ _ _ ih
theorem px_deep : ∀ (n d j pc : Nat) (lv : px_L) (st : List Value) (hp : px_H) (r : px_E), px_run d n j pc lv st hp = some r → px_run (d + 1) n j pc lv st hp = some r
  | 0, d, j, pc, lv, st, hp, r, h => by
    unfold px_run at h
    cases h
  | n + 1, d, j, pc, lv, st, hp, r, h => by
    rw [px_run] at h ⊢
    cases hins : px_ins (px_tab j) pc with
    | none => rw [hins] at h; cases h
    | some i =>
      rw [hins] at h
      dsimp only at h ⊢
      cases hs : px_step j pc lv st hp i with
      | none => rw [hs] at h; cases h
      | some x =>
        rw [hs] at h
        rcases x with f | r' | q
        · exact px_deep n d j _ _ _ _ r h
        · exact h
        · cases d with
          | zero => cases h
          | succ d' =>
            dsimp only at h ⊢
            cases hc : px_run d' n q.1 0 (lv_args 0 q.2.1) [] hp with
            | none => rw [hc] at h; cases h
            | some y =>
              rw [hc] at h
              rw [px_deep n d' _ _ _ _ _ _ hc]
              obtain ⟨o, hp'⟩ := y
              cases o with
              | inl v => exact px_deep n (d' + 1) j _ _ _ _ r h
              | inr E => exact h
theorem px_Go.deep {d d' j : Nat} {f : px_F} {r : px_E} (h : px_Go d j f r) (hd : d ≤ d') : px_Go d' j f r := by
  induction hd with
  | refl => exact h
  | step _ ih =>
    obtain ⟨n, hn⟩ := ih
    exact ⟨n, px_deep _ _ _ _ _ _ _ _ hn⟩
section RL
variable {d j pc : Nat} {lv : px_L} {st : List Value} {hp : px_H} {r : px_E}
theorem px_r {i : Instr} {f : px_F} (hi : px_ins (px_tab j) pc = some i) (hs : px_step j pc lv st hp i = some (.inl f)) (K : px_Go d j f r) : px_Go d j (pc, lv, st, hp) r := by
  obtain ⟨n, hn⟩ := K
  refine ⟨n + 1, ?_⟩
  show px_run d (n + 1) j pc lv st hp = some r
  unfold px_run
  simp only [hi, hs]
  exact hn
def px_adv (j : Nat) : Nat → px_F → Option px_F
  | 0, f => some f
  | k + 1, f => match px_ins (px_tab j) f.1 with
    | none => none
    | some i => match px_step j f.1 f.2.1 f.2.2.1 f.2.2.2 i with
      | some (.inl f') => px_adv j k f'
      | _ => none
theorem px_a (k : Nat) {f f' : px_F} (h : px_adv j k f = some f') (K : px_Go d j f' r) : px_Go d j f r := by
  induction k generalizing f with
  | zero => cases h; exact K
  | succ k ih =>
    unfold px_adv at h
    split at h
    · cases h
    · rename_i i hi
      split at h
      · rename_i f1 hs
        exact px_r (pc := f.1) (lv := f.2.1) (st := f.2.2.1) (hp := f.2.2.2) hi hs (ih h)
      · cases h
theorem px_e {i : Instr} (hi : px_ins (px_tab j) pc = some i) (hs : px_step j pc lv st hp i = some (.inr (.inl r))) : px_Go d j (pc, lv, st, hp) r := by
  refine ⟨1, ?_⟩
  show px_run d 1 j pc lv st hp = some r
  unfold px_run
  simp only [hi, hs]
theorem px_cl {i : Instr} {j' : Nat} {as rest : List Value} {v : Option Value} {hp' : px_H} (hi : px_ins (px_tab j) pc = some i) (hs : px_step j pc lv st hp i = some (.inr (.inr (j', as, rest)))) (hc : px_Go d j' (0, lv_args 0 as, [], hp) (.inl v, hp')) (K : px_Go (d + 1) j (pc + 3, lv, v.toList ++ rest, hp') r) : px_Go (d + 1) j (pc, lv, st, hp) r := by
  obtain ⟨n1, h1⟩ := hc
  obtain ⟨n2, h2⟩ := K
  refine ⟨max n1 n2 + 1, ?_⟩
  show px_run (d + 1) (max n1 n2 + 1) j pc lv st hp = some r
  unfold px_run
  have h1' : px_run d (max n1 n2) j' 0 (lv_args 0 as) [] hp = some (.inl v, hp') := px_ups h1 (Nat.le_max_left _ _)
  have h2' : px_run (d + 1) (max n1 n2) j (pc + 3) lv (v.toList ++ rest) hp' = some r := px_ups h2 (Nat.le_max_right _ _)
  simp only [hi, hs, h1']
  exact h2'
/-- a callee throws, and it goes on -/
theorem px_ct {i : Instr} {j' : Nat} {as rest : List Value} {E : String} {hp' : px_H} (hi : px_ins (px_tab j) pc = some i) (hs : px_step j pc lv st hp i = some (.inr (.inr (j', as, rest)))) (hc : px_Go d j' (0, lv_args 0 as, [], hp) (.inr E, hp')) (hk : px_kd j' ≠ 2) (hh : px_hd j pc E = none) (hhh : px_hh j = []) : px_Go (d + 1) j (pc, lv, st, hp) (.inr E, hp') := by
  obtain ⟨n1, h1⟩ := hc
  refine ⟨n1 + 1, ?_⟩
  show px_run (d + 1) (n1 + 1) j pc lv st hp = some (.inr E, hp')
  unfold px_run
  have h1' : px_run d n1 j' 0 (lv_args 0 as) [] hp = some (.inr E, hp') := h1
  simp only [hi, hs, h1', hk, hh, hhh, if_true, if_false]
/-- a callee throws, and it is caught -/
theorem px_cc {i : Instr} {j' : Nat} {as rest : List Value} {E : String} {hp' : px_H} {x : Int32} (hi : px_ins (px_tab j) pc = some i) (hs : px_step j pc lv st hp i = some (.inr (.inr (j', as, rest)))) (hc : px_Go d j' (0, lv_args 0 as, [], hp) (.inr E, hp')) (hk : px_kd j' ≠ 2) (hh : px_hd j pc E = some x) : px_Go (d + 1) j (pc, lv, st, hp) (.inl (some (.int x)), hp') := by
  obtain ⟨n1, h1⟩ := hc
  refine ⟨n1 + 1, ?_⟩
  show px_run (d + 1) (n1 + 1) j pc lv st hp = some (.inl (some (.int x)), hp')
  unfold px_run
  have h1' : px_run d n1 j' 0 (lv_args 0 as) [] hp = some (.inr E, hp') := h1
  simp only [hi, hs, h1', hk, hh, if_false]
/-! heap rules -/
theorem px_gf (a idx ci k : Nat) {q : Nat × Nat} {vs rs : List Value} (v : Value) (hi : px_ins (px_tab j) pc = some (.getfield idx)) (hl : px_lk px_fl_ (px_cn j) idx = some (ci, k, q)) (hh : hp[a]? = some (ci, vs)) (hv : vs[k]? = some v) (K : px_Go d j (pc + 3, lv, v :: rs, hp) r) : px_Go d j (pc, lv, .ref a :: rs, hp) r :=
  px_r hi (by simp only [px_step, px_getf, hl, hh, hv, if_true]; rfl) K
theorem px_pf (a idx ci k : Nat) {ps : Nat} {vs rs : List Value} {v : Value} (hi : px_ins (px_tab j) pc = some (.putfield idx)) (hl : px_lk px_fl_ (px_cn j) idx = some (ci, k, ps, 0)) (hh : hp[a]? = some (ci, vs)) (h8 : 8 ≤ a) (hk : k < vs.length) (hn : narrow (px_ft ci k) v = v) (hf : fits (px_ft ci k) v = true) (hfin : px_fin ci k = true → px_kd j = 2 ∧ px_cn j = ci)
    (K : px_Go d j (pc + 3, lv, rs, hp.set a (ci, vs.set k v)) r) : px_Go d j (pc, lv, v :: .ref a :: rs, hp) r :=
  px_r hi (by
    simp only [px_step, px_putf, hl, hh]
    rw [if_pos ⟨trivial, h8, hk, trivial, hn, hf, hfin⟩]
    rfl) K
theorem px_al (a : Nat) {i : Instr} {x : Int32} {t : Nat} {vs rs : List Value} (v : Value) (hi : px_ins (px_tab j) pc = some i) (hh : hp[a]? = some (t, vs)) (hok : (i = .iaload ∧ (t = 10 ∨ t = 20)) ∨ (i = .laload ∧ t = 11) ∨ (i = .baload ∧ t = 12) ∨ (i = .aaload ∧ (t = 13 ∨ t = 14))) (h0 : ¬ x < 0) (hv : vs[x.toNatClampNeg]? = some v) (K : px_Go d j (pc + 1, lv, v :: rs, hp) r) : px_Go d j (pc, lv, .int x :: .ref a :: rs, hp) r :=
  px_r hi (by
    rcases hok with ⟨rfl, rfl | rfl⟩ | ⟨rfl, rfl⟩ | ⟨rfl, rfl⟩ | ⟨rfl, rfl | rfl⟩ <;> simp [px_step, px_ald, hh, h0, hv, px_go]) K
theorem px_ias (a : Nat) {x y : Int32} {vs rs : List Value} (hi : px_ins (px_tab j) pc = some .iastore) (hh : hp[a]? = some (10, vs)) (h8 : 8 ≤ a) (h0 : ¬ x < 0) (hl : x.toNatClampNeg < vs.length) (K : px_Go d j (pc + 1, lv, rs, hp.set a (10, vs.set x.toNatClampNeg (.int y))) r) : px_Go d j (pc, lv, .int y :: .int x :: .ref a :: rs, hp) r :=
  px_r hi (by simp [px_step, px_iast, hh, h0, h8, hl, px_go, px_set]) K
theorem px_las (a : Nat) {x : Int32} {y : Int64} {vs rs : List Value} (hi : px_ins (px_tab j) pc = some .lastore) (hh : hp[a]? = some (11, vs)) (h8 : 8 ≤ a) (h0 : ¬ x < 0) (hl : x.toNatClampNeg < vs.length) (K : px_Go d j (pc + 1, lv, rs, hp.set a (11, vs.set x.toNatClampNeg (.long y))) r) : px_Go d j (pc, lv, .long y :: .int x :: .ref a :: rs, hp) r :=
  px_r hi (by simp [px_step, px_last, hh, h0, h8, hl, px_go, px_set]) K
theorem px_zas (a : Nat) {x y : Int32} {vs rs : List Value} (hi : px_ins (px_tab j) pc = some .bastore) (hh : hp[a]? = some (12, vs)) (h8 : 8 ≤ a) (h0 : ¬ x < 0) (hl : x.toNatClampNeg < vs.length) (hn : narrow .boolean (.int y) = .int y) (K : px_Go d j (pc + 1, lv, rs, hp.set a (12, vs.set x.toNatClampNeg (.int y))) r) : px_Go d j (pc, lv, .int y :: .int x :: .ref a :: rs, hp) r :=
  px_r hi (by simp [px_step, px_zast, hh, h0, h8, hl, hn, px_go, px_set]) K
theorem px_len_ (a : Nat) {t : Nat} {vs rs : List Value} (hi : px_ins (px_tab j) pc = some .arraylength) (hh : hp[a]? = some (t, vs)) (h1 : 10 ≤ t) (h2 : t ≤ 20) (K : px_Go d j (pc + 1, lv, .int vs.length.toInt32 :: rs, hp) r) : px_Go d j (pc, lv, .ref a :: rs, hp) r :=
  px_r hi (by simp [px_step, px_alen, hh, h1, h2, px_go]) K
/-! branches -/
theorem px_b1 {cond : ClassFile.Cond} {off : Int} {x : Int32} {rs : List Value} (b : Bool) (t : Nat) (hi : px_ins (px_tab j) pc = some (.ifCond cond off)) (ht : (pc : Int) + off = (t : Int)) (hb : px_c1 cond x = b) (K : px_Go d j (if b = true then t else pc + 3, lv, rs, hp) r) : px_Go d j (pc, lv, .int x :: rs, hp) r :=
  px_r hi (by
    have h0 : (0 : Int) ≤ (pc : Int) + off := by rw [ht]; exact Int.natCast_nonneg t
    have h1 : ((pc : Int) + off).toNat = t := by rw [ht]; exact Int.toNat_natCast t
    simp only [px_step, px_if, hb, h0, h1, if_true]
    cases b <;> rfl) K
theorem px_b2 {cond : ClassFile.Cond} {off : Int} {x y : Int32} {rs : List Value} (b : Bool) (t : Nat) (hi : px_ins (px_tab j) pc = some (.if_icmp cond off)) (ht : (pc : Int) + off = (t : Int)) (hb : px_c2 cond x y = b) (K : px_Go d j (if b = true then t else pc + 3, lv, rs, hp) r) : px_Go d j (pc, lv, .int y :: .int x :: rs, hp) r :=
  px_r hi (by
    have h0 : (0 : Int) ≤ (pc : Int) + off := by rw [ht]; exact Int.natCast_nonneg t
    have h1 : ((pc : Int) + off).toNat = t := by rw [ht]; exact Int.toNat_natCast t
    simp only [px_step, px_if, hb, h0, h1, if_true]
    cases b <;> rfl) K
/-! calls of an object's method -/
theorem px_cv (a : Nat) {idx j' ps t : Nat} {vs as rest : List Value} {v : Option Value} {hp' : px_H} (hi : px_ins (px_tab j) pc = some (.invokevirtual idx)) (hl : px_lk px_ml_ (px_cn j) idx = some (j', ps)) (hh : hp[a]? = some (t, vs)) (ht : t = px_cn j') (hkd : px_kd j' = 1) (hnp : px_np j' = as.length) (h8 : px_ok8 rest = true) (hlg : (lg_sl (.ref a :: as)).length ≤ px_ml j')
    (hc : px_Go d j' (0, lv_args 0 (.ref a :: as), [], hp) (.inl v, hp')) (K : px_Go (d + 1) j (pc + 3, lv, v.toList ++ rest, hp') r) : px_Go (d + 1) j (pc, lv, as.reverse ++ .ref a :: rest, hp) r := by
  refine px_cl (as := .ref a :: as) (rest := rest) hi ?_ hc K
  have e1 : (as.reverse ++ Value.ref a :: rest).drop (px_np j') = .ref a :: rest := by rw [hnp, ← List.length_reverse, List.drop_left]
  have e2 : (as.reverse ++ Value.ref a :: rest).take (px_np j') = as.reverse := by rw [hnp, ← List.length_reverse, List.take_left]
  have e3 : px_kd j' = 1 ∧ px_np j' ≤ (as.reverse ++ Value.ref a :: rest).length ∧ t = px_cn j' := ⟨hkd, by rw [hnp]; simp, ht⟩
  simp only [px_step, px_invv, hl, e1, hh, e2, List.reverse_reverse]
  rw [if_pos e3]
  simp only [px_call]
  rw [if_pos ⟨h8, hlg⟩]
theorem px_cvt (a : Nat) {idx j' ps t : Nat} {vs as rest : List Value} {E : String} {hp' : px_H} (hi : px_ins (px_tab j) pc = some (.invokevirtual idx)) (hl : px_lk px_ml_ (px_cn j) idx = some (j', ps)) (hh : hp[a]? = some (t, vs)) (ht : t = px_cn j') (hkd : px_kd j' = 1) (hnp : px_np j' = as.length) (h8 : px_ok8 rest = true) (hlg : (lg_sl (.ref a :: as)).length ≤ px_ml j')
    (hc : px_Go d j' (0, lv_args 0 (.ref a :: as), [], hp) (.inr E, hp')) (hH : px_hd j pc E = none) (hhh : px_hh j = []) : px_Go (d + 1) j (pc, lv, as.reverse ++ .ref a :: rest, hp) (.inr E, hp') := by
  refine px_ct (as := .ref a :: as) (rest := rest) hi ?_ hc (by rw [hkd]; decide) hH hhh
  have e1 : (as.reverse ++ Value.ref a :: rest).drop (px_np j') = .ref a :: rest := by rw [hnp, ← List.length_reverse, List.drop_left]
  have e2 : (as.reverse ++ Value.ref a :: rest).take (px_np j') = as.reverse := by rw [hnp, ← List.length_reverse, List.take_left]
  have e3 : px_kd j' = 1 ∧ px_np j' ≤ (as.reverse ++ Value.ref a :: rest).length ∧ t = px_cn j' := ⟨hkd, by rw [hnp]; simp, ht⟩
  simp only [px_step, px_invv, hl, e1, hh, e2, List.reverse_reverse]
  rw [if_pos e3]
  simp only [px_call]
  rw [if_pos ⟨h8, hlg⟩]
theorem px_cvc (a : Nat) {idx j' ps t : Nat} {vs as rest : List Value} {E : String} {hp' : px_H} {x : Int32} (hi : px_ins (px_tab j) pc = some (.invokevirtual idx)) (hl : px_lk px_ml_ (px_cn j) idx = some (j', ps)) (hh : hp[a]? = some (t, vs)) (ht : t = px_cn j') (hkd : px_kd j' = 1) (hnp : px_np j' = as.length) (h8 : px_ok8 rest = true) (hlg : (lg_sl (.ref a :: as)).length ≤ px_ml j')
    (hc : px_Go d j' (0, lv_args 0 (.ref a :: as), [], hp) (.inr E, hp')) (hH : px_hd j pc E = some x) : px_Go (d + 1) j (pc, lv, as.reverse ++ .ref a :: rest, hp) (.inl (some (.int x)), hp') := by
  refine px_cc (as := .ref a :: as) (rest := rest) hi ?_ hc (by rw [hkd]; decide) hH
  have e1 : (as.reverse ++ Value.ref a :: rest).drop (px_np j') = .ref a :: rest := by rw [hnp, ← List.length_reverse, List.drop_left]
  have e2 : (as.reverse ++ Value.ref a :: rest).take (px_np j') = as.reverse := by rw [hnp, ← List.length_reverse, List.take_left]
  have e3 : px_kd j' = 1 ∧ px_np j' ≤ (as.reverse ++ Value.ref a :: rest).length ∧ t = px_cn j' := ⟨hkd, by rw [hnp]; simp, ht⟩
  simp only [px_step, px_invv, hl, e1, hh, e2, List.reverse_reverse]
  rw [if_pos e3]
  simp only [px_call]
  rw [if_pos ⟨h8, hlg⟩]
end RL
theorem px_self {hp : px_H} {a : Nat} {c c' : px_C} (h : hp[a]? = some c) : (hp.set a c')[a]? = some c' := List.getElem?_set_self (List.getElem?_eq_some_iff.mp h).1
theorem px_ne {hp : px_H} {a b : Nat} {c : px_C} {x : Option px_C} (h : hp[b]? = x) (hne : a ≠ b) : (hp.set a c)[b]? = x := by rw [List.getElem?_set_ne hne]; exact h
theorem px_same {hp : px_H} {a : Nat} {c : px_C} (h : hp[a]? = some c) : hp.set a c = hp := by
  apply List.ext_getElem?
  intro k
  by_cases hk : k = a
  · subst hk
    rw [px_self h, h]
  · rw [List.getElem?_set_ne (Ne.symm hk)]
theorem px_vsame {vs : List Value} {k : Nat} {v : Value} (h : vs[k]? = some v) : vs.set k v = vs := by
  apply List.ext_getElem?
  intro i
  by_cases hi : i = k
  · subst hi
    rw [List.getElem?_set_self (List.getElem?_eq_some_iff.mp h).1, h]
  · rw [List.getElem?_set_ne (Ne.symm hi)]
end
