section
-- ===== PART A: goes FIRST, ahead of the names: the tables' words, and 'selects' of the private methods out of them =====
/-- a private method of a class that the tables say can be made, by its rows of tables_1 -/
def lw_okq (q : MethodName × Nat) : Prop := (q.1.cls ≠ "java/lang/invoke/MethodHandle" ∧ q.1.cls ≠ "java/lang/invoke/VarHandle") ∧ Cond.instantiable q.1.cls q.2 ∈ tables_1 ∧ Cond.privateMethod q.1 ∈ tables_1 ∧ Cond.instanceMethod q.1 ∈ tables_1
theorem lw_p0 : lw_okq (⟨"ConsonantIndex", "recordChange", "()V"⟩, 10) := ⟨⟨by decide +kernel, by decide +kernel⟩, List.mem_of_getElem? (i := 14) (by decide +kernel), List.mem_of_getElem? (i := 201) (by decide +kernel), List.mem_of_getElem? (i := 202) (by decide +kernel)⟩
theorem lw_p1 : lw_okq (⟨"ConsonantIndex", "fillAsIfMerged", "(LConsonantIndex$Ear;II)V"⟩, 10) := ⟨⟨by decide +kernel, by decide +kernel⟩, List.mem_of_getElem? (i := 14) (by decide +kernel), List.mem_of_getElem? (i := 481) (by decide +kernel), List.mem_of_getElem? (i := 482) (by decide +kernel)⟩
theorem lw_p2 : lw_okq (⟨"ConsonantIndexModel", "record", "()V"⟩, 18) := ⟨⟨by decide +kernel, by decide +kernel⟩, List.mem_of_getElem? (i := 531) (by decide +kernel), List.mem_of_getElem? (i := 610) (by decide +kernel), List.mem_of_getElem? (i := 611) (by decide +kernel)⟩
theorem lw_p3 : lw_okq (⟨"ConsonantIndexModel", "faultOf", "()I"⟩, 18) := ⟨⟨by decide +kernel, by decide +kernel⟩, List.mem_of_getElem? (i := 531) (by decide +kernel), List.mem_of_getElem? (i := 631) (by decide +kernel), List.mem_of_getElem? (i := 632) (by decide +kernel)⟩
theorem lw_p4 : lw_okq (⟨"ConsonantIndexModel", "takePad", "()V"⟩, 18) := ⟨⟨by decide +kernel, by decide +kernel⟩, List.mem_of_getElem? (i := 531) (by decide +kernel), List.mem_of_getElem? (i := 639) (by decide +kernel), List.mem_of_getElem? (i := 640) (by decide +kernel)⟩
theorem lw_p5 : lw_okq (⟨"ConsonantIndexModel", "isWord", "(I)Z"⟩, 18) := ⟨⟨by decide +kernel, by decide +kernel⟩, List.mem_of_getElem? (i := 531) (by decide +kernel), List.mem_of_getElem? (i := 643) (by decide +kernel), List.mem_of_getElem? (i := 644) (by decide +kernel)⟩
theorem lw_p6 : lw_okq (⟨"ConsonantIndexModel", "lengthOf", "(I)I"⟩, 18) := ⟨⟨by decide +kernel, by decide +kernel⟩, List.mem_of_getElem? (i := 531) (by decide +kernel), List.mem_of_getElem? (i := 647) (by decide +kernel), List.mem_of_getElem? (i := 648) (by decide +kernel)⟩
theorem lw_p7 : lw_okq (⟨"ConsonantIndexModel", "letterOf", "(II)I"⟩, 18) := ⟨⟨by decide +kernel, by decide +kernel⟩, List.mem_of_getElem? (i := 531) (by decide +kernel), List.mem_of_getElem? (i := 651) (by decide +kernel), List.mem_of_getElem? (i := 652) (by decide +kernel)⟩
theorem lw_p8 : lw_okq (⟨"ConsonantIndexModel", "isName", "(I)Z"⟩, 18) := ⟨⟨by decide +kernel, by decide +kernel⟩, List.mem_of_getElem? (i := 531) (by decide +kernel), List.mem_of_getElem? (i := 659) (by decide +kernel), List.mem_of_getElem? (i := 660) (by decide +kernel)⟩
theorem lw_p9 : lw_okq (⟨"ConsonantIndexModel", "takeName", "(I)V"⟩, 18) := ⟨⟨by decide +kernel, by decide +kernel⟩, List.mem_of_getElem? (i := 531) (by decide +kernel), List.mem_of_getElem? (i := 667) (by decide +kernel), List.mem_of_getElem? (i := 668) (by decide +kernel)⟩
theorem lw_p10 : lw_okq (⟨"ConsonantIndexModel", "distanceTo", "(I)I"⟩, 18) := ⟨⟨by decide +kernel, by decide +kernel⟩, List.mem_of_getElem? (i := 531) (by decide +kernel), List.mem_of_getElem? (i := 671) (by decide +kernel), List.mem_of_getElem? (i := 672) (by decide +kernel)⟩
theorem lw_p11 : lw_okq (⟨"ConsonantIndexModel", "isEar", "(I)Z"⟩, 18) := ⟨⟨by decide +kernel, by decide +kernel⟩, List.mem_of_getElem? (i := 531) (by decide +kernel), List.mem_of_getElem? (i := 682) (by decide +kernel), List.mem_of_getElem? (i := 683) (by decide +kernel)⟩
theorem lw_p12 : lw_okq (⟨"ConsonantIndexModel", "at", "(II)I"⟩, 18) := ⟨⟨by decide +kernel, by decide +kernel⟩, List.mem_of_getElem? (i := 531) (by decide +kernel), List.mem_of_getElem? (i := 686) (by decide +kernel), List.mem_of_getElem? (i := 687) (by decide +kernel)⟩
theorem lw_p13 : lw_okq (⟨"ConsonantIndexModel", "lay", "(III)V"⟩, 18) := ⟨⟨by decide +kernel, by decide +kernel⟩, List.mem_of_getElem? (i := 531) (by decide +kernel), List.mem_of_getElem? (i := 690) (by decide +kernel), List.mem_of_getElem? (i := 691) (by decide +kernel)⟩
theorem lw_p14 : lw_okq (⟨"ConsonantIndexModel", "clean", "(I)V"⟩, 18) := ⟨⟨by decide +kernel, by decide +kernel⟩, List.mem_of_getElem? (i := 531) (by decide +kernel), List.mem_of_getElem? (i := 707) (by decide +kernel), List.mem_of_getElem? (i := 708) (by decide +kernel)⟩
theorem lw_p15 : lw_okq (⟨"ConsonantIndexModel", "secondOf", "(II)I"⟩, 18) := ⟨⟨by decide +kernel, by decide +kernel⟩, List.mem_of_getElem? (i := 531) (by decide +kernel), List.mem_of_getElem? (i := 715) (by decide +kernel), List.mem_of_getElem? (i := 716) (by decide +kernel)⟩
def lw_privs_1 : List (MethodName × Nat) := [(⟨"ConsonantIndex", "recordChange", "()V"⟩, 10), (⟨"ConsonantIndex", "fillAsIfMerged", "(LConsonantIndex$Ear;II)V"⟩, 10), (⟨"ConsonantIndexModel", "record", "()V"⟩, 18), (⟨"ConsonantIndexModel", "faultOf", "()I"⟩, 18), (⟨"ConsonantIndexModel", "takePad", "()V"⟩, 18), (⟨"ConsonantIndexModel", "isWord", "(I)Z"⟩, 18), (⟨"ConsonantIndexModel", "lengthOf", "(I)I"⟩, 18), (⟨"ConsonantIndexModel", "letterOf", "(II)I"⟩, 18), (⟨"ConsonantIndexModel", "isName", "(I)Z"⟩, 18), (⟨"ConsonantIndexModel", "takeName", "(I)V"⟩, 18), (⟨"ConsonantIndexModel", "distanceTo", "(I)I"⟩, 18), (⟨"ConsonantIndexModel", "isEar", "(I)Z"⟩, 18), (⟨"ConsonantIndexModel", "at", "(II)I"⟩, 18), (⟨"ConsonantIndexModel", "lay", "(III)V"⟩, 18), (⟨"ConsonantIndexModel", "clean", "(I)V"⟩, 18), (⟨"ConsonantIndexModel", "secondOf", "(II)I"⟩, 18)]
theorem lw_r1 : ∀ q ∈ lw_privs_1, lw_okq q := List.forall_mem_cons.mpr ⟨lw_p0, List.forall_mem_cons.mpr ⟨lw_p1, List.forall_mem_cons.mpr ⟨lw_p2, List.forall_mem_cons.mpr ⟨lw_p3, List.forall_mem_cons.mpr ⟨lw_p4, List.forall_mem_cons.mpr ⟨lw_p5, List.forall_mem_cons.mpr ⟨lw_p6, List.forall_mem_cons.mpr ⟨lw_p7, List.forall_mem_cons.mpr ⟨lw_p8, List.forall_mem_cons.mpr ⟨lw_p9, List.forall_mem_cons.mpr ⟨lw_p10, List.forall_mem_cons.mpr ⟨lw_p11, List.forall_mem_cons.mpr ⟨lw_p12, List.forall_mem_cons.mpr ⟨lw_p13, List.forall_mem_cons.mpr ⟨lw_p14, List.forall_mem_cons.mpr ⟨lw_p15, fun _ h => absurd h List.not_mem_nil⟩⟩⟩⟩⟩⟩⟩⟩⟩⟩⟩⟩⟩⟩⟩⟩
theorem lw_p16 : lw_okq (⟨"ConsonantIndexModel", "mergeKinds", "(III)V"⟩, 18) := ⟨⟨by decide +kernel, by decide +kernel⟩, List.mem_of_getElem? (i := 531) (by decide +kernel), List.mem_of_getElem? (i := 730) (by decide +kernel), List.mem_of_getElem? (i := 731) (by decide +kernel)⟩
theorem lw_p17 : lw_okq (⟨"ConsonantIndexModel", "lettersOf", "(II)I"⟩, 18) := ⟨⟨by decide +kernel, by decide +kernel⟩, List.mem_of_getElem? (i := 531) (by decide +kernel), List.mem_of_getElem? (i := 734) (by decide +kernel), List.mem_of_getElem? (i := 735) (by decide +kernel)⟩
theorem lw_p18 : lw_okq (⟨"ConsonantIndexModel", "forgetOldest", "(I)V"⟩, 18) := ⟨⟨by decide +kernel, by decide +kernel⟩, List.mem_of_getElem? (i := 531) (by decide +kernel), List.mem_of_getElem? (i := 738) (by decide +kernel), List.mem_of_getElem? (i := 739) (by decide +kernel)⟩
theorem lw_p19 : lw_okq (⟨"ConsonantIndexModel", "letterSet", "(I)I"⟩, 18) := ⟨⟨by decide +kernel, by decide +kernel⟩, List.mem_of_getElem? (i := 531) (by decide +kernel), List.mem_of_getElem? (i := 753) (by decide +kernel), List.mem_of_getElem? (i := 754) (by decide +kernel)⟩
theorem lw_p20 : lw_okq (⟨"ConsonantIndexModel", "hearAll", "(I)V"⟩, 18) := ⟨⟨by decide +kernel, by decide +kernel⟩, List.mem_of_getElem? (i := 531) (by decide +kernel), List.mem_of_getElem? (i := 765) (by decide +kernel), List.mem_of_getElem? (i := 766) (by decide +kernel)⟩
theorem lw_p21 : lw_okq (⟨"ConsonantIndexModel", "hearWord", "(I)V"⟩, 18) := ⟨⟨by decide +kernel, by decide +kernel⟩, List.mem_of_getElem? (i := 531) (by decide +kernel), List.mem_of_getElem? (i := 769) (by decide +kernel), List.mem_of_getElem? (i := 770) (by decide +kernel)⟩
theorem lw_p22 : lw_okq (⟨"ConsonantIndexModel", "codeBy", "(II)J"⟩, 18) := ⟨⟨by decide +kernel, by decide +kernel⟩, List.mem_of_getElem? (i := 531) (by decide +kernel), List.mem_of_getElem? (i := 773) (by decide +kernel), List.mem_of_getElem? (i := 774) (by decide +kernel)⟩
theorem lw_p23 : lw_okq (⟨"ConsonantIndexModel", "byHabit", "(II)I"⟩, 18) := ⟨⟨by decide +kernel, by decide +kernel⟩, List.mem_of_getElem? (i := 531) (by decide +kernel), List.mem_of_getElem? (i := 777) (by decide +kernel), List.mem_of_getElem? (i := 778) (by decide +kernel)⟩
theorem lw_p24 : lw_okq (⟨"ConsonantIndexModel", "hasHabit", "(II)Z"⟩, 18) := ⟨⟨by decide +kernel, by decide +kernel⟩, List.mem_of_getElem? (i := 531) (by decide +kernel), List.mem_of_getElem? (i := 781) (by decide +kernel), List.mem_of_getElem? (i := 782) (by decide +kernel)⟩
theorem lw_p25 : lw_okq (⟨"ConsonantIndexModel", "isBehindOne", "(I)Z"⟩, 18) := ⟨⟨by decide +kernel, by decide +kernel⟩, List.mem_of_getElem? (i := 531) (by decide +kernel), List.mem_of_getElem? (i := 785) (by decide +kernel), List.mem_of_getElem? (i := 786) (by decide +kernel)⟩
theorem lw_p26 : lw_okq (⟨"ConsonantIndexModel", "drawerWith", "(J)I"⟩, 18) := ⟨⟨by decide +kernel, by decide +kernel⟩, List.mem_of_getElem? (i := 531) (by decide +kernel), List.mem_of_getElem? (i := 791) (by decide +kernel), List.mem_of_getElem? (i := 792) (by decide +kernel)⟩
theorem lw_p27 : lw_okq (⟨"ConsonantIndexModel", "fullest", "()I"⟩, 18) := ⟨⟨by decide +kernel, by decide +kernel⟩, List.mem_of_getElem? (i := 531) (by decide +kernel), List.mem_of_getElem? (i := 795) (by decide +kernel), List.mem_of_getElem? (i := 796) (by decide +kernel)⟩
theorem lw_p28 : lw_okq (⟨"ConsonantIndexModel", "namesWith", "(J)I"⟩, 18) := ⟨⟨by decide +kernel, by decide +kernel⟩, List.mem_of_getElem? (i := 531) (by decide +kernel), List.mem_of_getElem? (i := 799) (by decide +kernel), List.mem_of_getElem? (i := 800) (by decide +kernel)⟩
theorem lw_p29 : lw_okq (⟨"ConsonantIndexModel", "hasCode", "(IJ)Z"⟩, 18) := ⟨⟨by decide +kernel, by decide +kernel⟩, List.mem_of_getElem? (i := 531) (by decide +kernel), List.mem_of_getElem? (i := 803) (by decide +kernel), List.mem_of_getElem? (i := 804) (by decide +kernel)⟩
theorem lw_p30 : lw_okq (⟨"ConsonantIndexModel", "namesInTwo", "()I"⟩, 18) := ⟨⟨by decide +kernel, by decide +kernel⟩, List.mem_of_getElem? (i := 531) (by decide +kernel), List.mem_of_getElem? (i := 807) (by decide +kernel), List.mem_of_getElem? (i := 808) (by decide +kernel)⟩
theorem lw_p31 : lw_okq (⟨"ConsonantIndexModel", "pairs", "(I)I"⟩, 18) := ⟨⟨by decide +kernel, by decide +kernel⟩, List.mem_of_getElem? (i := 531) (by decide +kernel), List.mem_of_getElem? (i := 811) (by decide +kernel), List.mem_of_getElem? (i := 812) (by decide +kernel)⟩
def lw_privs_2 : List (MethodName × Nat) := [(⟨"ConsonantIndexModel", "mergeKinds", "(III)V"⟩, 18), (⟨"ConsonantIndexModel", "lettersOf", "(II)I"⟩, 18), (⟨"ConsonantIndexModel", "forgetOldest", "(I)V"⟩, 18), (⟨"ConsonantIndexModel", "letterSet", "(I)I"⟩, 18), (⟨"ConsonantIndexModel", "hearAll", "(I)V"⟩, 18), (⟨"ConsonantIndexModel", "hearWord", "(I)V"⟩, 18), (⟨"ConsonantIndexModel", "codeBy", "(II)J"⟩, 18), (⟨"ConsonantIndexModel", "byHabit", "(II)I"⟩, 18), (⟨"ConsonantIndexModel", "hasHabit", "(II)Z"⟩, 18), (⟨"ConsonantIndexModel", "isBehindOne", "(I)Z"⟩, 18), (⟨"ConsonantIndexModel", "drawerWith", "(J)I"⟩, 18), (⟨"ConsonantIndexModel", "fullest", "()I"⟩, 18), (⟨"ConsonantIndexModel", "namesWith", "(J)I"⟩, 18), (⟨"ConsonantIndexModel", "hasCode", "(IJ)Z"⟩, 18), (⟨"ConsonantIndexModel", "namesInTwo", "()I"⟩, 18), (⟨"ConsonantIndexModel", "pairs", "(I)I"⟩, 18)]
theorem lw_r2 : ∀ q ∈ lw_privs_2, lw_okq q := List.forall_mem_cons.mpr ⟨lw_p16, List.forall_mem_cons.mpr ⟨lw_p17, List.forall_mem_cons.mpr ⟨lw_p18, List.forall_mem_cons.mpr ⟨lw_p19, List.forall_mem_cons.mpr ⟨lw_p20, List.forall_mem_cons.mpr ⟨lw_p21, List.forall_mem_cons.mpr ⟨lw_p22, List.forall_mem_cons.mpr ⟨lw_p23, List.forall_mem_cons.mpr ⟨lw_p24, List.forall_mem_cons.mpr ⟨lw_p25, List.forall_mem_cons.mpr ⟨lw_p26, List.forall_mem_cons.mpr ⟨lw_p27, List.forall_mem_cons.mpr ⟨lw_p28, List.forall_mem_cons.mpr ⟨lw_p29, List.forall_mem_cons.mpr ⟨lw_p30, List.forall_mem_cons.mpr ⟨lw_p31, fun _ h => absurd h List.not_mem_nil⟩⟩⟩⟩⟩⟩⟩⟩⟩⟩⟩⟩⟩⟩⟩⟩
theorem lw_p32 : lw_okq (⟨"ConsonantIndexModel", "likeOnes", "(I)I"⟩, 18) := ⟨⟨by decide +kernel, by decide +kernel⟩, List.mem_of_getElem? (i := 531) (by decide +kernel), List.mem_of_getElem? (i := 815) (by decide +kernel), List.mem_of_getElem? (i := 816) (by decide +kernel)⟩
theorem lw_p33 : lw_okq (⟨"ConsonantIndexModel", "haveCommon", "(II)Z"⟩, 18) := ⟨⟨by decide +kernel, by decide +kernel⟩, List.mem_of_getElem? (i := 531) (by decide +kernel), List.mem_of_getElem? (i := 819) (by decide +kernel), List.mem_of_getElem? (i := 820) (by decide +kernel)⟩
theorem lw_p34 : lw_okq (⟨"ConsonantIndexModel", "lettersWithSecond", "(I)I"⟩, 18) := ⟨⟨by decide +kernel, by decide +kernel⟩, List.mem_of_getElem? (i := 531) (by decide +kernel), List.mem_of_getElem? (i := 823) (by decide +kernel), List.mem_of_getElem? (i := 824) (by decide +kernel)⟩
theorem lw_p35 : lw_okq (⟨"ConsonantIndexModel", "codeAt", "(I)J"⟩, 18) := ⟨⟨by decide +kernel, by decide +kernel⟩, List.mem_of_getElem? (i := 531) (by decide +kernel), List.mem_of_getElem? (i := 842) (by decide +kernel), List.mem_of_getElem? (i := 843) (by decide +kernel)⟩
theorem lw_p36 : lw_okq (⟨"ConsonantIndexModel", "isLikeWord", "(I)Z"⟩, 18) := ⟨⟨by decide +kernel, by decide +kernel⟩, List.mem_of_getElem? (i := 531) (by decide +kernel), List.mem_of_getElem? (i := 858) (by decide +kernel), List.mem_of_getElem? (i := 859) (by decide +kernel)⟩
theorem lw_p37 : lw_okq (⟨"ConsonantIndexModel", "aheadOf", "(I)I"⟩, 18) := ⟨⟨by decide +kernel, by decide +kernel⟩, List.mem_of_getElem? (i := 531) (by decide +kernel), List.mem_of_getElem? (i := 862) (by decide +kernel), List.mem_of_getElem? (i := 863) (by decide +kernel)⟩
theorem lw_p38 : lw_okq (⟨"ConsonantIndexModel", "behindMerger", "(IIIZ)I"⟩, 18) := ⟨⟨by decide +kernel, by decide +kernel⟩, List.mem_of_getElem? (i := 531) (by decide +kernel), List.mem_of_getElem? (i := 870) (by decide +kernel), List.mem_of_getElem? (i := 871) (by decide +kernel)⟩
def lw_privs_3 : List (MethodName × Nat) := [(⟨"ConsonantIndexModel", "likeOnes", "(I)I"⟩, 18), (⟨"ConsonantIndexModel", "haveCommon", "(II)Z"⟩, 18), (⟨"ConsonantIndexModel", "lettersWithSecond", "(I)I"⟩, 18), (⟨"ConsonantIndexModel", "codeAt", "(I)J"⟩, 18), (⟨"ConsonantIndexModel", "isLikeWord", "(I)Z"⟩, 18), (⟨"ConsonantIndexModel", "aheadOf", "(I)I"⟩, 18), (⟨"ConsonantIndexModel", "behindMerger", "(IIIZ)I"⟩, 18)]
theorem lw_r3 : ∀ q ∈ lw_privs_3, lw_okq q := List.forall_mem_cons.mpr ⟨lw_p32, List.forall_mem_cons.mpr ⟨lw_p33, List.forall_mem_cons.mpr ⟨lw_p34, List.forall_mem_cons.mpr ⟨lw_p35, List.forall_mem_cons.mpr ⟨lw_p36, List.forall_mem_cons.mpr ⟨lw_p37, List.forall_mem_cons.mpr ⟨lw_p38, fun _ h => absurd h List.not_mem_nil⟩⟩⟩⟩⟩⟩⟩
def lw_privs : List (MethodName × Nat) := lw_privs_1 ++ (lw_privs_2 ++ (lw_privs_3))
def lw_tbl : List Cond := k2_sels lw_privs ++ tables_1
theorem lw_privs_ok : ∀ q ∈ lw_privs, lw_okq q := by
  show ∀ q ∈ lw_privs_1 ++ (lw_privs_2 ++ (lw_privs_3)), lw_okq q
  exact List.forall_mem_append.mpr ⟨lw_r1, List.forall_mem_append.mpr ⟨lw_r2, lw_r3⟩⟩
/-! ===== BEGIN words of one list among another's, by their places ===== -/
theorem goodIn_r {big : List Cond} (ws : List Cond) (ps : List Nat) (hp : ws = ps.filterMap (fun i => big[i]?)) (h : ws.all goodWord = true) : GoodIn big ws := by
  intro w hw
  have h1 := List.all_eq_true.mp h w hw
  rw [hp] at hw
  obtain ⟨i, -, hi⟩ := List.mem_filterMap.mp hw
  have hm : w ∈ big := by first | exact List.mem_of_getElem? hi | exact List.getElem?_mem hi
  exact ⟨hm, good_of_word h1⟩
theorem goodIn_app {big a b : List Cond} (ha : GoodIn big a) (hb : GoodIn big b) : GoodIn big (a ++ b) := fun w h => (List.mem_append.mp h).elim (ha w) (hb w)
theorem goodIn_ca {big a b : List Cond} {c : Cond} (ha : GoodIn big (c :: a)) (hb : GoodIn big b) : GoodIn big (c :: (a ++ b)) := fun w h => (List.mem_cons.mp h).elim (fun e => ha w (List.mem_cons.mpr (Or.inl e))) (fun h => (List.mem_append.mp h).elim (fun h => ha w (List.mem_cons.mpr (Or.inr h))) (hb w))
theorem goodIn_sub {big ws : List Cond} (hm : ∀ w ∈ ws, w ∈ big) (h : ws.all goodWord = true) : GoodIn big ws := fun w hw => ⟨hm w hw, good_of_word (List.all_eq_true.mp h w hw)⟩
/-! ===== END ===== -/

/-! ===== BEGIN printed: names, fields, word lists, decode rows ===== -/
def RX0 : String := "ConsonantIndex$Code"
def TX0 : u_T := fun k => match k with
  | _ => ("", "", "", false)
def tyX0 : Nat → FieldType := fun k => match k with
  | _ => .int
abbrev wsX00 : List Cond := u_ws RX0 TX0 0
theorem nmX0 : ∀ a, a < 0 → ∀ b, b < 0 → a ≠ b → (TX0 a).2.1 ≠ (TX0 b).2.1 := by decide +kernel
theorem tyX0_ok : ∀ k, k < 0 → parseFieldDescriptor (TX0 k).2.2.1 = some (tyX0 k) := by decide +kernel
abbrev cX0_with : ByteArray := prog_2_method_2_code
def yX0_with : MethodName := ⟨RX0, "with", "(II)I"⟩
abbrev cX0_size : ByteArray := prog_2_method_3_code
def yX0_size : MethodName := ⟨RX0, "size", "(I)I"⟩
abbrev cX0_numberAt : ByteArray := prog_2_method_4_code
def yX0_numberAt : MethodName := ⟨RX0, "numberAt", "(II)I"⟩
def RX1 : String := "ConsonantIndex$Drawers"
def TX1 : u_T := fun k => match k with
  | 0 => ("ConsonantIndex$Drawers", "nameCount", "I", false)
  | 1 => ("ConsonantIndex$Drawers", "codeCounts", "[I", true)
  | 2 => ("ConsonantIndex$Drawers", "drawersOfNames", "[I", true)
  | 3 => ("ConsonantIndex$Drawers", "drawerCount", "I", false)
  | 4 => ("ConsonantIndex$Drawers", "codes", "[I", true)
  | 5 => ("ConsonantIndex$Drawers", "names", "[I", true)
  | _ => ("ConsonantIndex$Drawers", "row", "[I", true)
def tyX1 : Nat → FieldType := fun k => match k with
  | 0 => .int
  | 1 => .array .int
  | 2 => .array .int
  | 3 => .int
  | 4 => .array .int
  | 5 => .array .int
  | _ => .array .int
abbrev wsX10 : List Cond := u_ws RX1 TX1 7
theorem nmX1 : ∀ a, a < 7 → ∀ b, b < 7 → a ≠ b → (TX1 a).2.1 ≠ (TX1 b).2.1 := by decide +kernel
theorem tyX1_ok : ∀ k, k < 7 → parseFieldDescriptor (TX1 k).2.2.1 = some (tyX1 k) := by decide +kernel
abbrev cX1_init : ByteArray := prog_3_method_1_code
def yX1_init : MethodName := ⟨RX1, "<init>", "()V"⟩
abbrev cX1_fill : ByteArray := prog_3_method_2_code
def yX1_fill : MethodName := ⟨RX1, "fill", "(LConsonantIndex$State;LConsonantIndex$Ear;)V"⟩
abbrev cX1_drawerFor : ByteArray := prog_3_method_3_code
def yX1_drawerFor : MethodName := ⟨RX1, "drawerFor", "(I)I"⟩
abbrev cX1_codesOf : ByteArray := prog_3_method_4_code
def yX1_codesOf : MethodName := ⟨RX1, "codesOf", "(I)I"⟩
abbrev cX1_drawerOf : ByteArray := prog_3_method_5_code
def yX1_drawerOf : MethodName := ⟨RX1, "drawerOf", "(II)I"⟩
abbrev cX1_codeAt : ByteArray := prog_3_method_6_code
def yX1_codeAt : MethodName := ⟨RX1, "codeAt", "(I)I"⟩
abbrev cX1_namesAt : ByteArray := prog_3_method_7_code
def yX1_namesAt : MethodName := ⟨RX1, "namesAt", "(I)I"⟩
abbrev cX1_byCode : ByteArray := prog_3_method_8_code
def yX1_byCode : MethodName := ⟨RX1, "byCode", "(I)I"⟩
abbrev cX1_namesInFullest : ByteArray := prog_3_method_9_code
def yX1_namesInFullest : MethodName := ⟨RX1, "namesInFullest", "()I"⟩
abbrev cX1_namesInSeveral : ByteArray := prog_3_method_10_code
def yX1_namesInSeveral : MethodName := ⟨RX1, "namesInSeveral", "()I"⟩
abbrev cX1_namesLike : ByteArray := prog_3_method_11_code
def yX1_namesLike : MethodName := ⟨RX1, "namesLike", "(I)I"⟩
abbrev cX1_namesHeardLike : ByteArray := prog_3_method_12_code
def yX1_namesHeardLike : MethodName := ⟨RX1, "namesHeardLike", "(JLConsonantIndex$State;LConsonantIndex$Ear;)I"⟩
abbrev cX1_alikePairs : ByteArray := prog_3_method_13_code
def yX1_alikePairs : MethodName := ⟨RX1, "alikePairs", "()I"⟩
def RX2 : String := "ConsonantIndex$Ear"
def TX2 : u_T := fun k => match k with
  | 0 => ("ConsonantIndex$Ear", "firsts", "[I", true)
  | 1 => ("ConsonantIndex$Ear", "seconds", "[I", true)
  | 2 => ("ConsonantIndex$Ear", "habitSet", "I", false)
  | 3 => ("ConsonantIndex$Ear", "mergers", "I", false)
  | 4 => ("ConsonantIndex$Ear", "intos", "[I", true)
  | 5 => ("ConsonantIndex$Ear", "froms", "[I", true)
  | 6 => ("ConsonantIndex$Ear", "movedFirsts", "[I", true)
  | _ => ("ConsonantIndex$Ear", "movedSeconds", "[I", true)
def tyX2 : Nat → FieldType := fun k => match k with
  | 0 => .array .int
  | 1 => .array .int
  | 2 => .int
  | 3 => .int
  | 4 => .array .int
  | 5 => .array .int
  | 6 => .array .int
  | _ => .array .int
abbrev wsX20 : List Cond := u_ws RX2 TX2 8
theorem nmX2 : ∀ a, a < 8 → ∀ b, b < 8 → a ≠ b → (TX2 a).2.1 ≠ (TX2 b).2.1 := by decide +kernel
theorem tyX2_ok : ∀ k, k < 8 → parseFieldDescriptor (TX2 k).2.2.1 = some (tyX2 k) := by decide +kernel
abbrev cX2_init : ByteArray := prog_4_method_1_code
def yX2_init : MethodName := ⟨RX2, "<init>", "()V"⟩
abbrev cX2_beAsAtFirst : ByteArray := prog_4_method_2_code
def yX2_beAsAtFirst : MethodName := ⟨RX2, "beAsAtFirst", "()V"⟩
abbrev cX2_beAs : ByteArray := prog_4_method_3_code
def yX2_beAs : MethodName := ⟨RX2, "beAs", "(LConsonantIndex$Ear;)V"⟩
abbrev cX2_loseSameSecond : ByteArray := prog_4_method_4_code
def yX2_loseSameSecond : MethodName := ⟨RX2, "loseSameSecond", "(I)V"⟩
abbrev cX2_lettersOf : ByteArray := prog_4_method_5_code
def yX2_lettersOf : MethodName := ⟨RX2, "lettersOf", "(I)I"⟩
abbrev cX2_lettersWithSecond : ByteArray := prog_4_method_6_code
def yX2_lettersWithSecond : MethodName := ⟨RX2, "lettersWithSecond", "()I"⟩
abbrev cX2_mergeClasses : ByteArray := prog_4_method_7_code
def yX2_mergeClasses : MethodName := ⟨RX2, "mergeClasses", "(II)V"⟩
abbrev cX2_remember : ByteArray := prog_4_method_8_code
def yX2_remember : MethodName := ⟨RX2, "remember", "(IIII)V"⟩
abbrev cX2_forgetOldest : ByteArray := prog_4_method_9_code
def yX2_forgetOldest : MethodName := ⟨RX2, "forgetOldest", "()V"⟩
abbrev cX2_splitLatest : ByteArray := prog_4_method_10_code
def yX2_splitLatest : MethodName := ⟨RX2, "splitLatest", "()I"⟩
abbrev cX2_writeCodes : ByteArray := prog_4_method_11_code
def yX2_writeCodes : MethodName := ⟨RX2, "writeCodes", "(JI[I)I"⟩
abbrev cX2_waysToHear : ByteArray := prog_4_method_12_code
def yX2_waysToHear : MethodName := ⟨RX2, "waysToHear", "(J)I"⟩
abbrev cX2_codeByWay : ByteArray := prog_4_method_13_code
def yX2_codeByWay : MethodName := ⟨RX2, "codeByWay", "(JII)I"⟩
abbrev cX2_byHabit : ByteArray := prog_4_method_14_code
def yX2_byHabit : MethodName := ⟨RX2, "byHabit", "(JI)I"⟩
def RX3 : String := "ConsonantIndex$Meter"
def TX3 : u_T := fun k => match k with
  | 0 => ("ConsonantIndex$Meter", "row", "[I", true)
  | _ => ("ConsonantIndex$Meter", "distances", "[I", true)
def tyX3 : Nat → FieldType := fun k => match k with
  | 0 => .array .int
  | _ => .array .int
abbrev wsX30 : List Cond := u_ws RX3 TX3 2
theorem nmX3 : ∀ a, a < 2 → ∀ b, b < 2 → a ≠ b → (TX3 a).2.1 ≠ (TX3 b).2.1 := by decide +kernel
theorem tyX3_ok : ∀ k, k < 2 → parseFieldDescriptor (TX3 k).2.2.1 = some (tyX3 k) := by decide +kernel
abbrev cX3_init : ByteArray := prog_5_method_1_code
def yX3_init : MethodName := ⟨RX3, "<init>", "()V"⟩
abbrev cX3_between : ByteArray := prog_5_method_2_code
def yX3_between : MethodName := ⟨RX3, "between", "(JJ)I"⟩
abbrev cX3_ranked : ByteArray := prog_5_method_3_code
def yX3_ranked : MethodName := ⟨RX3, "ranked", "(LConsonantIndex$State;JII)I"⟩
abbrev cX3_namesAhead : ByteArray := prog_5_method_4_code
def yX3_namesAhead : MethodName := ⟨RX3, "namesAhead", "(III)I"⟩
def RX4 : String := "ConsonantIndex$Pad"
def TX4 : u_T := fun k => match k with
  | 0 => ("ConsonantIndex$Pad", "characters", "[C", true)
  | _ => ("ConsonantIndex$Pad", "size", "I", false)
def tyX4 : Nat → FieldType := fun k => match k with
  | 0 => .array .char
  | _ => .int
abbrev wsX40 : List Cond := u_ws RX4 TX4 2
theorem nmX4 : ∀ a, a < 2 → ∀ b, b < 2 → a ≠ b → (TX4 a).2.1 ≠ (TX4 b).2.1 := by decide +kernel
theorem tyX4_ok : ∀ k, k < 2 → parseFieldDescriptor (TX4 k).2.2.1 = some (tyX4 k) := by decide +kernel
abbrev cX4_init : ByteArray := prog_6_method_1_code
def yX4_init : MethodName := ⟨RX4, "<init>", "()V"⟩
abbrev cX4_charactersIn : ByteArray := prog_6_method_2_code
def yX4_charactersIn : MethodName := ⟨RX4, "charactersIn", "(J)I"⟩
abbrev cX4_append : ByteArray := prog_6_method_3_code
def yX4_append : MethodName := ⟨RX4, "append", "(JI)V"⟩
abbrev cX4_firstFault : ByteArray := prog_6_method_4_code
def yX4_firstFault : MethodName := ⟨RX4, "firstFault", "()I"⟩
abbrev cX4_asWord : ByteArray := prog_6_method_5_code
def yX4_asWord : MethodName := ⟨RX4, "asWord", "()J"⟩
def RX5 : String := "ConsonantIndex$State"
def TX5 : u_T := fun k => match k with
  | 0 => ("ConsonantIndex$State", "codeLength", "I", false)
  | 1 => ("ConsonantIndex$State", "nameLimit", "I", false)
  | 2 => ("ConsonantIndex$State", "nameCount", "I", false)
  | 3 => ("ConsonantIndex$State", "words", "[J", true)
  | 4 => ("ConsonantIndex$State", "earCount", "I", false)
  | _ => ("ConsonantIndex$State", "ears", "[LConsonantIndex$Ear;", true)
def tyX5 : Nat → FieldType := fun k => match k with
  | 0 => .int
  | 1 => .int
  | 2 => .int
  | 3 => .array .long
  | 4 => .int
  | _ => .array (.object "ConsonantIndex$Ear")
abbrev wsX50 : List Cond := u_ws RX5 TX5 6
theorem nmX5 : ∀ a, a < 6 → ∀ b, b < 6 → a ≠ b → (TX5 a).2.1 ≠ (TX5 b).2.1 := by decide +kernel
theorem tyX5_ok : ∀ k, k < 6 → parseFieldDescriptor (TX5 k).2.2.1 = some (tyX5 k) := by decide +kernel
abbrev cX5_init : ByteArray := prog_7_method_1_code
def yX5_init : MethodName := ⟨RX5, "<init>", "()V"⟩
abbrev cX5_beAs : ByteArray := prog_7_method_2_code
def yX5_beAs : MethodName := ⟨RX5, "beAs", "(LConsonantIndex$State;)V"⟩
abbrev cX5_hasName : ByteArray := prog_7_method_3_code
def yX5_hasName : MethodName := ⟨RX5, "hasName", "(I)Z"⟩
abbrev cX5_holds : ByteArray := prog_7_method_4_code
def yX5_holds : MethodName := ⟨RX5, "holds", "(J)Z"⟩
abbrev cX5_removeName : ByteArray := prog_7_method_5_code
def yX5_removeName : MethodName := ⟨RX5, "removeName", "(I)V"⟩
abbrev cX5_lettersInNames : ByteArray := prog_7_method_6_code
def yX5_lettersInNames : MethodName := ⟨RX5, "lettersInNames", "()I"⟩
abbrev cX5_earAt : ByteArray := prog_7_method_7_code
def yX5_earAt : MethodName := ⟨RX5, "earAt", "(I)LConsonantIndex$Ear;"⟩
def RX6 : String := "ConsonantIndex$Word"
def TX6 : u_T := fun k => match k with
  | _ => ("", "", "", false)
def tyX6 : Nat → FieldType := fun k => match k with
  | _ => .int
abbrev wsX60 : List Cond := u_ws RX6 TX6 0
theorem nmX6 : ∀ a, a < 0 → ∀ b, b < 0 → a ≠ b → (TX6 a).2.1 ≠ (TX6 b).2.1 := by decide +kernel
theorem tyX6_ok : ∀ k, k < 0 → parseFieldDescriptor (TX6 k).2.2.1 = some (tyX6 k) := by decide +kernel
abbrev cX6_isLetter : ByteArray := prog_8_method_2_code
def yX6_isLetter : MethodName := ⟨RX6, "isLetter", "(I)Z"⟩
abbrev cX6_with : ByteArray := prog_8_method_3_code
def yX6_with : MethodName := ⟨RX6, "with", "(JII)J"⟩
abbrev cX6_letterAt : ByteArray := prog_8_method_4_code
def yX6_letterAt : MethodName := ⟨RX6, "letterAt", "(JI)I"⟩
abbrev cX6_size : ByteArray := prog_8_method_5_code
def yX6_size : MethodName := ⟨RX6, "size", "(J)I"⟩
abbrev cX6_letterSet : ByteArray := prog_8_method_6_code
def yX6_letterSet : MethodName := ⟨RX6, "letterSet", "(J)I"⟩
def RX7 : String := "ConsonantIndex"
def TX7 : u_T := fun k => match k with
  | 0 => ("ConsonantIndex", "now", "LConsonantIndex$State;", true)
  | 1 => ("ConsonantIndex", "past", "[LConsonantIndex$State;", true)
  | 2 => ("ConsonantIndex", "changes", "I", false)
  | 3 => ("ConsonantIndex", "slots", "[LConsonantIndex$State;", true)
  | 4 => ("ConsonantIndex", "saved", "[Z", true)
  | 5 => ("ConsonantIndex", "pad", "LConsonantIndex$Pad;", true)
  | 6 => ("ConsonantIndex", "drawers", "LConsonantIndex$Drawers;", true)
  | 7 => ("ConsonantIndex", "otherDrawers", "LConsonantIndex$Drawers;", true)
  | 8 => ("ConsonantIndex", "supposed", "LConsonantIndex$Ear;", true)
  | _ => ("ConsonantIndex", "meter", "LConsonantIndex$Meter;", true)
def tyX7 : Nat → FieldType := fun k => match k with
  | 0 => .object "ConsonantIndex$State"
  | 1 => .array (.object "ConsonantIndex$State")
  | 2 => .int
  | 3 => .array (.object "ConsonantIndex$State")
  | 4 => .array .boolean
  | 5 => .object "ConsonantIndex$Pad"
  | 6 => .object "ConsonantIndex$Drawers"
  | 7 => .object "ConsonantIndex$Drawers"
  | 8 => .object "ConsonantIndex$Ear"
  | _ => .object "ConsonantIndex$Meter"
abbrev wsX70 : List Cond := u_ws RX7 TX7 10
theorem nmX7 : ∀ a, a < 10 → ∀ b, b < 10 → a ≠ b → (TX7 a).2.1 ≠ (TX7 b).2.1 := by decide +kernel
theorem tyX7_ok : ∀ k, k < 10 → parseFieldDescriptor (TX7 k).2.2.1 = some (tyX7 k) := by decide +kernel
abbrev cX7_init : ByteArray := prog_1_method_1_code
def yX7_init : MethodName := ⟨RX7, "<init>", "()V"⟩
abbrev cX7_set : ByteArray := prog_1_method_2_code
def yX7_set : MethodName := ⟨RX7, "set", "(II)I"⟩
abbrev cX7_add : ByteArray := prog_1_method_3_code
def yX7_add : MethodName := ⟨RX7, "add", "()I"⟩
abbrev cX7_drop : ByteArray := prog_1_method_4_code
def yX7_drop : MethodName := ⟨RX7, "drop", "(I)I"⟩
abbrev cX7_ear : ByteArray := prog_1_method_5_code
def yX7_ear : MethodName := ⟨RX7, "ear", "(I)I"⟩
abbrev cX7_hear : ByteArray := prog_1_method_6_code
def yX7_hear : MethodName := ⟨RX7, "hear", "(III)I"⟩
abbrev cX7_second : ByteArray := prog_1_method_7_code
def yX7_second : MethodName := ⟨RX7, "second", "(III)I"⟩
abbrev cX7_habits : ByteArray := prog_1_method_8_code
def yX7_habits : MethodName := ⟨RX7, "habits", "(II)I"⟩
abbrev cX7_merge : ByteArray := prog_1_method_9_code
def yX7_merge : MethodName := ⟨RX7, "merge", "(III)I"⟩
abbrev cX7_split : ByteArray := prog_1_method_10_code
def yX7_split : MethodName := ⟨RX7, "split", "(I)I"⟩
abbrev cX7_name : ByteArray := prog_1_method_11_code
def yX7_name : MethodName := ⟨RX7, "name", "(II)I"⟩
abbrev cX7_of : ByteArray := prog_1_method_12_code
def yX7_of : MethodName := ⟨RX7, "of", "(III)I"⟩
abbrev cX7_ofEar : ByteArray := prog_1_method_13_code
def yX7_ofEar : MethodName := ⟨RX7, "ofEar", "(II)I"⟩
abbrev cX7_code : ByteArray := prog_1_method_14_code
def yX7_code : MethodName := ⟨RX7, "code", "(IIII)I"⟩
abbrev cX7_drawer : ByteArray := prog_1_method_15_code
def yX7_drawer : MethodName := ⟨RX7, "drawer", "(III)I"⟩
abbrev cX7_count : ByteArray := prog_1_method_16_code
def yX7_count : MethodName := ⟨RX7, "count", "(I)I"⟩
abbrev cX7_alike : ByteArray := prog_1_method_17_code
def yX7_alike : MethodName := ⟨RX7, "alike", "(III)I"⟩
abbrev cX7_distance : ByteArray := prog_1_method_18_code
def yX7_distance : MethodName := ⟨RX7, "distance", "(II)I"⟩
abbrev cX7_find : ByteArray := prog_1_method_19_code
def yX7_find : MethodName := ⟨RX7, "find", "(III)I"⟩
abbrev cX7_ifMerged : ByteArray := prog_1_method_20_code
def yX7_ifMerged : MethodName := ⟨RX7, "ifMerged", "(IIII)I"⟩
abbrev cX7_bestMerger : ByteArray := prog_1_method_21_code
def yX7_bestMerger : MethodName := ⟨RX7, "bestMerger", "(II)I"⟩
abbrev cX7_quarrel : ByteArray := prog_1_method_22_code
def yX7_quarrel : MethodName := ⟨RX7, "quarrel", "(II)I"⟩
abbrev cX7_deafest : ByteArray := prog_1_method_23_code
def yX7_deafest : MethodName := ⟨RX7, "deafest", "()I"⟩
abbrev cX7_put : ByteArray := prog_1_method_24_code
def yX7_put : MethodName := ⟨RX7, "put", "(J)I"⟩
abbrev cX7_wipe : ByteArray := prog_1_method_25_code
def yX7_wipe : MethodName := ⟨RX7, "wipe", "()I"⟩
abbrev cX7_fault : ByteArray := prog_1_method_26_code
def yX7_fault : MethodName := ⟨RX7, "fault", "()I"⟩
abbrev cX7_undo : ByteArray := prog_1_method_27_code
def yX7_undo : MethodName := ⟨RX7, "undo", "()I"⟩
abbrev cX7_save : ByteArray := prog_1_method_28_code
def yX7_save : MethodName := ⟨RX7, "save", "(I)I"⟩
abbrev cX7_restore : ByteArray := prog_1_method_29_code
def yX7_restore : MethodName := ⟨RX7, "restore", "(I)I"⟩
abbrev cX7_isWithin : ByteArray := prog_1_method_30_code
def yX7_isWithin : MethodName := ⟨RX7, "isWithin", "(III)Z"⟩
abbrev cX7_isClass : ByteArray := prog_1_method_31_code
def yX7_isClass : MethodName := ⟨RX7, "isClass", "(I)Z"⟩
abbrev cX7_canMerge : ByteArray := prog_1_method_32_code
def yX7_canMerge : MethodName := ⟨RX7, "canMerge", "(II)Z"⟩
abbrev cX7_recordChange : ByteArray := prog_1_method_33_code
def yX7_recordChange : MethodName := ⟨RX7, "recordChange", "()V"⟩
abbrev cX7_fillAsIfMerged : ByteArray := prog_1_method_34_code
def yX7_fillAsIfMerged : MethodName := ⟨RX7, "fillAsIfMerged", "(LConsonantIndex$Ear;II)V"⟩
def RX8 : String := "ConsonantIndexModel"
def TX8 : u_T := fun k => match k with
  | 0 => ("ConsonantIndexModel", "z", "[I", true)
  | 1 => ("ConsonantIndexModel", "spare", "[I", true)
  | 2 => ("ConsonantIndexModel", "past", "[I", true)
  | 3 => ("ConsonantIndexModel", "states", "I", false)
  | 4 => ("ConsonantIndexModel", "slots", "[I", true)
  | 5 => ("ConsonantIndexModel", "isSaved", "[Z", true)
  | 6 => ("ConsonantIndexModel", "pad", "[I", true)
  | 7 => ("ConsonantIndexModel", "typed", "I", false)
  | 8 => ("ConsonantIndexModel", "word", "[I", true)
  | 9 => ("ConsonantIndexModel", "wordLength", "I", false)
  | 10 => ("ConsonantIndexModel", "codes", "[J", true)
  | 11 => ("ConsonantIndexModel", "codeMany", "I", false)
  | 12 => ("ConsonantIndexModel", "allCodes", "[J", true)
  | 13 => ("ConsonantIndexModel", "allMany", "[I", true)
  | 14 => ("ConsonantIndexModel", "drawers", "[J", true)
  | 15 => ("ConsonantIndexModel", "drawerMany", "I", false)
  | 16 => ("ConsonantIndexModel", "row", "[I", true)
  | _ => ("ConsonantIndexModel", "like", "[I", true)
def tyX8 : Nat → FieldType := fun k => match k with
  | 0 => .array .int
  | 1 => .array .int
  | 2 => .array .int
  | 3 => .int
  | 4 => .array .int
  | 5 => .array .boolean
  | 6 => .array .int
  | 7 => .int
  | 8 => .array .int
  | 9 => .int
  | 10 => .array .long
  | 11 => .int
  | 12 => .array .long
  | 13 => .array .int
  | 14 => .array .long
  | 15 => .int
  | 16 => .array .int
  | _ => .array .int
abbrev wsX80 : List Cond := u_ws RX8 TX8 18
theorem nmX8 : ∀ a, a < 18 → ∀ b, b < 18 → a ≠ b → (TX8 a).2.1 ≠ (TX8 b).2.1 := by decide +kernel
theorem tyX8_ok : ∀ k, k < 18 → parseFieldDescriptor (TX8 k).2.2.1 = some (tyX8 k) := by decide +kernel
abbrev cX8_init : ByteArray := prog_10_method_1_code
def yX8_init : MethodName := ⟨RX8, "<init>", "()V"⟩
abbrev cX8_in : ByteArray := prog_10_method_2_code
def yX8_in : MethodName := ⟨RX8, "in", "(III)Z"⟩
abbrev cX8_isName : ByteArray := prog_10_method_3_code
def yX8_isName : MethodName := ⟨RX8, "isName", "(I)Z"⟩
abbrev cX8_isEar : ByteArray := prog_10_method_4_code
def yX8_isEar : MethodName := ⟨RX8, "isEar", "(I)Z"⟩
abbrev cX8_isLetter : ByteArray := prog_10_method_5_code
def yX8_isLetter : MethodName := ⟨RX8, "isLetter", "(I)Z"⟩
abbrev cX8_isKind : ByteArray := prog_10_method_6_code
def yX8_isKind : MethodName := ⟨RX8, "isKind", "(I)Z"⟩
abbrev cX8_letterOf : ByteArray := prog_10_method_7_code
def yX8_letterOf : MethodName := ⟨RX8, "letterOf", "(II)I"⟩
abbrev cX8_lengthOf : ByteArray := prog_10_method_8_code
def yX8_lengthOf : MethodName := ⟨RX8, "lengthOf", "(I)I"⟩
abbrev cX8_at : ByteArray := prog_10_method_9_code
def yX8_at : MethodName := ⟨RX8, "at", "(II)I"⟩
abbrev cX8_lay : ByteArray := prog_10_method_10_code
def yX8_lay : MethodName := ⟨RX8, "lay", "(III)V"⟩
abbrev cX8_copyState : ByteArray := prog_10_method_11_code
def yX8_copyState : MethodName := ⟨RX8, "copyState", "([II[II)V"⟩
abbrev cX8_record : ByteArray := prog_10_method_12_code
def yX8_record : MethodName := ⟨RX8, "record", "()V"⟩
abbrev cX8_undo : ByteArray := prog_10_method_13_code
def yX8_undo : MethodName := ⟨RX8, "undo", "()I"⟩
abbrev cX8_save : ByteArray := prog_10_method_14_code
def yX8_save : MethodName := ⟨RX8, "save", "(I)I"⟩
abbrev cX8_restore : ByteArray := prog_10_method_15_code
def yX8_restore : MethodName := ⟨RX8, "restore", "(I)I"⟩
abbrev cX8_set : ByteArray := prog_10_method_16_code
def yX8_set : MethodName := ⟨RX8, "set", "(II)I"⟩
abbrev cX8_put : ByteArray := prog_10_method_17_code
def yX8_put : MethodName := ⟨RX8, "put", "(J)I"⟩
abbrev cX8_wipe : ByteArray := prog_10_method_18_code
def yX8_wipe : MethodName := ⟨RX8, "wipe", "()I"⟩
abbrev cX8_faultOf : ByteArray := prog_10_method_19_code
def yX8_faultOf : MethodName := ⟨RX8, "faultOf", "()I"⟩
abbrev cX8_fault : ByteArray := prog_10_method_20_code
def yX8_fault : MethodName := ⟨RX8, "fault", "()I"⟩
abbrev cX8_takePad : ByteArray := prog_10_method_21_code
def yX8_takePad : MethodName := ⟨RX8, "takePad", "()V"⟩
abbrev cX8_takeName : ByteArray := prog_10_method_22_code
def yX8_takeName : MethodName := ⟨RX8, "takeName", "(I)V"⟩
abbrev cX8_isWord : ByteArray := prog_10_method_23_code
def yX8_isWord : MethodName := ⟨RX8, "isWord", "(I)Z"⟩
abbrev cX8_add : ByteArray := prog_10_method_24_code
def yX8_add : MethodName := ⟨RX8, "add", "()I"⟩
abbrev cX8_drop : ByteArray := prog_10_method_25_code
def yX8_drop : MethodName := ⟨RX8, "drop", "(I)I"⟩
abbrev cX8_least : ByteArray := prog_10_method_26_code
def yX8_least : MethodName := ⟨RX8, "least", "(II)I"⟩
abbrev cX8_distanceTo : ByteArray := prog_10_method_27_code
def yX8_distanceTo : MethodName := ⟨RX8, "distanceTo", "(I)I"⟩
abbrev cX8_distance : ByteArray := prog_10_method_28_code
def yX8_distance : MethodName := ⟨RX8, "distance", "(II)I"⟩
abbrev cX8_hasHabit : ByteArray := prog_10_method_29_code
def yX8_hasHabit : MethodName := ⟨RX8, "hasHabit", "(II)Z"⟩
abbrev cX8_isBehindOne : ByteArray := prog_10_method_30_code
def yX8_isBehindOne : MethodName := ⟨RX8, "isBehindOne", "(I)Z"⟩
abbrev cX8_byHabit : ByteArray := prog_10_method_31_code
def yX8_byHabit : MethodName := ⟨RX8, "byHabit", "(II)I"⟩
abbrev cX8_codeBy : ByteArray := prog_10_method_32_code
def yX8_codeBy : MethodName := ⟨RX8, "codeBy", "(II)J"⟩
abbrev cX8_hearWord : ByteArray := prog_10_method_33_code
def yX8_hearWord : MethodName := ⟨RX8, "hearWord", "(I)V"⟩
abbrev cX8_drawerWith : ByteArray := prog_10_method_34_code
def yX8_drawerWith : MethodName := ⟨RX8, "drawerWith", "(J)I"⟩
abbrev cX8_hearAll : ByteArray := prog_10_method_35_code
def yX8_hearAll : MethodName := ⟨RX8, "hearAll", "(I)V"⟩
abbrev cX8_hasCode : ByteArray := prog_10_method_36_code
def yX8_hasCode : MethodName := ⟨RX8, "hasCode", "(IJ)Z"⟩
abbrev cX8_haveCommon : ByteArray := prog_10_method_37_code
def yX8_haveCommon : MethodName := ⟨RX8, "haveCommon", "(II)Z"⟩
abbrev cX8_namesWith : ByteArray := prog_10_method_38_code
def yX8_namesWith : MethodName := ⟨RX8, "namesWith", "(J)I"⟩
abbrev cX8_bits : ByteArray := prog_10_method_39_code
def yX8_bits : MethodName := ⟨RX8, "bits", "(I)I"⟩
abbrev cX8_likeOnes : ByteArray := prog_10_method_40_code
def yX8_likeOnes : MethodName := ⟨RX8, "likeOnes", "(I)I"⟩
abbrev cX8_pairs : ByteArray := prog_10_method_41_code
def yX8_pairs : MethodName := ⟨RX8, "pairs", "(I)I"⟩
abbrev cX8_firstKind : ByteArray := prog_10_method_42_code
def yX8_firstKind : MethodName := ⟨RX8, "firstKind", "(I)I"⟩
abbrev cX8_ear : ByteArray := prog_10_method_43_code
def yX8_ear : MethodName := ⟨RX8, "ear", "(I)I"⟩
abbrev cX8_clean : ByteArray := prog_10_method_44_code
def yX8_clean : MethodName := ⟨RX8, "clean", "(I)V"⟩
abbrev cX8_hear : ByteArray := prog_10_method_45_code
def yX8_hear : MethodName := ⟨RX8, "hear", "(III)I"⟩
abbrev cX8_secondOf : ByteArray := prog_10_method_46_code
def yX8_secondOf : MethodName := ⟨RX8, "secondOf", "(II)I"⟩
abbrev cX8_second : ByteArray := prog_10_method_47_code
def yX8_second : MethodName := ⟨RX8, "second", "(III)I"⟩
abbrev cX8_habits : ByteArray := prog_10_method_48_code
def yX8_habits : MethodName := ⟨RX8, "habits", "(II)I"⟩
abbrev cX8_lettersOf : ByteArray := prog_10_method_49_code
def yX8_lettersOf : MethodName := ⟨RX8, "lettersOf", "(II)I"⟩
abbrev cX8_forgetOldest : ByteArray := prog_10_method_50_code
def yX8_forgetOldest : MethodName := ⟨RX8, "forgetOldest", "(I)V"⟩
abbrev cX8_mergeKinds : ByteArray := prog_10_method_51_code
def yX8_mergeKinds : MethodName := ⟨RX8, "mergeKinds", "(III)V"⟩
abbrev cX8_areKinds : ByteArray := prog_10_method_52_code
def yX8_areKinds : MethodName := ⟨RX8, "areKinds", "(II)Z"⟩
abbrev cX8_merge : ByteArray := prog_10_method_53_code
def yX8_merge : MethodName := ⟨RX8, "merge", "(III)I"⟩
abbrev cX8_split : ByteArray := prog_10_method_54_code
def yX8_split : MethodName := ⟨RX8, "split", "(I)I"⟩
abbrev cX8_letterSet : ByteArray := prog_10_method_55_code
def yX8_letterSet : MethodName := ⟨RX8, "letterSet", "(I)I"⟩
abbrev cX8_name : ByteArray := prog_10_method_56_code
def yX8_name : MethodName := ⟨RX8, "name", "(II)I"⟩
abbrev cX8_of : ByteArray := prog_10_method_57_code
def yX8_of : MethodName := ⟨RX8, "of", "(III)I"⟩
abbrev cX8_fullest : ByteArray := prog_10_method_58_code
def yX8_fullest : MethodName := ⟨RX8, "fullest", "()I"⟩
abbrev cX8_namesInTwo : ByteArray := prog_10_method_59_code
def yX8_namesInTwo : MethodName := ⟨RX8, "namesInTwo", "()I"⟩
abbrev cX8_lettersWithSecond : ByteArray := prog_10_method_60_code
def yX8_lettersWithSecond : MethodName := ⟨RX8, "lettersWithSecond", "(I)I"⟩
abbrev cX8_ofEar : ByteArray := prog_10_method_61_code
def yX8_ofEar : MethodName := ⟨RX8, "ofEar", "(II)I"⟩
abbrev cX8_lengthOfCode : ByteArray := prog_10_method_62_code
def yX8_lengthOfCode : MethodName := ⟨RX8, "lengthOfCode", "(J)I"⟩
abbrev cX8_numberOf : ByteArray := prog_10_method_63_code
def yX8_numberOf : MethodName := ⟨RX8, "numberOf", "(JI)I"⟩
abbrev cX8_code : ByteArray := prog_10_method_64_code
def yX8_code : MethodName := ⟨RX8, "code", "(IIII)I"⟩
abbrev cX8_codeAt : ByteArray := prog_10_method_65_code
def yX8_codeAt : MethodName := ⟨RX8, "codeAt", "(I)J"⟩
abbrev cX8_drawer : ByteArray := prog_10_method_66_code
def yX8_drawer : MethodName := ⟨RX8, "drawer", "(III)I"⟩
abbrev cX8_count : ByteArray := prog_10_method_67_code
def yX8_count : MethodName := ⟨RX8, "count", "(I)I"⟩
abbrev cX8_alike : ByteArray := prog_10_method_68_code
def yX8_alike : MethodName := ⟨RX8, "alike", "(III)I"⟩
abbrev cX8_isLikeWord : ByteArray := prog_10_method_69_code
def yX8_isLikeWord : MethodName := ⟨RX8, "isLikeWord", "(I)Z"⟩
abbrev cX8_aheadOf : ByteArray := prog_10_method_70_code
def yX8_aheadOf : MethodName := ⟨RX8, "aheadOf", "(I)I"⟩
abbrev cX8_find : ByteArray := prog_10_method_71_code
def yX8_find : MethodName := ⟨RX8, "find", "(III)I"⟩
abbrev cX8_behindMerger : ByteArray := prog_10_method_72_code
def yX8_behindMerger : MethodName := ⟨RX8, "behindMerger", "(IIIZ)I"⟩
abbrev cX8_ifMerged : ByteArray := prog_10_method_73_code
def yX8_ifMerged : MethodName := ⟨RX8, "ifMerged", "(IIII)I"⟩
abbrev cX8_bestMerger : ByteArray := prog_10_method_74_code
def yX8_bestMerger : MethodName := ⟨RX8, "bestMerger", "(II)I"⟩
abbrev cX8_quarrel : ByteArray := prog_10_method_75_code
def yX8_quarrel : MethodName := ⟨RX8, "quarrel", "(II)I"⟩
abbrev cX8_deafest : ByteArray := prog_10_method_76_code
def yX8_deafest : MethodName := ⟨RX8, "deafest", "()I"⟩
def RJ6 : String := "java/lang/Integer"
def TJ6 : u_T := fun k => match k with
  | _ => ("", "", "", false)
def tyJ6 : Nat → FieldType := fun k => match k with
  | _ => .int
abbrev wsJ60 : List Cond := u_ws RJ6 TJ6 0
theorem nmJ6 : ∀ a, a < 0 → ∀ b, b < 0 → a ≠ b → (TJ6 a).2.1 ≠ (TJ6 b).2.1 := by decide +kernel
theorem tyJ6_ok : ∀ k, k < 0 → parseFieldDescriptor (TJ6 k).2.2.1 = some (tyJ6 k) := by decide +kernel
abbrev cJ6_bitCount_0f7a4 : ByteArray := prog_11_method_49_code
def yJ6_bitCount_0f7a4 : MethodName := ⟨RJ6, "bitCount", "(I)I"⟩
def RJ9 : String := "java/lang/Math"
def TJ9 : u_T := fun k => match k with
  | _ => ("", "", "", false)
def tyJ9 : Nat → FieldType := fun k => match k with
  | _ => .int
abbrev wsJ90 : List Cond := u_ws RJ9 TJ9 0
theorem nmJ9 : ∀ a, a < 0 → ∀ b, b < 0 → a ≠ b → (TJ9 a).2.1 ≠ (TJ9 b).2.1 := by decide +kernel
theorem tyJ9_ok : ∀ k, k < 0 → parseFieldDescriptor (TJ9 k).2.2.1 = some (tyJ9 k) := by decide +kernel
abbrev cJ9_max_7cf53 : ByteArray := prog_12_method_65_code
def yJ9_max_7cf53 : MethodName := ⟨RJ9, "max", "(II)I"⟩
abbrev cJ9_min_7cf53 : ByteArray := prog_12_method_69_code
def yJ9_min_7cf53 : MethodName := ⟨RJ9, "min", "(II)I"⟩
def RJ10 : String := "java/lang/System"
def TJ10 : u_T := fun k => match k with
  | _ => ("", "", "", false)
def tyJ10 : Nat → FieldType := fun k => match k with
  | _ => .int
abbrev wsJ100 : List Cond := u_ws RJ10 TJ10 0
theorem nmJ10 : ∀ a, a < 0 → ∀ b, b < 0 → a ≠ b → (TJ10 a).2.1 ≠ (TJ10 b).2.1 := by decide +kernel
theorem tyJ10_ok : ∀ k, k < 0 → parseFieldDescriptor (TJ10 k).2.2.1 = some (tyJ10 k) := by decide +kernel
def RL : String := "ConsonantIndexLaw"
abbrev cL_law : ByteArray := code
def yL_law : MethodName := ⟨RL, "law", "([I)Z"⟩
def wsX0_with : List Cond := .code yX0_with cX0_with 2 (some .int) :: ([])
def wsX0_size : List Cond := .code yX0_size cX0_size 2 (some .int) :: ([])
def wsX0_numberAt : List Cond := .code yX0_numberAt cX0_numberAt 3 (some .int) :: ([.methodLink RX0 11 yX0_size, .static yX0_size, .initialized RX0, .code yX0_size cX0_size 2 (some .int)])
def wsX1_init : List Cond := .code yX1_init cX1_init 1 none :: ([.methodLink RX1 3 objectInit, .instanceMethod objectInit, .code objectInit ⟨#[0xb1]⟩ 1 none, .arrayClass .int, .fieldLink RX1 9 "ConsonantIndex$Drawers" "codeCounts" "[I", .fieldLink RX1 15 "ConsonantIndex$Drawers" "drawersOfNames" "[I", .fieldLink RX1 18 "ConsonantIndex$Drawers" "codes" "[I", .fieldLink RX1 21 "ConsonantIndex$Drawers" "names" "[I", .fieldLink RX1 24 "ConsonantIndex$Drawers" "row" "[I"] ++ wsX10)
def wsX6_letterAt : List Cond := .code yX6_letterAt cX6_letterAt 3 (some .int) :: ([.constantLong RX6 11 (31)])
def wsX6_isLetter : List Cond := .code yX6_isLetter cX6_isLetter 1 (some .boolean) :: ([])
def wsX2_byHabit : List Cond := .code yX2_byHabit cX2_byHabit 6 (some .int) :: ([.fieldLink RX2 36 "ConsonantIndex$Ear" "habitSet" "I", .methodLink RX2 68 yX6_letterAt, .static yX6_letterAt, .initialized RX6, .code yX6_letterAt cX6_letterAt 3 (some .int), .constantLong RX6 11 (31)] ++ wsX20)
def wsX2_waysToHear : List Cond := .code yX2_waysToHear cX2_waysToHear 6 (some .int) :: ([.fieldLink RX2 15 "ConsonantIndex$Ear" "seconds" "[I", .methodLink RX2 68 yX6_letterAt, .static yX6_letterAt, .initialized RX6, .code yX6_letterAt cX6_letterAt 3 (some .int), .constantLong RX6 11 (31), .methodLink RX2 74 yX6_isLetter, .static yX6_isLetter, .code yX6_isLetter cX6_isLetter 1 (some .boolean), .methodLink RX2 78 yX2_byHabit, .instanceMethod yX2_byHabit, .selects RX2 yX2_byHabit yX2_byHabit, .initialized RX2, .code yX2_byHabit cX2_byHabit 6 (some .int), .fieldLink RX2 36 "ConsonantIndex$Ear" "habitSet" "I"] ++ wsX20)
def wsX2_codeByWay : List Cond := .code yX2_codeByWay cX2_codeByWay 13 (some .int) :: ([.fieldLink RX2 15 "ConsonantIndex$Ear" "seconds" "[I", .fieldLink RX2 9 "ConsonantIndex$Ear" "firsts" "[I", .methodLink RX2 68 yX6_letterAt, .static yX6_letterAt, .initialized RX6, .code yX6_letterAt cX6_letterAt 3 (some .int), .constantLong RX6 11 (31), .methodLink RX2 74 yX6_isLetter, .static yX6_isLetter, .code yX6_isLetter cX6_isLetter 1 (some .boolean), .methodLink RX2 78 yX2_byHabit, .instanceMethod yX2_byHabit, .selects RX2 yX2_byHabit yX2_byHabit, .initialized RX2, .code yX2_byHabit cX2_byHabit 6 (some .int), .fieldLink RX2 36 "ConsonantIndex$Ear" "habitSet" "I", .methodLink RX2 81 yX0_with, .static yX0_with, .initialized RX0, .code yX0_with cX0_with 2 (some .int)] ++ wsX20)
def wsX2_writeCodes_r1 : List Cond := [Cond.methodLink RX2 60 yX2_waysToHear, Cond.instanceMethod yX2_waysToHear, Cond.selects RX2 yX2_waysToHear yX2_waysToHear, Cond.initialized RX2, Cond.code yX2_waysToHear cX2_waysToHear 6 (some .int), Cond.fieldLink RX2 15 "ConsonantIndex$Ear" "seconds" "[I", Cond.methodLink RX2 68 yX6_letterAt, Cond.static yX6_letterAt, Cond.initialized RX6, Cond.code yX6_letterAt cX6_letterAt 3 (some .int), Cond.constantLong RX6 11 (31), Cond.methodLink RX2 74 yX6_isLetter, Cond.static yX6_isLetter, Cond.code yX6_isLetter cX6_isLetter 1 (some .boolean), Cond.methodLink RX2 78 yX2_byHabit, Cond.instanceMethod yX2_byHabit, Cond.selects RX2 yX2_byHabit yX2_byHabit, Cond.code yX2_byHabit cX2_byHabit 6 (some .int), Cond.fieldLink RX2 36 "ConsonantIndex$Ear" "habitSet" "I", Cond.methodLink RX2 64 yX2_codeByWay, Cond.instanceMethod yX2_codeByWay, Cond.selects RX2 yX2_codeByWay yX2_codeByWay, Cond.code yX2_codeByWay cX2_codeByWay 13 (some .int), Cond.fieldLink RX2 9 "ConsonantIndex$Ear" "firsts" "[I"]
def wsX2_writeCodes_r2 : List Cond := [Cond.methodLink RX2 81 yX0_with, Cond.static yX0_with, Cond.initialized RX0, Cond.code yX0_with cX0_with 2 (some .int)]
def wsX2_writeCodes : List Cond := .code yX2_writeCodes cX2_writeCodes 11 (some .int) :: ((wsX2_writeCodes_r1 ++ wsX2_writeCodes_r2) ++ wsX20)
def wsX1_drawerFor : List Cond := .code yX1_drawerFor cX1_drawerFor 3 (some .int) :: ([.fieldLink RX1 34 "ConsonantIndex$Drawers" "drawerCount" "I", .fieldLink RX1 18 "ConsonantIndex$Drawers" "codes" "[I", .fieldLink RX1 21 "ConsonantIndex$Drawers" "names" "[I"] ++ wsX10)
def wsX1_fill_r1 : List Cond := [Cond.fieldLink RX1 27 "ConsonantIndex$State" "nameCount" "I", Cond.fieldLink RX1 33 "ConsonantIndex$Drawers" "nameCount" "I", Cond.fieldLink RX1 34 "ConsonantIndex$Drawers" "drawerCount" "I", Cond.fieldLink RX1 37 "ConsonantIndex$State" "words" "[J", Cond.fieldLink RX1 41 "ConsonantIndex$State" "codeLength" "I", Cond.fieldLink RX1 24 "ConsonantIndex$Drawers" "row" "[I", Cond.fieldLink RX1 9 "ConsonantIndex$Drawers" "codeCounts" "[I", Cond.fieldLink RX1 21 "ConsonantIndex$Drawers" "names" "[I", Cond.fieldLink RX1 15 "ConsonantIndex$Drawers" "drawersOfNames" "[I", Cond.methodLink RX1 44 yX2_writeCodes, Cond.instanceMethod yX2_writeCodes, Cond.selects RX2 yX2_writeCodes yX2_writeCodes, Cond.initialized RX2, Cond.code yX2_writeCodes cX2_writeCodes 11 (some .int), Cond.methodLink RX2 60 yX2_waysToHear, Cond.instanceMethod yX2_waysToHear, Cond.selects RX2 yX2_waysToHear yX2_waysToHear, Cond.code yX2_waysToHear cX2_waysToHear 6 (some .int), Cond.fieldLink RX2 15 "ConsonantIndex$Ear" "seconds" "[I", Cond.methodLink RX2 68 yX6_letterAt, Cond.static yX6_letterAt, Cond.initialized RX6, Cond.code yX6_letterAt cX6_letterAt 3 (some .int), Cond.constantLong RX6 11 (31)]
def wsX1_fill_r2 : List Cond := [Cond.methodLink RX2 74 yX6_isLetter, Cond.static yX6_isLetter, Cond.code yX6_isLetter cX6_isLetter 1 (some .boolean), Cond.methodLink RX2 78 yX2_byHabit, Cond.instanceMethod yX2_byHabit, Cond.selects RX2 yX2_byHabit yX2_byHabit, Cond.code yX2_byHabit cX2_byHabit 6 (some .int), Cond.fieldLink RX2 36 "ConsonantIndex$Ear" "habitSet" "I", Cond.methodLink RX2 64 yX2_codeByWay, Cond.instanceMethod yX2_codeByWay, Cond.selects RX2 yX2_codeByWay yX2_codeByWay, Cond.code yX2_codeByWay cX2_codeByWay 13 (some .int), Cond.fieldLink RX2 9 "ConsonantIndex$Ear" "firsts" "[I", Cond.methodLink RX2 81 yX0_with, Cond.static yX0_with, Cond.initialized RX0, Cond.code yX0_with cX0_with 2 (some .int), Cond.methodLink RX1 50 yX1_drawerFor, Cond.instanceMethod yX1_drawerFor, Cond.selects RX1 yX1_drawerFor yX1_drawerFor, Cond.initialized RX1, Cond.code yX1_drawerFor cX1_drawerFor 3 (some .int), Cond.fieldLink RX1 18 "ConsonantIndex$Drawers" "codes" "[I"]
def wsX1_fill : List Cond := .code yX1_fill cX1_fill 7 none :: ((wsX1_fill_r1 ++ wsX1_fill_r2) ++ wsX50 ++ wsX10 ++ wsX20)
def wsX1_codesOf : List Cond := .code yX1_codesOf cX1_codesOf 2 (some .int) :: ([.fieldLink RX1 33 "ConsonantIndex$Drawers" "nameCount" "I", .fieldLink RX1 9 "ConsonantIndex$Drawers" "codeCounts" "[I"] ++ wsX10)
def wsX1_drawerOf : List Cond := .code yX1_drawerOf cX1_drawerOf 3 (some .int) :: ([.fieldLink RX1 15 "ConsonantIndex$Drawers" "drawersOfNames" "[I", .methodLink RX1 54 yX1_codesOf, .instanceMethod yX1_codesOf, .selects RX1 yX1_codesOf yX1_codesOf, .initialized RX1, .code yX1_codesOf cX1_codesOf 2 (some .int), .fieldLink RX1 33 "ConsonantIndex$Drawers" "nameCount" "I", .fieldLink RX1 9 "ConsonantIndex$Drawers" "codeCounts" "[I"] ++ wsX10)
def wsX1_codeAt : List Cond := .code yX1_codeAt cX1_codeAt 2 (some .int) :: ([.fieldLink RX1 34 "ConsonantIndex$Drawers" "drawerCount" "I", .fieldLink RX1 18 "ConsonantIndex$Drawers" "codes" "[I"] ++ wsX10)
def wsX1_namesAt : List Cond := .code yX1_namesAt cX1_namesAt 2 (some .int) :: ([.fieldLink RX1 34 "ConsonantIndex$Drawers" "drawerCount" "I", .fieldLink RX1 21 "ConsonantIndex$Drawers" "names" "[I"] ++ wsX10)
def wsX1_byCode : List Cond := .code yX1_byCode cX1_byCode 5 (some .int) :: ([.fieldLink RX1 34 "ConsonantIndex$Drawers" "drawerCount" "I", .fieldLink RX1 18 "ConsonantIndex$Drawers" "codes" "[I"] ++ wsX10)
def wsJ6_bitCount_0f7a4 : List Cond := .code yJ6_bitCount_0f7a4 cJ6_bitCount_0f7a4 1 (some .int) :: ([.constant RJ6 265 (1431655765), .constant RJ6 266 (858993459), .constant RJ6 267 (252645135)])
def wsX1_namesInFullest : List Cond := .code yX1_namesInFullest cX1_namesInFullest 3 (some .int) :: ([.fieldLink RX1 34 "ConsonantIndex$Drawers" "drawerCount" "I", .fieldLink RX1 21 "ConsonantIndex$Drawers" "names" "[I", .methodLink RX1 62 Lib.Math.max.name, .static Lib.Math.max.name, .initialized "java/lang/Math", .code Lib.Math.max.name Lib.Math.max.code 2 (some .int), .methodLink RX1 57 yJ6_bitCount_0f7a4, .static yJ6_bitCount_0f7a4, .initialized RJ6, .code yJ6_bitCount_0f7a4 cJ6_bitCount_0f7a4 1 (some .int), .constant RJ6 265 (1431655765), .constant RJ6 266 (858993459), .constant RJ6 267 (252645135)] ++ wsX10)
def wsX1_namesInSeveral : List Cond := .code yX1_namesInSeveral cX1_namesInSeveral 3 (some .int) :: ([.fieldLink RX1 33 "ConsonantIndex$Drawers" "nameCount" "I", .fieldLink RX1 9 "ConsonantIndex$Drawers" "codeCounts" "[I"] ++ wsX10)
def wsX1_namesLike : List Cond := .code yX1_namesLike cX1_namesLike 5 (some .int) :: ([.methodLink RX1 54 yX1_codesOf, .instanceMethod yX1_codesOf, .selects RX1 yX1_codesOf yX1_codesOf, .initialized RX1, .code yX1_codesOf cX1_codesOf 2 (some .int), .fieldLink RX1 33 "ConsonantIndex$Drawers" "nameCount" "I", .fieldLink RX1 9 "ConsonantIndex$Drawers" "codeCounts" "[I", .methodLink RX1 68 yX1_drawerOf, .instanceMethod yX1_drawerOf, .selects RX1 yX1_drawerOf yX1_drawerOf, .code yX1_drawerOf cX1_drawerOf 3 (some .int), .fieldLink RX1 15 "ConsonantIndex$Drawers" "drawersOfNames" "[I", .methodLink RX1 71 yX1_namesAt, .instanceMethod yX1_namesAt, .selects RX1 yX1_namesAt yX1_namesAt, .code yX1_namesAt cX1_namesAt 2 (some .int), .fieldLink RX1 34 "ConsonantIndex$Drawers" "drawerCount" "I", .fieldLink RX1 21 "ConsonantIndex$Drawers" "names" "[I"] ++ wsX10)
def wsX1_namesHeardLike_r1 : List Cond := [Cond.fieldLink RX1 41 "ConsonantIndex$State" "codeLength" "I", Cond.fieldLink RX1 24 "ConsonantIndex$Drawers" "row" "[I", Cond.fieldLink RX1 34 "ConsonantIndex$Drawers" "drawerCount" "I", Cond.fieldLink RX1 18 "ConsonantIndex$Drawers" "codes" "[I", Cond.fieldLink RX1 21 "ConsonantIndex$Drawers" "names" "[I", Cond.methodLink RX1 44 yX2_writeCodes, Cond.instanceMethod yX2_writeCodes, Cond.selects RX2 yX2_writeCodes yX2_writeCodes, Cond.initialized RX2, Cond.code yX2_writeCodes cX2_writeCodes 11 (some .int), Cond.methodLink RX2 60 yX2_waysToHear, Cond.instanceMethod yX2_waysToHear, Cond.selects RX2 yX2_waysToHear yX2_waysToHear, Cond.code yX2_waysToHear cX2_waysToHear 6 (some .int), Cond.fieldLink RX2 15 "ConsonantIndex$Ear" "seconds" "[I", Cond.methodLink RX2 68 yX6_letterAt, Cond.static yX6_letterAt, Cond.initialized RX6, Cond.code yX6_letterAt cX6_letterAt 3 (some .int), Cond.constantLong RX6 11 (31), Cond.methodLink RX2 74 yX6_isLetter, Cond.static yX6_isLetter, Cond.code yX6_isLetter cX6_isLetter 1 (some .boolean), Cond.methodLink RX2 78 yX2_byHabit]
def wsX1_namesHeardLike_r2 : List Cond := [Cond.instanceMethod yX2_byHabit, Cond.selects RX2 yX2_byHabit yX2_byHabit, Cond.code yX2_byHabit cX2_byHabit 6 (some .int), Cond.fieldLink RX2 36 "ConsonantIndex$Ear" "habitSet" "I", Cond.methodLink RX2 64 yX2_codeByWay, Cond.instanceMethod yX2_codeByWay, Cond.selects RX2 yX2_codeByWay yX2_codeByWay, Cond.code yX2_codeByWay cX2_codeByWay 13 (some .int), Cond.fieldLink RX2 9 "ConsonantIndex$Ear" "firsts" "[I", Cond.methodLink RX2 81 yX0_with, Cond.static yX0_with, Cond.initialized RX0, Cond.code yX0_with cX0_with 2 (some .int)]
def wsX1_namesHeardLike : List Cond := .code yX1_namesHeardLike cX1_namesHeardLike 9 (some .int) :: ((wsX1_namesHeardLike_r1 ++ wsX1_namesHeardLike_r2) ++ wsX50 ++ wsX10 ++ wsX20)
def wsX1_alikePairs_r1 : List Cond := [Cond.fieldLink RX1 33 "ConsonantIndex$Drawers" "nameCount" "I", Cond.methodLink RX1 74 yX1_namesLike, Cond.instanceMethod yX1_namesLike, Cond.selects RX1 yX1_namesLike yX1_namesLike, Cond.initialized RX1, Cond.code yX1_namesLike cX1_namesLike 5 (some .int), Cond.methodLink RX1 54 yX1_codesOf, Cond.instanceMethod yX1_codesOf, Cond.selects RX1 yX1_codesOf yX1_codesOf, Cond.code yX1_codesOf cX1_codesOf 2 (some .int), Cond.fieldLink RX1 9 "ConsonantIndex$Drawers" "codeCounts" "[I", Cond.methodLink RX1 68 yX1_drawerOf, Cond.instanceMethod yX1_drawerOf, Cond.selects RX1 yX1_drawerOf yX1_drawerOf, Cond.code yX1_drawerOf cX1_drawerOf 3 (some .int), Cond.fieldLink RX1 15 "ConsonantIndex$Drawers" "drawersOfNames" "[I", Cond.methodLink RX1 71 yX1_namesAt, Cond.instanceMethod yX1_namesAt, Cond.selects RX1 yX1_namesAt yX1_namesAt, Cond.code yX1_namesAt cX1_namesAt 2 (some .int), Cond.fieldLink RX1 34 "ConsonantIndex$Drawers" "drawerCount" "I", Cond.fieldLink RX1 21 "ConsonantIndex$Drawers" "names" "[I", Cond.methodLink RX1 57 yJ6_bitCount_0f7a4, Cond.static yJ6_bitCount_0f7a4]
def wsX1_alikePairs_r2 : List Cond := [Cond.initialized RJ6, Cond.code yJ6_bitCount_0f7a4 cJ6_bitCount_0f7a4 1 (some .int), Cond.constant RJ6 265 (1431655765), Cond.constant RJ6 266 (858993459), Cond.constant RJ6 267 (252645135)]
def wsX1_alikePairs : List Cond := .code yX1_alikePairs cX1_alikePairs 3 (some .int) :: ((wsX1_alikePairs_r1 ++ wsX1_alikePairs_r2) ++ wsX10)
def wsX2_beAsAtFirst : List Cond := .code yX2_beAsAtFirst cX2_beAsAtFirst 2 none :: ([.fieldLink RX2 9 "ConsonantIndex$Ear" "firsts" "[I", .fieldLink RX2 33 "ConsonantIndex$Ear" "FIRSTS_AT_FIRST" "[I", .fieldLink RX2 15 "ConsonantIndex$Ear" "seconds" "[I", .fieldLink RX2 36 "ConsonantIndex$Ear" "habitSet" "I", .fieldLink RX2 40 "ConsonantIndex$Ear" "mergers" "I"] ++ wsX20)
def wsX2_init : List Cond := .code yX2_init cX2_init 1 none :: ([.methodLink RX2 3 objectInit, .instanceMethod objectInit, .code objectInit ⟨#[0xb1]⟩ 1 none, .arrayClass .int, .fieldLink RX2 9 "ConsonantIndex$Ear" "firsts" "[I", .fieldLink RX2 15 "ConsonantIndex$Ear" "seconds" "[I", .fieldLink RX2 18 "ConsonantIndex$Ear" "intos" "[I", .fieldLink RX2 21 "ConsonantIndex$Ear" "froms" "[I", .fieldLink RX2 24 "ConsonantIndex$Ear" "movedFirsts" "[I", .fieldLink RX2 27 "ConsonantIndex$Ear" "movedSeconds" "[I", .methodLink RX2 30 yX2_beAsAtFirst, .instanceMethod yX2_beAsAtFirst, .selects RX2 yX2_beAsAtFirst yX2_beAsAtFirst, .initialized RX2, .code yX2_beAsAtFirst cX2_beAsAtFirst 2 none, .fieldLink RX2 33 "ConsonantIndex$Ear" "FIRSTS_AT_FIRST" "[I", .fieldLink RX2 36 "ConsonantIndex$Ear" "habitSet" "I", .fieldLink RX2 40 "ConsonantIndex$Ear" "mergers" "I"] ++ wsX20)
def wsX2_beAs : List Cond := .code yX2_beAs cX2_beAs 2 none :: ([.fieldLink RX2 9 "ConsonantIndex$Ear" "firsts" "[I", .methodLink RX2 43 arraycopyName, .native arraycopyName, .static arraycopyName, .initialized "java/lang/System", .fieldLink RX2 15 "ConsonantIndex$Ear" "seconds" "[I", .fieldLink RX2 36 "ConsonantIndex$Ear" "habitSet" "I", .fieldLink RX2 40 "ConsonantIndex$Ear" "mergers" "I", .fieldLink RX2 18 "ConsonantIndex$Ear" "intos" "[I", .fieldLink RX2 21 "ConsonantIndex$Ear" "froms" "[I", .fieldLink RX2 24 "ConsonantIndex$Ear" "movedFirsts" "[I", .fieldLink RX2 27 "ConsonantIndex$Ear" "movedSeconds" "[I"] ++ wsX20)
def wsX2_loseSameSecond : List Cond := .code yX2_loseSameSecond cX2_loseSameSecond 2 none :: ([.fieldLink RX2 15 "ConsonantIndex$Ear" "seconds" "[I", .fieldLink RX2 9 "ConsonantIndex$Ear" "firsts" "[I"] ++ wsX20)
def wsX2_lettersOf : List Cond := .code yX2_lettersOf cX2_lettersOf 4 (some .int) :: ([.fieldLink RX2 9 "ConsonantIndex$Ear" "firsts" "[I"] ++ wsX20)
def wsX2_lettersWithSecond : List Cond := .code yX2_lettersWithSecond cX2_lettersWithSecond 3 (some .int) :: ([.fieldLink RX2 15 "ConsonantIndex$Ear" "seconds" "[I"] ++ wsX20)
def wsX2_forgetOldest : List Cond := .code yX2_forgetOldest cX2_forgetOldest 1 none :: ([.fieldLink RX2 40 "ConsonantIndex$Ear" "mergers" "I", .fieldLink RX2 18 "ConsonantIndex$Ear" "intos" "[I", .methodLink RX2 43 arraycopyName, .native arraycopyName, .static arraycopyName, .initialized "java/lang/System", .fieldLink RX2 21 "ConsonantIndex$Ear" "froms" "[I", .fieldLink RX2 24 "ConsonantIndex$Ear" "movedFirsts" "[I", .fieldLink RX2 27 "ConsonantIndex$Ear" "movedSeconds" "[I"] ++ wsX20)
def wsX2_remember : List Cond := .code yX2_remember cX2_remember 5 none :: ([.fieldLink RX2 40 "ConsonantIndex$Ear" "mergers" "I", .fieldLink RX2 18 "ConsonantIndex$Ear" "intos" "[I", .fieldLink RX2 21 "ConsonantIndex$Ear" "froms" "[I", .fieldLink RX2 24 "ConsonantIndex$Ear" "movedFirsts" "[I", .fieldLink RX2 27 "ConsonantIndex$Ear" "movedSeconds" "[I", .methodLink RX2 57 yX2_forgetOldest, .instanceMethod yX2_forgetOldest, .selects RX2 yX2_forgetOldest yX2_forgetOldest, .initialized RX2, .code yX2_forgetOldest cX2_forgetOldest 1 none, .methodLink RX2 43 arraycopyName, .native arraycopyName, .static arraycopyName, .initialized "java/lang/System"] ++ wsX20)
def wsX2_mergeClasses : List Cond := .code yX2_mergeClasses cX2_mergeClasses 7 none :: ([.fieldLink RX2 9 "ConsonantIndex$Ear" "firsts" "[I", .fieldLink RX2 15 "ConsonantIndex$Ear" "seconds" "[I", .methodLink RX2 49 yX2_loseSameSecond, .instanceMethod yX2_loseSameSecond, .selects RX2 yX2_loseSameSecond yX2_loseSameSecond, .initialized RX2, .code yX2_loseSameSecond cX2_loseSameSecond 2 none, .methodLink RX2 53 yX2_remember, .instanceMethod yX2_remember, .selects RX2 yX2_remember yX2_remember, .code yX2_remember cX2_remember 5 none, .fieldLink RX2 40 "ConsonantIndex$Ear" "mergers" "I", .fieldLink RX2 18 "ConsonantIndex$Ear" "intos" "[I", .fieldLink RX2 21 "ConsonantIndex$Ear" "froms" "[I", .fieldLink RX2 24 "ConsonantIndex$Ear" "movedFirsts" "[I", .fieldLink RX2 27 "ConsonantIndex$Ear" "movedSeconds" "[I", .methodLink RX2 57 yX2_forgetOldest, .instanceMethod yX2_forgetOldest, .selects RX2 yX2_forgetOldest yX2_forgetOldest, .code yX2_forgetOldest cX2_forgetOldest 1 none, .methodLink RX2 43 arraycopyName, .native arraycopyName, .static arraycopyName, .initialized "java/lang/System"] ++ wsX20)
def wsX2_splitLatest : List Cond := .code yX2_splitLatest cX2_splitLatest 5 (some .int) :: ([.fieldLink RX2 40 "ConsonantIndex$Ear" "mergers" "I", .fieldLink RX2 18 "ConsonantIndex$Ear" "intos" "[I", .fieldLink RX2 21 "ConsonantIndex$Ear" "froms" "[I", .fieldLink RX2 24 "ConsonantIndex$Ear" "movedFirsts" "[I", .fieldLink RX2 9 "ConsonantIndex$Ear" "firsts" "[I", .fieldLink RX2 27 "ConsonantIndex$Ear" "movedSeconds" "[I", .fieldLink RX2 15 "ConsonantIndex$Ear" "seconds" "[I", .methodLink RX2 49 yX2_loseSameSecond, .instanceMethod yX2_loseSameSecond, .selects RX2 yX2_loseSameSecond yX2_loseSameSecond, .initialized RX2, .code yX2_loseSameSecond cX2_loseSameSecond 2 none] ++ wsX20)
def wsX3_init : List Cond := .code yX3_init cX3_init 1 none :: ([.methodLink RX3 3 objectInit, .instanceMethod objectInit, .code objectInit ⟨#[0xb1]⟩ 1 none, .arrayClass .int, .fieldLink RX3 9 "ConsonantIndex$Meter" "row" "[I", .fieldLink RX3 15 "ConsonantIndex$Meter" "distances" "[I"] ++ wsX30)
def wsX6_size : List Cond := .code yX6_size cX6_size 3 (some .int) :: ([.methodLink RX6 13 yX6_letterAt, .static yX6_letterAt, .initialized RX6, .code yX6_letterAt cX6_letterAt 3 (some .int), .constantLong RX6 11 (31)])
def wsX3_between : List Cond := .code yX3_between cX3_between 12 (some .int) :: ([.fieldLink RX3 9 "ConsonantIndex$Meter" "row" "[I", .methodLink RX3 28 Lib.Math.min.name, .static Lib.Math.min.name, .initialized "java/lang/Math", .code Lib.Math.min.name Lib.Math.min.code 2 (some .int), .methodLink RX3 18 yX6_size, .static yX6_size, .initialized RX6, .code yX6_size cX6_size 3 (some .int), .methodLink RX6 13 yX6_letterAt, .static yX6_letterAt, .code yX6_letterAt cX6_letterAt 3 (some .int), .constantLong RX6 11 (31), .methodLink RX3 24 yX6_letterAt] ++ wsX30)
def wsX3_namesAhead : List Cond := .code yX3_namesAhead cX3_namesAhead 6 (some .int) :: ([.fieldLink RX3 15 "ConsonantIndex$Meter" "distances" "[I"] ++ wsX30)
def wsX3_ranked_r1 : List Cond := [Cond.fieldLink RX3 34 "ConsonantIndex$State" "nameCount" "I", Cond.fieldLink RX3 15 "ConsonantIndex$Meter" "distances" "[I", Cond.fieldLink RX3 40 "ConsonantIndex$State" "words" "[J", Cond.methodLink RX3 44 yX3_between, Cond.instanceMethod yX3_between, Cond.selects RX3 yX3_between yX3_between, Cond.initialized RX3, Cond.code yX3_between cX3_between 12 (some .int), Cond.fieldLink RX3 9 "ConsonantIndex$Meter" "row" "[I", Cond.methodLink RX3 28 Lib.Math.min.name, Cond.static Lib.Math.min.name, Cond.initialized "java/lang/Math", Cond.code Lib.Math.min.name Lib.Math.min.code 2 (some .int), Cond.methodLink RX3 18 yX6_size, Cond.static yX6_size, Cond.initialized RX6, Cond.code yX6_size cX6_size 3 (some .int), Cond.methodLink RX6 13 yX6_letterAt, Cond.static yX6_letterAt, Cond.code yX6_letterAt cX6_letterAt 3 (some .int), Cond.constantLong RX6 11 (31), Cond.methodLink RX3 24 yX6_letterAt, Cond.methodLink RX3 48 yX3_namesAhead, Cond.instanceMethod yX3_namesAhead]
def wsX3_ranked_r2 : List Cond := [Cond.selects RX3 yX3_namesAhead yX3_namesAhead, Cond.code yX3_namesAhead cX3_namesAhead 6 (some .int)]
def wsX3_ranked : List Cond := .code yX3_ranked cX3_ranked 7 (some .int) :: ((wsX3_ranked_r1 ++ wsX3_ranked_r2) ++ wsX50 ++ wsX30)
def wsX4_init : List Cond := .code yX4_init cX4_init 1 none :: ([.methodLink RX4 3 objectInit, .instanceMethod objectInit, .code objectInit ⟨#[0xb1]⟩ 1 none, .arrayClass .char, .fieldLink RX4 9 "ConsonantIndex$Pad" "characters" "[C", .fieldLink RX4 15 "ConsonantIndex$Pad" "size" "I"] ++ wsX40)
def wsX4_charactersIn : List Cond := .code yX4_charactersIn cX4_charactersIn 7 (some .int) :: ([.constantLong RX4 19 (255), .constantLong RX4 21 (33), .constantLong RX4 23 (126)])
def wsX4_append : List Cond := .code yX4_append cX4_append 5 none :: ([.fieldLink RX4 15 "ConsonantIndex$Pad" "size" "I", .fieldLink RX4 9 "ConsonantIndex$Pad" "characters" "[C", .constantLong RX4 19 (255)] ++ wsX40)
def wsX4_firstFault : List Cond := .code yX4_firstFault cX4_firstFault 2 (some .int) :: ([.fieldLink RX4 15 "ConsonantIndex$Pad" "size" "I", .fieldLink RX4 9 "ConsonantIndex$Pad" "characters" "[C"] ++ wsX40)
def wsX6_with : List Cond := .code yX6_with cX6_with 4 (some .long) :: ([])
def wsX4_asWord : List Cond := .code yX4_asWord cX4_asWord 4 (some .long) :: ([.fieldLink RX4 15 "ConsonantIndex$Pad" "size" "I", .fieldLink RX4 9 "ConsonantIndex$Pad" "characters" "[C", .methodLink RX4 25 yX6_with, .static yX6_with, .initialized RX6, .code yX6_with cX6_with 4 (some .long)] ++ wsX40)
def wsX5_init_r1 : List Cond := [Cond.methodLink RX5 3 objectInit, Cond.instanceMethod objectInit, Cond.code objectInit ⟨#[0xb1]⟩ 1 none, Cond.fieldLink RX5 9 "ConsonantIndex$State" "codeLength" "I", Cond.fieldLink RX5 15 "ConsonantIndex$State" "nameLimit" "I", Cond.fieldLink RX5 18 "ConsonantIndex$State" "nameCount" "I", Cond.arrayClass .long, Cond.fieldLink RX5 21 "ConsonantIndex$State" "words" "[J", Cond.fieldLink RX5 25 "ConsonantIndex$State" "earCount" "I", Cond.classLink RX5 28 RX2, Cond.fieldLink RX5 30 "ConsonantIndex$State" "ears" "[LConsonantIndex$Ear;", Cond.instantiable RX2 8, Cond.initialized RX2, Cond.methodLink RX5 34 yX2_init, Cond.instanceMethod yX2_init, Cond.code yX2_init cX2_init 1 none, Cond.methodLink RX2 3 objectInit, Cond.arrayClass .int, Cond.fieldLink RX2 9 "ConsonantIndex$Ear" "firsts" "[I", Cond.fieldLink RX2 15 "ConsonantIndex$Ear" "seconds" "[I", Cond.fieldLink RX2 18 "ConsonantIndex$Ear" "intos" "[I", Cond.fieldLink RX2 21 "ConsonantIndex$Ear" "froms" "[I", Cond.fieldLink RX2 24 "ConsonantIndex$Ear" "movedFirsts" "[I", Cond.fieldLink RX2 27 "ConsonantIndex$Ear" "movedSeconds" "[I"]
def wsX5_init_r2 : List Cond := [Cond.methodLink RX2 30 yX2_beAsAtFirst, Cond.instanceMethod yX2_beAsAtFirst, Cond.selects RX2 yX2_beAsAtFirst yX2_beAsAtFirst, Cond.code yX2_beAsAtFirst cX2_beAsAtFirst 2 none, Cond.fieldLink RX2 33 "ConsonantIndex$Ear" "FIRSTS_AT_FIRST" "[I", Cond.fieldLink RX2 36 "ConsonantIndex$Ear" "habitSet" "I", Cond.fieldLink RX2 40 "ConsonantIndex$Ear" "mergers" "I"]
def wsX5_init : List Cond := .code yX5_init cX5_init 2 none :: ((wsX5_init_r1 ++ wsX5_init_r2) ++ wsX50 ++ wsX20)
def wsX5_beAs : List Cond := .code yX5_beAs cX5_beAs 3 none :: ([.fieldLink RX5 9 "ConsonantIndex$State" "codeLength" "I", .fieldLink RX5 15 "ConsonantIndex$State" "nameLimit" "I", .fieldLink RX5 18 "ConsonantIndex$State" "nameCount" "I", .fieldLink RX5 21 "ConsonantIndex$State" "words" "[J", .methodLink RX5 35 arraycopyName, .native arraycopyName, .static arraycopyName, .initialized "java/lang/System", .fieldLink RX5 25 "ConsonantIndex$State" "earCount" "I", .fieldLink RX5 30 "ConsonantIndex$State" "ears" "[LConsonantIndex$Ear;", .methodLink RX5 41 yX2_beAs, .instanceMethod yX2_beAs, .selects RX2 yX2_beAs yX2_beAs, .initialized RX2, .code yX2_beAs cX2_beAs 2 none, .fieldLink RX2 9 "ConsonantIndex$Ear" "firsts" "[I", .methodLink RX2 43 arraycopyName, .fieldLink RX2 15 "ConsonantIndex$Ear" "seconds" "[I", .fieldLink RX2 36 "ConsonantIndex$Ear" "habitSet" "I", .fieldLink RX2 40 "ConsonantIndex$Ear" "mergers" "I", .fieldLink RX2 18 "ConsonantIndex$Ear" "intos" "[I", .fieldLink RX2 21 "ConsonantIndex$Ear" "froms" "[I", .fieldLink RX2 24 "ConsonantIndex$Ear" "movedFirsts" "[I", .fieldLink RX2 27 "ConsonantIndex$Ear" "movedSeconds" "[I"] ++ wsX50 ++ wsX20)
def wsX5_hasName : List Cond := .code yX5_hasName cX5_hasName 2 (some .boolean) :: ([.fieldLink RX5 18 "ConsonantIndex$State" "nameCount" "I"] ++ wsX50)
def wsX5_holds : List Cond := .code yX5_holds cX5_holds 4 (some .boolean) :: ([.fieldLink RX5 18 "ConsonantIndex$State" "nameCount" "I", .fieldLink RX5 21 "ConsonantIndex$State" "words" "[J"] ++ wsX50)
def wsX5_removeName : List Cond := .code yX5_removeName cX5_removeName 3 none :: ([.fieldLink RX5 18 "ConsonantIndex$State" "nameCount" "I", .fieldLink RX5 21 "ConsonantIndex$State" "words" "[J"] ++ wsX50)
def wsX6_letterSet : List Cond := .code yX6_letterSet cX6_letterSet 5 (some .int) :: ([.methodLink RX6 17 yX6_size, .static yX6_size, .initialized RX6, .code yX6_size cX6_size 3 (some .int), .methodLink RX6 13 yX6_letterAt, .static yX6_letterAt, .code yX6_letterAt cX6_letterAt 3 (some .int), .constantLong RX6 11 (31)])
def wsX5_lettersInNames : List Cond := .code yX5_lettersInNames cX5_lettersInNames 3 (some .int) :: ([.fieldLink RX5 18 "ConsonantIndex$State" "nameCount" "I", .fieldLink RX5 21 "ConsonantIndex$State" "words" "[J", .methodLink RX5 45 yX6_letterSet, .static yX6_letterSet, .initialized RX6, .code yX6_letterSet cX6_letterSet 5 (some .int), .methodLink RX6 17 yX6_size, .static yX6_size, .code yX6_size cX6_size 3 (some .int), .methodLink RX6 13 yX6_letterAt, .static yX6_letterAt, .code yX6_letterAt cX6_letterAt 3 (some .int), .constantLong RX6 11 (31)] ++ wsX50)
def wsX5_earAt : List Cond := .code yX5_earAt cX5_earAt 2 (some (.object "ConsonantIndex$Ear")) :: ([.fieldLink RX5 25 "ConsonantIndex$State" "earCount" "I", .fieldLink RX5 30 "ConsonantIndex$State" "ears" "[LConsonantIndex$Ear;"] ++ wsX50)
def wsX7_init_r1 : List Cond := [Cond.methodLink RX7 1 objectInit, Cond.instanceMethod objectInit, Cond.code objectInit ⟨#[0xb1]⟩ 1 none, Cond.classLink RX7 7 RX5, Cond.instantiable RX5 6, Cond.initialized RX5, Cond.fieldLink RX7 10 "ConsonantIndex" "now" "LConsonantIndex$State;", Cond.fieldLink RX7 16 "ConsonantIndex" "past" "[LConsonantIndex$State;", Cond.fieldLink RX7 20 "ConsonantIndex" "changes" "I", Cond.fieldLink RX7 24 "ConsonantIndex" "slots" "[LConsonantIndex$State;", Cond.arrayClass .boolean, Cond.fieldLink RX7 27 "ConsonantIndex" "saved" "[Z", Cond.classLink RX7 31 RX4, Cond.instantiable RX4 2, Cond.initialized RX4, Cond.fieldLink RX7 34 "ConsonantIndex" "pad" "LConsonantIndex$Pad;", Cond.classLink RX7 38 RX1, Cond.instantiable RX1 7, Cond.initialized RX1, Cond.fieldLink RX7 41 "ConsonantIndex" "drawers" "LConsonantIndex$Drawers;", Cond.fieldLink RX7 45 "ConsonantIndex" "otherDrawers" "LConsonantIndex$Drawers;", Cond.classLink RX7 48 RX2, Cond.instantiable RX2 8, Cond.initialized RX2]
def wsX7_init_r2 : List Cond := [Cond.fieldLink RX7 51 "ConsonantIndex" "supposed" "LConsonantIndex$Ear;", Cond.classLink RX7 55 RX3, Cond.instantiable RX3 2, Cond.initialized RX3, Cond.fieldLink RX7 58 "ConsonantIndex" "meter" "LConsonantIndex$Meter;", Cond.methodLink RX7 9 yX5_init, Cond.instanceMethod yX5_init, Cond.code yX5_init cX5_init 2 none, Cond.methodLink RX5 3 objectInit, Cond.fieldLink RX5 9 "ConsonantIndex$State" "codeLength" "I", Cond.fieldLink RX5 15 "ConsonantIndex$State" "nameLimit" "I", Cond.fieldLink RX5 18 "ConsonantIndex$State" "nameCount" "I", Cond.arrayClass .long, Cond.fieldLink RX5 21 "ConsonantIndex$State" "words" "[J", Cond.fieldLink RX5 25 "ConsonantIndex$State" "earCount" "I", Cond.classLink RX5 28 RX2, Cond.fieldLink RX5 30 "ConsonantIndex$State" "ears" "[LConsonantIndex$Ear;", Cond.methodLink RX5 34 yX2_init, Cond.instanceMethod yX2_init, Cond.code yX2_init cX2_init 1 none, Cond.methodLink RX2 3 objectInit, Cond.arrayClass .int, Cond.fieldLink RX2 9 "ConsonantIndex$Ear" "firsts" "[I", Cond.fieldLink RX2 15 "ConsonantIndex$Ear" "seconds" "[I"]
def wsX7_init_r3 : List Cond := [Cond.fieldLink RX2 18 "ConsonantIndex$Ear" "intos" "[I", Cond.fieldLink RX2 21 "ConsonantIndex$Ear" "froms" "[I", Cond.fieldLink RX2 24 "ConsonantIndex$Ear" "movedFirsts" "[I", Cond.fieldLink RX2 27 "ConsonantIndex$Ear" "movedSeconds" "[I", Cond.methodLink RX2 30 yX2_beAsAtFirst, Cond.instanceMethod yX2_beAsAtFirst, Cond.selects RX2 yX2_beAsAtFirst yX2_beAsAtFirst, Cond.code yX2_beAsAtFirst cX2_beAsAtFirst 2 none, Cond.fieldLink RX2 33 "ConsonantIndex$Ear" "FIRSTS_AT_FIRST" "[I", Cond.fieldLink RX2 36 "ConsonantIndex$Ear" "habitSet" "I", Cond.fieldLink RX2 40 "ConsonantIndex$Ear" "mergers" "I", Cond.instanceMethod yX4_init, Cond.code yX4_init cX4_init 1 none, Cond.methodLink RX4 3 objectInit, Cond.arrayClass .char, Cond.fieldLink RX4 9 "ConsonantIndex$Pad" "characters" "[C", Cond.fieldLink RX4 15 "ConsonantIndex$Pad" "size" "I", Cond.instanceMethod yX1_init, Cond.code yX1_init cX1_init 1 none, Cond.methodLink RX1 3 objectInit, Cond.fieldLink RX1 9 "ConsonantIndex$Drawers" "codeCounts" "[I", Cond.fieldLink RX1 15 "ConsonantIndex$Drawers" "drawersOfNames" "[I", Cond.fieldLink RX1 18 "ConsonantIndex$Drawers" "codes" "[I", Cond.fieldLink RX1 21 "ConsonantIndex$Drawers" "names" "[I"]
def wsX7_init_r4 : List Cond := [Cond.fieldLink RX1 24 "ConsonantIndex$Drawers" "row" "[I", Cond.methodLink RX7 50 yX2_init, Cond.instanceMethod yX3_init, Cond.code yX3_init cX3_init 1 none, Cond.methodLink RX3 3 objectInit, Cond.fieldLink RX3 9 "ConsonantIndex$Meter" "row" "[I", Cond.fieldLink RX3 15 "ConsonantIndex$Meter" "distances" "[I"]
def wsX7_init : List Cond := .code yX7_init cX7_init 2 none :: ((wsX7_init_r1 ++ (wsX7_init_r2 ++ (wsX7_init_r3 ++ wsX7_init_r4))) ++ wsX50 ++ wsX70 ++ wsX40 ++ wsX10 ++ wsX20 ++ wsX30)
def wsX7_isWithin : List Cond := .code yX7_isWithin cX7_isWithin 3 (some .boolean) :: ([])
def wsX7_recordChange_r1 : List Cond := [Cond.fieldLink RX7 20 "ConsonantIndex" "changes" "I", Cond.fieldLink RX7 16 "ConsonantIndex" "past" "[LConsonantIndex$State;", Cond.fieldLink RX7 10 "ConsonantIndex" "now" "LConsonantIndex$State;", Cond.methodLink RX7 248 yX5_beAs, Cond.instanceMethod yX5_beAs, Cond.selects RX5 yX5_beAs yX5_beAs, Cond.initialized RX5, Cond.code yX5_beAs cX5_beAs 3 none, Cond.fieldLink RX5 9 "ConsonantIndex$State" "codeLength" "I", Cond.fieldLink RX5 15 "ConsonantIndex$State" "nameLimit" "I", Cond.fieldLink RX5 18 "ConsonantIndex$State" "nameCount" "I", Cond.fieldLink RX5 21 "ConsonantIndex$State" "words" "[J", Cond.methodLink RX5 35 arraycopyName, Cond.native arraycopyName, Cond.static arraycopyName, Cond.initialized "java/lang/System", Cond.fieldLink RX5 25 "ConsonantIndex$State" "earCount" "I", Cond.fieldLink RX5 30 "ConsonantIndex$State" "ears" "[LConsonantIndex$Ear;", Cond.methodLink RX5 41 yX2_beAs, Cond.instanceMethod yX2_beAs, Cond.selects RX2 yX2_beAs yX2_beAs, Cond.initialized RX2, Cond.code yX2_beAs cX2_beAs 2 none, Cond.fieldLink RX2 9 "ConsonantIndex$Ear" "firsts" "[I"]
def wsX7_recordChange_r2 : List Cond := [Cond.methodLink RX2 43 arraycopyName, Cond.fieldLink RX2 15 "ConsonantIndex$Ear" "seconds" "[I", Cond.fieldLink RX2 36 "ConsonantIndex$Ear" "habitSet" "I", Cond.fieldLink RX2 40 "ConsonantIndex$Ear" "mergers" "I", Cond.fieldLink RX2 18 "ConsonantIndex$Ear" "intos" "[I", Cond.fieldLink RX2 21 "ConsonantIndex$Ear" "froms" "[I", Cond.fieldLink RX2 24 "ConsonantIndex$Ear" "movedFirsts" "[I", Cond.fieldLink RX2 27 "ConsonantIndex$Ear" "movedSeconds" "[I"]
def wsX7_recordChange : List Cond := .code yX7_recordChange cX7_recordChange 3 none :: ((wsX7_recordChange_r1 ++ wsX7_recordChange_r2) ++ wsX70 ++ wsX50 ++ wsX20)
def wsX7_set_r1 : List Cond := [Cond.fieldLink RX7 10 "ConsonantIndex" "now" "LConsonantIndex$State;", Cond.fieldLink RX7 66 "ConsonantIndex$State" "codeLength" "I", Cond.fieldLink RX7 72 "ConsonantIndex$State" "nameLimit" "I", Cond.methodLink RX7 62 yX7_isWithin, Cond.static yX7_isWithin, Cond.initialized RX7, Cond.code yX7_isWithin cX7_isWithin 3 (some .boolean), Cond.methodLink RX7 69 yX7_recordChange, Cond.instanceMethod yX7_recordChange, Cond.selects RX7 yX7_recordChange yX7_recordChange, Cond.code yX7_recordChange cX7_recordChange 3 none, Cond.fieldLink RX7 20 "ConsonantIndex" "changes" "I", Cond.fieldLink RX7 16 "ConsonantIndex" "past" "[LConsonantIndex$State;", Cond.methodLink RX7 248 yX5_beAs, Cond.instanceMethod yX5_beAs, Cond.selects RX5 yX5_beAs yX5_beAs, Cond.initialized RX5, Cond.code yX5_beAs cX5_beAs 3 none, Cond.fieldLink RX5 9 "ConsonantIndex$State" "codeLength" "I", Cond.fieldLink RX5 15 "ConsonantIndex$State" "nameLimit" "I", Cond.fieldLink RX5 18 "ConsonantIndex$State" "nameCount" "I", Cond.fieldLink RX5 21 "ConsonantIndex$State" "words" "[J", Cond.methodLink RX5 35 arraycopyName, Cond.native arraycopyName]
def wsX7_set_r2 : List Cond := [Cond.static arraycopyName, Cond.initialized "java/lang/System", Cond.fieldLink RX5 25 "ConsonantIndex$State" "earCount" "I", Cond.fieldLink RX5 30 "ConsonantIndex$State" "ears" "[LConsonantIndex$Ear;", Cond.methodLink RX5 41 yX2_beAs, Cond.instanceMethod yX2_beAs, Cond.selects RX2 yX2_beAs yX2_beAs, Cond.initialized RX2, Cond.code yX2_beAs cX2_beAs 2 none, Cond.fieldLink RX2 9 "ConsonantIndex$Ear" "firsts" "[I", Cond.methodLink RX2 43 arraycopyName, Cond.fieldLink RX2 15 "ConsonantIndex$Ear" "seconds" "[I", Cond.fieldLink RX2 36 "ConsonantIndex$Ear" "habitSet" "I", Cond.fieldLink RX2 40 "ConsonantIndex$Ear" "mergers" "I", Cond.fieldLink RX2 18 "ConsonantIndex$Ear" "intos" "[I", Cond.fieldLink RX2 21 "ConsonantIndex$Ear" "froms" "[I", Cond.fieldLink RX2 24 "ConsonantIndex$Ear" "movedFirsts" "[I", Cond.fieldLink RX2 27 "ConsonantIndex$Ear" "movedSeconds" "[I"]
def wsX7_set : List Cond := .code yX7_set cX7_set 4 (some .int) :: ((wsX7_set_r1 ++ wsX7_set_r2) ++ wsX70 ++ wsX50 ++ wsX20)
def wsX7_add_r1 : List Cond := [Cond.fieldLink RX7 34 "ConsonantIndex" "pad" "LConsonantIndex$Pad;", Cond.fieldLink RX7 10 "ConsonantIndex" "now" "LConsonantIndex$State;", Cond.fieldLink RX7 87 "ConsonantIndex$State" "nameCount" "I", Cond.fieldLink RX7 72 "ConsonantIndex$State" "nameLimit" "I", Cond.fieldLink RX7 90 "ConsonantIndex$State" "words" "[J", Cond.fieldLink RX7 94 "ConsonantIndex$Pad" "size" "I", Cond.methodLink RX7 75 yX4_firstFault, Cond.instanceMethod yX4_firstFault, Cond.selects RX4 yX4_firstFault yX4_firstFault, Cond.initialized RX4, Cond.code yX4_firstFault cX4_firstFault 2 (some .int), Cond.fieldLink RX4 15 "ConsonantIndex$Pad" "size" "I", Cond.fieldLink RX4 9 "ConsonantIndex$Pad" "characters" "[C", Cond.methodLink RX7 79 yX4_asWord, Cond.instanceMethod yX4_asWord, Cond.selects RX4 yX4_asWord yX4_asWord, Cond.code yX4_asWord cX4_asWord 4 (some .long), Cond.methodLink RX4 25 yX6_with, Cond.static yX6_with, Cond.initialized RX6, Cond.code yX6_with cX6_with 4 (some .long), Cond.methodLink RX7 83 yX5_holds, Cond.instanceMethod yX5_holds, Cond.selects RX5 yX5_holds yX5_holds]
def wsX7_add_r2 : List Cond := [Cond.initialized RX5, Cond.code yX5_holds cX5_holds 4 (some .boolean), Cond.fieldLink RX5 18 "ConsonantIndex$State" "nameCount" "I", Cond.fieldLink RX5 21 "ConsonantIndex$State" "words" "[J", Cond.methodLink RX7 69 yX7_recordChange, Cond.instanceMethod yX7_recordChange, Cond.selects RX7 yX7_recordChange yX7_recordChange, Cond.initialized RX7, Cond.code yX7_recordChange cX7_recordChange 3 none, Cond.fieldLink RX7 20 "ConsonantIndex" "changes" "I", Cond.fieldLink RX7 16 "ConsonantIndex" "past" "[LConsonantIndex$State;", Cond.methodLink RX7 248 yX5_beAs, Cond.instanceMethod yX5_beAs, Cond.selects RX5 yX5_beAs yX5_beAs, Cond.code yX5_beAs cX5_beAs 3 none, Cond.fieldLink RX5 9 "ConsonantIndex$State" "codeLength" "I", Cond.fieldLink RX5 15 "ConsonantIndex$State" "nameLimit" "I", Cond.methodLink RX5 35 arraycopyName, Cond.native arraycopyName, Cond.static arraycopyName, Cond.initialized "java/lang/System", Cond.fieldLink RX5 25 "ConsonantIndex$State" "earCount" "I", Cond.fieldLink RX5 30 "ConsonantIndex$State" "ears" "[LConsonantIndex$Ear;", Cond.methodLink RX5 41 yX2_beAs]
def wsX7_add_r3 : List Cond := [Cond.instanceMethod yX2_beAs, Cond.selects RX2 yX2_beAs yX2_beAs, Cond.initialized RX2, Cond.code yX2_beAs cX2_beAs 2 none, Cond.fieldLink RX2 9 "ConsonantIndex$Ear" "firsts" "[I", Cond.methodLink RX2 43 arraycopyName, Cond.fieldLink RX2 15 "ConsonantIndex$Ear" "seconds" "[I", Cond.fieldLink RX2 36 "ConsonantIndex$Ear" "habitSet" "I", Cond.fieldLink RX2 40 "ConsonantIndex$Ear" "mergers" "I", Cond.fieldLink RX2 18 "ConsonantIndex$Ear" "intos" "[I", Cond.fieldLink RX2 21 "ConsonantIndex$Ear" "froms" "[I", Cond.fieldLink RX2 24 "ConsonantIndex$Ear" "movedFirsts" "[I", Cond.fieldLink RX2 27 "ConsonantIndex$Ear" "movedSeconds" "[I"]
def wsX7_add : List Cond := .code yX7_add cX7_add 3 (some .int) :: ((wsX7_add_r1 ++ (wsX7_add_r2 ++ wsX7_add_r3)) ++ wsX70 ++ wsX50 ++ wsX40 ++ wsX20)
def wsX7_drop_r1 : List Cond := [Cond.fieldLink RX7 10 "ConsonantIndex" "now" "LConsonantIndex$State;", Cond.fieldLink RX7 87 "ConsonantIndex$State" "nameCount" "I", Cond.methodLink RX7 97 yX5_hasName, Cond.instanceMethod yX5_hasName, Cond.selects RX5 yX5_hasName yX5_hasName, Cond.initialized RX5, Cond.code yX5_hasName cX5_hasName 2 (some .boolean), Cond.fieldLink RX5 18 "ConsonantIndex$State" "nameCount" "I", Cond.methodLink RX7 69 yX7_recordChange, Cond.instanceMethod yX7_recordChange, Cond.selects RX7 yX7_recordChange yX7_recordChange, Cond.initialized RX7, Cond.code yX7_recordChange cX7_recordChange 3 none, Cond.fieldLink RX7 20 "ConsonantIndex" "changes" "I", Cond.fieldLink RX7 16 "ConsonantIndex" "past" "[LConsonantIndex$State;", Cond.methodLink RX7 248 yX5_beAs, Cond.instanceMethod yX5_beAs, Cond.selects RX5 yX5_beAs yX5_beAs, Cond.code yX5_beAs cX5_beAs 3 none, Cond.fieldLink RX5 9 "ConsonantIndex$State" "codeLength" "I", Cond.fieldLink RX5 15 "ConsonantIndex$State" "nameLimit" "I", Cond.fieldLink RX5 21 "ConsonantIndex$State" "words" "[J", Cond.methodLink RX5 35 arraycopyName, Cond.native arraycopyName]
def wsX7_drop_r2 : List Cond := [Cond.static arraycopyName, Cond.initialized "java/lang/System", Cond.fieldLink RX5 25 "ConsonantIndex$State" "earCount" "I", Cond.fieldLink RX5 30 "ConsonantIndex$State" "ears" "[LConsonantIndex$Ear;", Cond.methodLink RX5 41 yX2_beAs, Cond.instanceMethod yX2_beAs, Cond.selects RX2 yX2_beAs yX2_beAs, Cond.initialized RX2, Cond.code yX2_beAs cX2_beAs 2 none, Cond.fieldLink RX2 9 "ConsonantIndex$Ear" "firsts" "[I", Cond.methodLink RX2 43 arraycopyName, Cond.fieldLink RX2 15 "ConsonantIndex$Ear" "seconds" "[I", Cond.fieldLink RX2 36 "ConsonantIndex$Ear" "habitSet" "I", Cond.fieldLink RX2 40 "ConsonantIndex$Ear" "mergers" "I", Cond.fieldLink RX2 18 "ConsonantIndex$Ear" "intos" "[I", Cond.fieldLink RX2 21 "ConsonantIndex$Ear" "froms" "[I", Cond.fieldLink RX2 24 "ConsonantIndex$Ear" "movedFirsts" "[I", Cond.fieldLink RX2 27 "ConsonantIndex$Ear" "movedSeconds" "[I", Cond.methodLink RX7 101 yX5_removeName, Cond.instanceMethod yX5_removeName, Cond.selects RX5 yX5_removeName yX5_removeName, Cond.code yX5_removeName cX5_removeName 3 none]
def wsX7_drop : List Cond := .code yX7_drop cX7_drop 2 (some .int) :: ((wsX7_drop_r1 ++ wsX7_drop_r2) ++ wsX70 ++ wsX50 ++ wsX20)
def wsX7_ear_r1 : List Cond := [Cond.fieldLink RX7 10 "ConsonantIndex" "now" "LConsonantIndex$State;", Cond.fieldLink RX7 109 "ConsonantIndex$State" "earCount" "I", Cond.fieldLink RX7 112 "ConsonantIndex$State" "ears" "[LConsonantIndex$Ear;", Cond.methodLink RX7 105 yX5_earAt, Cond.instanceMethod yX5_earAt, Cond.selects RX5 yX5_earAt yX5_earAt, Cond.initialized RX5, Cond.code yX5_earAt cX5_earAt 2 (some (.object "ConsonantIndex$Ear")), Cond.fieldLink RX5 25 "ConsonantIndex$State" "earCount" "I", Cond.fieldLink RX5 30 "ConsonantIndex$State" "ears" "[LConsonantIndex$Ear;", Cond.methodLink RX7 69 yX7_recordChange, Cond.instanceMethod yX7_recordChange, Cond.selects RX7 yX7_recordChange yX7_recordChange, Cond.initialized RX7, Cond.code yX7_recordChange cX7_recordChange 3 none, Cond.fieldLink RX7 20 "ConsonantIndex" "changes" "I", Cond.fieldLink RX7 16 "ConsonantIndex" "past" "[LConsonantIndex$State;", Cond.methodLink RX7 248 yX5_beAs, Cond.instanceMethod yX5_beAs, Cond.selects RX5 yX5_beAs yX5_beAs, Cond.code yX5_beAs cX5_beAs 3 none, Cond.fieldLink RX5 9 "ConsonantIndex$State" "codeLength" "I", Cond.fieldLink RX5 15 "ConsonantIndex$State" "nameLimit" "I", Cond.fieldLink RX5 18 "ConsonantIndex$State" "nameCount" "I"]
def wsX7_ear_r2 : List Cond := [Cond.fieldLink RX5 21 "ConsonantIndex$State" "words" "[J", Cond.methodLink RX5 35 arraycopyName, Cond.native arraycopyName, Cond.static arraycopyName, Cond.initialized "java/lang/System", Cond.methodLink RX5 41 yX2_beAs, Cond.instanceMethod yX2_beAs, Cond.selects RX2 yX2_beAs yX2_beAs, Cond.initialized RX2, Cond.code yX2_beAs cX2_beAs 2 none, Cond.fieldLink RX2 9 "ConsonantIndex$Ear" "firsts" "[I", Cond.methodLink RX2 43 arraycopyName, Cond.fieldLink RX2 15 "ConsonantIndex$Ear" "seconds" "[I", Cond.fieldLink RX2 36 "ConsonantIndex$Ear" "habitSet" "I", Cond.fieldLink RX2 40 "ConsonantIndex$Ear" "mergers" "I", Cond.fieldLink RX2 18 "ConsonantIndex$Ear" "intos" "[I", Cond.fieldLink RX2 21 "ConsonantIndex$Ear" "froms" "[I", Cond.fieldLink RX2 24 "ConsonantIndex$Ear" "movedFirsts" "[I", Cond.fieldLink RX2 27 "ConsonantIndex$Ear" "movedSeconds" "[I", Cond.methodLink RX7 116 yX2_beAsAtFirst, Cond.instanceMethod yX2_beAsAtFirst, Cond.selects RX2 yX2_beAsAtFirst yX2_beAsAtFirst, Cond.code yX2_beAsAtFirst cX2_beAsAtFirst 2 none, Cond.fieldLink RX2 33 "ConsonantIndex$Ear" "FIRSTS_AT_FIRST" "[I"]
def wsX7_ear_r3 : List Cond := [Cond.methodLink RX7 119 yX2_beAs]
def wsX7_ear : List Cond := .code yX7_ear cX7_ear 4 (some .int) :: ((wsX7_ear_r1 ++ (wsX7_ear_r2 ++ wsX7_ear_r3)) ++ wsX70 ++ wsX50 ++ wsX20)
def wsX7_isClass : List Cond := .code yX7_isClass cX7_isClass 1 (some .boolean) :: ([.methodLink RX7 62 yX7_isWithin, .static yX7_isWithin, .initialized RX7, .code yX7_isWithin cX7_isWithin 3 (some .boolean)])
def wsX7_hear_r1 : List Cond := [Cond.fieldLink RX7 10 "ConsonantIndex" "now" "LConsonantIndex$State;", Cond.fieldLink RX7 131 "ConsonantIndex$Ear" "firsts" "[I", Cond.methodLink RX7 105 yX5_earAt, Cond.instanceMethod yX5_earAt, Cond.selects RX5 yX5_earAt yX5_earAt, Cond.initialized RX5, Cond.code yX5_earAt cX5_earAt 2 (some (.object "ConsonantIndex$Ear")), Cond.fieldLink RX5 25 "ConsonantIndex$State" "earCount" "I", Cond.fieldLink RX5 30 "ConsonantIndex$State" "ears" "[LConsonantIndex$Ear;", Cond.methodLink RX7 123 yX6_isLetter, Cond.static yX6_isLetter, Cond.initialized RX6, Cond.code yX6_isLetter cX6_isLetter 1 (some .boolean), Cond.methodLink RX7 128 yX7_isClass, Cond.static yX7_isClass, Cond.initialized RX7, Cond.code yX7_isClass cX7_isClass 1 (some .boolean), Cond.methodLink RX7 62 yX7_isWithin, Cond.static yX7_isWithin, Cond.code yX7_isWithin cX7_isWithin 3 (some .boolean), Cond.methodLink RX7 69 yX7_recordChange, Cond.instanceMethod yX7_recordChange, Cond.selects RX7 yX7_recordChange yX7_recordChange, Cond.code yX7_recordChange cX7_recordChange 3 none]
def wsX7_hear_r2 : List Cond := [Cond.fieldLink RX7 20 "ConsonantIndex" "changes" "I", Cond.fieldLink RX7 16 "ConsonantIndex" "past" "[LConsonantIndex$State;", Cond.methodLink RX7 248 yX5_beAs, Cond.instanceMethod yX5_beAs, Cond.selects RX5 yX5_beAs yX5_beAs, Cond.code yX5_beAs cX5_beAs 3 none, Cond.fieldLink RX5 9 "ConsonantIndex$State" "codeLength" "I", Cond.fieldLink RX5 15 "ConsonantIndex$State" "nameLimit" "I", Cond.fieldLink RX5 18 "ConsonantIndex$State" "nameCount" "I", Cond.fieldLink RX5 21 "ConsonantIndex$State" "words" "[J", Cond.methodLink RX5 35 arraycopyName, Cond.native arraycopyName, Cond.static arraycopyName, Cond.initialized "java/lang/System", Cond.methodLink RX5 41 yX2_beAs, Cond.instanceMethod yX2_beAs, Cond.selects RX2 yX2_beAs yX2_beAs, Cond.initialized RX2, Cond.code yX2_beAs cX2_beAs 2 none, Cond.fieldLink RX2 9 "ConsonantIndex$Ear" "firsts" "[I", Cond.methodLink RX2 43 arraycopyName, Cond.fieldLink RX2 15 "ConsonantIndex$Ear" "seconds" "[I", Cond.fieldLink RX2 36 "ConsonantIndex$Ear" "habitSet" "I", Cond.fieldLink RX2 40 "ConsonantIndex$Ear" "mergers" "I"]
def wsX7_hear_r3 : List Cond := [Cond.fieldLink RX2 18 "ConsonantIndex$Ear" "intos" "[I", Cond.fieldLink RX2 21 "ConsonantIndex$Ear" "froms" "[I", Cond.fieldLink RX2 24 "ConsonantIndex$Ear" "movedFirsts" "[I", Cond.fieldLink RX2 27 "ConsonantIndex$Ear" "movedSeconds" "[I", Cond.methodLink RX7 135 yX2_loseSameSecond, Cond.instanceMethod yX2_loseSameSecond, Cond.selects RX2 yX2_loseSameSecond yX2_loseSameSecond, Cond.code yX2_loseSameSecond cX2_loseSameSecond 2 none]
def wsX7_hear : List Cond := .code yX7_hear cX7_hear 6 (some .int) :: ((wsX7_hear_r1 ++ (wsX7_hear_r2 ++ wsX7_hear_r3)) ++ wsX70 ++ wsX20 ++ wsX50)
def wsX7_second_r1 : List Cond := [Cond.fieldLink RX7 10 "ConsonantIndex" "now" "LConsonantIndex$State;", Cond.fieldLink RX7 131 "ConsonantIndex$Ear" "firsts" "[I", Cond.fieldLink RX7 138 "ConsonantIndex$Ear" "seconds" "[I", Cond.methodLink RX7 105 yX5_earAt, Cond.instanceMethod yX5_earAt, Cond.selects RX5 yX5_earAt yX5_earAt, Cond.initialized RX5, Cond.code yX5_earAt cX5_earAt 2 (some (.object "ConsonantIndex$Ear")), Cond.fieldLink RX5 25 "ConsonantIndex$State" "earCount" "I", Cond.fieldLink RX5 30 "ConsonantIndex$State" "ears" "[LConsonantIndex$Ear;", Cond.methodLink RX7 123 yX6_isLetter, Cond.static yX6_isLetter, Cond.initialized RX6, Cond.code yX6_isLetter cX6_isLetter 1 (some .boolean), Cond.methodLink RX7 128 yX7_isClass, Cond.static yX7_isClass, Cond.initialized RX7, Cond.code yX7_isClass cX7_isClass 1 (some .boolean), Cond.methodLink RX7 62 yX7_isWithin, Cond.static yX7_isWithin, Cond.code yX7_isWithin cX7_isWithin 3 (some .boolean), Cond.methodLink RX7 69 yX7_recordChange, Cond.instanceMethod yX7_recordChange, Cond.selects RX7 yX7_recordChange yX7_recordChange]
def wsX7_second_r2 : List Cond := [Cond.code yX7_recordChange cX7_recordChange 3 none, Cond.fieldLink RX7 20 "ConsonantIndex" "changes" "I", Cond.fieldLink RX7 16 "ConsonantIndex" "past" "[LConsonantIndex$State;", Cond.methodLink RX7 248 yX5_beAs, Cond.instanceMethod yX5_beAs, Cond.selects RX5 yX5_beAs yX5_beAs, Cond.code yX5_beAs cX5_beAs 3 none, Cond.fieldLink RX5 9 "ConsonantIndex$State" "codeLength" "I", Cond.fieldLink RX5 15 "ConsonantIndex$State" "nameLimit" "I", Cond.fieldLink RX5 18 "ConsonantIndex$State" "nameCount" "I", Cond.fieldLink RX5 21 "ConsonantIndex$State" "words" "[J", Cond.methodLink RX5 35 arraycopyName, Cond.native arraycopyName, Cond.static arraycopyName, Cond.initialized "java/lang/System", Cond.methodLink RX5 41 yX2_beAs, Cond.instanceMethod yX2_beAs, Cond.selects RX2 yX2_beAs yX2_beAs, Cond.initialized RX2, Cond.code yX2_beAs cX2_beAs 2 none, Cond.fieldLink RX2 9 "ConsonantIndex$Ear" "firsts" "[I", Cond.methodLink RX2 43 arraycopyName, Cond.fieldLink RX2 15 "ConsonantIndex$Ear" "seconds" "[I", Cond.fieldLink RX2 36 "ConsonantIndex$Ear" "habitSet" "I"]
def wsX7_second_r3 : List Cond := [Cond.fieldLink RX2 40 "ConsonantIndex$Ear" "mergers" "I", Cond.fieldLink RX2 18 "ConsonantIndex$Ear" "intos" "[I", Cond.fieldLink RX2 21 "ConsonantIndex$Ear" "froms" "[I", Cond.fieldLink RX2 24 "ConsonantIndex$Ear" "movedFirsts" "[I", Cond.fieldLink RX2 27 "ConsonantIndex$Ear" "movedSeconds" "[I"]
def wsX7_second : List Cond := .code yX7_second cX7_second 6 (some .int) :: ((wsX7_second_r1 ++ (wsX7_second_r2 ++ wsX7_second_r3)) ++ wsX70 ++ wsX20 ++ wsX50)
def wsX7_habits_r1 : List Cond := [Cond.fieldLink RX7 10 "ConsonantIndex" "now" "LConsonantIndex$State;", Cond.fieldLink RX7 141 "ConsonantIndex$Ear" "habitSet" "I", Cond.methodLink RX7 105 yX5_earAt, Cond.instanceMethod yX5_earAt, Cond.selects RX5 yX5_earAt yX5_earAt, Cond.initialized RX5, Cond.code yX5_earAt cX5_earAt 2 (some (.object "ConsonantIndex$Ear")), Cond.fieldLink RX5 25 "ConsonantIndex$State" "earCount" "I", Cond.fieldLink RX5 30 "ConsonantIndex$State" "ears" "[LConsonantIndex$Ear;", Cond.methodLink RX7 62 yX7_isWithin, Cond.static yX7_isWithin, Cond.initialized RX7, Cond.code yX7_isWithin cX7_isWithin 3 (some .boolean), Cond.methodLink RX7 69 yX7_recordChange, Cond.instanceMethod yX7_recordChange, Cond.selects RX7 yX7_recordChange yX7_recordChange, Cond.code yX7_recordChange cX7_recordChange 3 none, Cond.fieldLink RX7 20 "ConsonantIndex" "changes" "I", Cond.fieldLink RX7 16 "ConsonantIndex" "past" "[LConsonantIndex$State;", Cond.methodLink RX7 248 yX5_beAs, Cond.instanceMethod yX5_beAs, Cond.selects RX5 yX5_beAs yX5_beAs, Cond.code yX5_beAs cX5_beAs 3 none, Cond.fieldLink RX5 9 "ConsonantIndex$State" "codeLength" "I"]
def wsX7_habits_r2 : List Cond := [Cond.fieldLink RX5 15 "ConsonantIndex$State" "nameLimit" "I", Cond.fieldLink RX5 18 "ConsonantIndex$State" "nameCount" "I", Cond.fieldLink RX5 21 "ConsonantIndex$State" "words" "[J", Cond.methodLink RX5 35 arraycopyName, Cond.native arraycopyName, Cond.static arraycopyName, Cond.initialized "java/lang/System", Cond.methodLink RX5 41 yX2_beAs, Cond.instanceMethod yX2_beAs, Cond.selects RX2 yX2_beAs yX2_beAs, Cond.initialized RX2, Cond.code yX2_beAs cX2_beAs 2 none, Cond.fieldLink RX2 9 "ConsonantIndex$Ear" "firsts" "[I", Cond.methodLink RX2 43 arraycopyName, Cond.fieldLink RX2 15 "ConsonantIndex$Ear" "seconds" "[I", Cond.fieldLink RX2 36 "ConsonantIndex$Ear" "habitSet" "I", Cond.fieldLink RX2 40 "ConsonantIndex$Ear" "mergers" "I", Cond.fieldLink RX2 18 "ConsonantIndex$Ear" "intos" "[I", Cond.fieldLink RX2 21 "ConsonantIndex$Ear" "froms" "[I", Cond.fieldLink RX2 24 "ConsonantIndex$Ear" "movedFirsts" "[I", Cond.fieldLink RX2 27 "ConsonantIndex$Ear" "movedSeconds" "[I"]
def wsX7_habits : List Cond := .code yX7_habits cX7_habits 5 (some .int) :: ((wsX7_habits_r1 ++ wsX7_habits_r2) ++ wsX70 ++ wsX20 ++ wsX50)
def wsX7_canMerge : List Cond := .code yX7_canMerge cX7_canMerge 2 (some .boolean) :: ([.methodLink RX7 128 yX7_isClass, .static yX7_isClass, .initialized RX7, .code yX7_isClass cX7_isClass 1 (some .boolean), .methodLink RX7 62 yX7_isWithin, .static yX7_isWithin, .code yX7_isWithin cX7_isWithin 3 (some .boolean)])
def wsX7_merge_r1 : List Cond := [Cond.fieldLink RX7 10 "ConsonantIndex" "now" "LConsonantIndex$State;", Cond.methodLink RX7 105 yX5_earAt, Cond.instanceMethod yX5_earAt, Cond.selects RX5 yX5_earAt yX5_earAt, Cond.initialized RX5, Cond.code yX5_earAt cX5_earAt 2 (some (.object "ConsonantIndex$Ear")), Cond.fieldLink RX5 25 "ConsonantIndex$State" "earCount" "I", Cond.fieldLink RX5 30 "ConsonantIndex$State" "ears" "[LConsonantIndex$Ear;", Cond.methodLink RX7 144 yX7_canMerge, Cond.static yX7_canMerge, Cond.initialized RX7, Cond.code yX7_canMerge cX7_canMerge 2 (some .boolean), Cond.methodLink RX7 128 yX7_isClass, Cond.static yX7_isClass, Cond.code yX7_isClass cX7_isClass 1 (some .boolean), Cond.methodLink RX7 62 yX7_isWithin, Cond.static yX7_isWithin, Cond.code yX7_isWithin cX7_isWithin 3 (some .boolean), Cond.methodLink RX7 69 yX7_recordChange, Cond.instanceMethod yX7_recordChange, Cond.selects RX7 yX7_recordChange yX7_recordChange, Cond.code yX7_recordChange cX7_recordChange 3 none, Cond.fieldLink RX7 20 "ConsonantIndex" "changes" "I", Cond.fieldLink RX7 16 "ConsonantIndex" "past" "[LConsonantIndex$State;"]
def wsX7_merge_r2 : List Cond := [Cond.methodLink RX7 248 yX5_beAs, Cond.instanceMethod yX5_beAs, Cond.selects RX5 yX5_beAs yX5_beAs, Cond.code yX5_beAs cX5_beAs 3 none, Cond.fieldLink RX5 9 "ConsonantIndex$State" "codeLength" "I", Cond.fieldLink RX5 15 "ConsonantIndex$State" "nameLimit" "I", Cond.fieldLink RX5 18 "ConsonantIndex$State" "nameCount" "I", Cond.fieldLink RX5 21 "ConsonantIndex$State" "words" "[J", Cond.methodLink RX5 35 arraycopyName, Cond.native arraycopyName, Cond.static arraycopyName, Cond.initialized "java/lang/System", Cond.methodLink RX5 41 yX2_beAs, Cond.instanceMethod yX2_beAs, Cond.selects RX2 yX2_beAs yX2_beAs, Cond.initialized RX2, Cond.code yX2_beAs cX2_beAs 2 none, Cond.fieldLink RX2 9 "ConsonantIndex$Ear" "firsts" "[I", Cond.methodLink RX2 43 arraycopyName, Cond.fieldLink RX2 15 "ConsonantIndex$Ear" "seconds" "[I", Cond.fieldLink RX2 36 "ConsonantIndex$Ear" "habitSet" "I", Cond.fieldLink RX2 40 "ConsonantIndex$Ear" "mergers" "I", Cond.fieldLink RX2 18 "ConsonantIndex$Ear" "intos" "[I", Cond.fieldLink RX2 21 "ConsonantIndex$Ear" "froms" "[I"]
def wsX7_merge_r3 : List Cond := [Cond.fieldLink RX2 24 "ConsonantIndex$Ear" "movedFirsts" "[I", Cond.fieldLink RX2 27 "ConsonantIndex$Ear" "movedSeconds" "[I", Cond.methodLink RX7 148 yX2_mergeClasses, Cond.instanceMethod yX2_mergeClasses, Cond.selects RX2 yX2_mergeClasses yX2_mergeClasses, Cond.code yX2_mergeClasses cX2_mergeClasses 7 none, Cond.methodLink RX2 49 yX2_loseSameSecond, Cond.instanceMethod yX2_loseSameSecond, Cond.selects RX2 yX2_loseSameSecond yX2_loseSameSecond, Cond.code yX2_loseSameSecond cX2_loseSameSecond 2 none, Cond.methodLink RX2 53 yX2_remember, Cond.instanceMethod yX2_remember, Cond.selects RX2 yX2_remember yX2_remember, Cond.code yX2_remember cX2_remember 5 none, Cond.methodLink RX2 57 yX2_forgetOldest, Cond.instanceMethod yX2_forgetOldest, Cond.selects RX2 yX2_forgetOldest yX2_forgetOldest, Cond.code yX2_forgetOldest cX2_forgetOldest 1 none, Cond.methodLink RX7 152 yX2_lettersOf, Cond.instanceMethod yX2_lettersOf, Cond.selects RX2 yX2_lettersOf yX2_lettersOf, Cond.code yX2_lettersOf cX2_lettersOf 4 (some .int), Cond.methodLink RX7 156 yJ6_bitCount_0f7a4, Cond.static yJ6_bitCount_0f7a4]
def wsX7_merge_r4 : List Cond := [Cond.initialized RJ6, Cond.code yJ6_bitCount_0f7a4 cJ6_bitCount_0f7a4 1 (some .int), Cond.constant RJ6 265 (1431655765), Cond.constant RJ6 266 (858993459), Cond.constant RJ6 267 (252645135)]
def wsX7_merge : List Cond := .code yX7_merge cX7_merge 5 (some .int) :: ((wsX7_merge_r1 ++ (wsX7_merge_r2 ++ (wsX7_merge_r3 ++ wsX7_merge_r4))) ++ wsX70 ++ wsX50 ++ wsX20)
def wsX7_split_r1 : List Cond := [Cond.fieldLink RX7 10 "ConsonantIndex" "now" "LConsonantIndex$State;", Cond.fieldLink RX7 161 "ConsonantIndex$Ear" "mergers" "I", Cond.methodLink RX7 105 yX5_earAt, Cond.instanceMethod yX5_earAt, Cond.selects RX5 yX5_earAt yX5_earAt, Cond.initialized RX5, Cond.code yX5_earAt cX5_earAt 2 (some (.object "ConsonantIndex$Ear")), Cond.fieldLink RX5 25 "ConsonantIndex$State" "earCount" "I", Cond.fieldLink RX5 30 "ConsonantIndex$State" "ears" "[LConsonantIndex$Ear;", Cond.methodLink RX7 69 yX7_recordChange, Cond.instanceMethod yX7_recordChange, Cond.selects RX7 yX7_recordChange yX7_recordChange, Cond.initialized RX7, Cond.code yX7_recordChange cX7_recordChange 3 none, Cond.fieldLink RX7 20 "ConsonantIndex" "changes" "I", Cond.fieldLink RX7 16 "ConsonantIndex" "past" "[LConsonantIndex$State;", Cond.methodLink RX7 248 yX5_beAs, Cond.instanceMethod yX5_beAs, Cond.selects RX5 yX5_beAs yX5_beAs, Cond.code yX5_beAs cX5_beAs 3 none, Cond.fieldLink RX5 9 "ConsonantIndex$State" "codeLength" "I", Cond.fieldLink RX5 15 "ConsonantIndex$State" "nameLimit" "I", Cond.fieldLink RX5 18 "ConsonantIndex$State" "nameCount" "I", Cond.fieldLink RX5 21 "ConsonantIndex$State" "words" "[J"]
def wsX7_split_r2 : List Cond := [Cond.methodLink RX5 35 arraycopyName, Cond.native arraycopyName, Cond.static arraycopyName, Cond.initialized "java/lang/System", Cond.methodLink RX5 41 yX2_beAs, Cond.instanceMethod yX2_beAs, Cond.selects RX2 yX2_beAs yX2_beAs, Cond.initialized RX2, Cond.code yX2_beAs cX2_beAs 2 none, Cond.fieldLink RX2 9 "ConsonantIndex$Ear" "firsts" "[I", Cond.methodLink RX2 43 arraycopyName, Cond.fieldLink RX2 15 "ConsonantIndex$Ear" "seconds" "[I", Cond.fieldLink RX2 36 "ConsonantIndex$Ear" "habitSet" "I", Cond.fieldLink RX2 40 "ConsonantIndex$Ear" "mergers" "I", Cond.fieldLink RX2 18 "ConsonantIndex$Ear" "intos" "[I", Cond.fieldLink RX2 21 "ConsonantIndex$Ear" "froms" "[I", Cond.fieldLink RX2 24 "ConsonantIndex$Ear" "movedFirsts" "[I", Cond.fieldLink RX2 27 "ConsonantIndex$Ear" "movedSeconds" "[I", Cond.methodLink RX7 164 yX2_splitLatest, Cond.instanceMethod yX2_splitLatest, Cond.selects RX2 yX2_splitLatest yX2_splitLatest, Cond.code yX2_splitLatest cX2_splitLatest 5 (some .int), Cond.methodLink RX2 49 yX2_loseSameSecond, Cond.instanceMethod yX2_loseSameSecond]
def wsX7_split_r3 : List Cond := [Cond.selects RX2 yX2_loseSameSecond yX2_loseSameSecond, Cond.code yX2_loseSameSecond cX2_loseSameSecond 2 none]
def wsX7_split : List Cond := .code yX7_split cX7_split 3 (some .int) :: ((wsX7_split_r1 ++ (wsX7_split_r2 ++ wsX7_split_r3)) ++ wsX70 ++ wsX20 ++ wsX50)
def wsX7_name_r1 : List Cond := [Cond.fieldLink RX7 10 "ConsonantIndex" "now" "LConsonantIndex$State;", Cond.fieldLink RX7 90 "ConsonantIndex$State" "words" "[J", Cond.methodLink RX7 97 yX5_hasName, Cond.instanceMethod yX5_hasName, Cond.selects RX5 yX5_hasName yX5_hasName, Cond.initialized RX5, Cond.code yX5_hasName cX5_hasName 2 (some .boolean), Cond.fieldLink RX5 18 "ConsonantIndex$State" "nameCount" "I", Cond.methodLink RX7 167 yX6_size, Cond.static yX6_size, Cond.initialized RX6, Cond.code yX6_size cX6_size 3 (some .int), Cond.methodLink RX6 13 yX6_letterAt, Cond.static yX6_letterAt, Cond.code yX6_letterAt cX6_letterAt 3 (some .int), Cond.constantLong RX6 11 (31), Cond.methodLink RX7 62 yX7_isWithin, Cond.static yX7_isWithin, Cond.initialized RX7, Cond.code yX7_isWithin cX7_isWithin 3 (some .boolean), Cond.methodLink RX7 170 yX6_letterAt, Cond.methodLink RX7 174 yX6_letterSet, Cond.static yX6_letterSet, Cond.code yX6_letterSet cX6_letterSet 5 (some .int)]
def wsX7_name_r2 : List Cond := [Cond.methodLink RX6 17 yX6_size]
def wsX7_name : List Cond := .code yX7_name cX7_name 6 (some .int) :: ((wsX7_name_r1 ++ wsX7_name_r2) ++ wsX70 ++ wsX50)
def wsX7_of : List Cond := .code yX7_of cX7_of 5 (some .int) :: ([.fieldLink RX7 10 "ConsonantIndex" "now" "LConsonantIndex$State;", .fieldLink RX7 131 "ConsonantIndex$Ear" "firsts" "[I", .fieldLink RX7 138 "ConsonantIndex$Ear" "seconds" "[I", .methodLink RX7 105 yX5_earAt, .instanceMethod yX5_earAt, .selects RX5 yX5_earAt yX5_earAt, .initialized RX5, .code yX5_earAt cX5_earAt 2 (some (.object "ConsonantIndex$Ear")), .fieldLink RX5 25 "ConsonantIndex$State" "earCount" "I", .fieldLink RX5 30 "ConsonantIndex$State" "ears" "[LConsonantIndex$Ear;", .methodLink RX7 123 yX6_isLetter, .static yX6_isLetter, .initialized RX6, .code yX6_isLetter cX6_isLetter 1 (some .boolean), .methodLink RX7 152 yX2_lettersOf, .instanceMethod yX2_lettersOf, .selects RX2 yX2_lettersOf yX2_lettersOf, .initialized RX2, .code yX2_lettersOf cX2_lettersOf 4 (some .int), .fieldLink RX2 9 "ConsonantIndex$Ear" "firsts" "[I"] ++ wsX70 ++ wsX20 ++ wsX50)
def wsX7_ofEar_r1 : List Cond := [Cond.fieldLink RX7 10 "ConsonantIndex" "now" "LConsonantIndex$State;", Cond.fieldLink RX7 41 "ConsonantIndex" "drawers" "LConsonantIndex$Drawers;", Cond.fieldLink RX7 141 "ConsonantIndex$Ear" "habitSet" "I", Cond.fieldLink RX7 161 "ConsonantIndex$Ear" "mergers" "I", Cond.fieldLink RX7 181 "ConsonantIndex$Drawers" "drawerCount" "I", Cond.methodLink RX7 105 yX5_earAt, Cond.instanceMethod yX5_earAt, Cond.selects RX5 yX5_earAt yX5_earAt, Cond.initialized RX5, Cond.code yX5_earAt cX5_earAt 2 (some (.object "ConsonantIndex$Ear")), Cond.fieldLink RX5 25 "ConsonantIndex$State" "earCount" "I", Cond.fieldLink RX5 30 "ConsonantIndex$State" "ears" "[LConsonantIndex$Ear;", Cond.methodLink RX7 177 yX1_fill, Cond.instanceMethod yX1_fill, Cond.selects RX1 yX1_fill yX1_fill, Cond.initialized RX1, Cond.code yX1_fill cX1_fill 7 none, Cond.fieldLink RX1 27 "ConsonantIndex$State" "nameCount" "I", Cond.fieldLink RX1 33 "ConsonantIndex$Drawers" "nameCount" "I", Cond.fieldLink RX1 34 "ConsonantIndex$Drawers" "drawerCount" "I", Cond.fieldLink RX1 37 "ConsonantIndex$State" "words" "[J", Cond.fieldLink RX1 41 "ConsonantIndex$State" "codeLength" "I", Cond.fieldLink RX1 24 "ConsonantIndex$Drawers" "row" "[I", Cond.fieldLink RX1 9 "ConsonantIndex$Drawers" "codeCounts" "[I"]
def wsX7_ofEar_r2 : List Cond := [Cond.fieldLink RX1 21 "ConsonantIndex$Drawers" "names" "[I", Cond.fieldLink RX1 15 "ConsonantIndex$Drawers" "drawersOfNames" "[I", Cond.methodLink RX1 44 yX2_writeCodes, Cond.instanceMethod yX2_writeCodes, Cond.selects RX2 yX2_writeCodes yX2_writeCodes, Cond.initialized RX2, Cond.code yX2_writeCodes cX2_writeCodes 11 (some .int), Cond.methodLink RX2 60 yX2_waysToHear, Cond.instanceMethod yX2_waysToHear, Cond.selects RX2 yX2_waysToHear yX2_waysToHear, Cond.code yX2_waysToHear cX2_waysToHear 6 (some .int), Cond.fieldLink RX2 15 "ConsonantIndex$Ear" "seconds" "[I", Cond.methodLink RX2 68 yX6_letterAt, Cond.static yX6_letterAt, Cond.initialized RX6, Cond.code yX6_letterAt cX6_letterAt 3 (some .int), Cond.constantLong RX6 11 (31), Cond.methodLink RX2 74 yX6_isLetter, Cond.static yX6_isLetter, Cond.code yX6_isLetter cX6_isLetter 1 (some .boolean), Cond.methodLink RX2 78 yX2_byHabit, Cond.instanceMethod yX2_byHabit, Cond.selects RX2 yX2_byHabit yX2_byHabit, Cond.code yX2_byHabit cX2_byHabit 6 (some .int)]
def wsX7_ofEar_r3 : List Cond := [Cond.fieldLink RX2 36 "ConsonantIndex$Ear" "habitSet" "I", Cond.methodLink RX2 64 yX2_codeByWay, Cond.instanceMethod yX2_codeByWay, Cond.selects RX2 yX2_codeByWay yX2_codeByWay, Cond.code yX2_codeByWay cX2_codeByWay 13 (some .int), Cond.fieldLink RX2 9 "ConsonantIndex$Ear" "firsts" "[I", Cond.methodLink RX2 81 yX0_with, Cond.static yX0_with, Cond.initialized RX0, Cond.code yX0_with cX0_with 2 (some .int), Cond.methodLink RX1 50 yX1_drawerFor, Cond.instanceMethod yX1_drawerFor, Cond.selects RX1 yX1_drawerFor yX1_drawerFor, Cond.code yX1_drawerFor cX1_drawerFor 3 (some .int), Cond.fieldLink RX1 18 "ConsonantIndex$Drawers" "codes" "[I", Cond.methodLink RX7 184 yX1_namesInFullest, Cond.instanceMethod yX1_namesInFullest, Cond.selects RX1 yX1_namesInFullest yX1_namesInFullest, Cond.code yX1_namesInFullest cX1_namesInFullest 3 (some .int), Cond.methodLink RX1 62 Lib.Math.max.name, Cond.static Lib.Math.max.name, Cond.initialized "java/lang/Math", Cond.code Lib.Math.max.name Lib.Math.max.code 2 (some .int), Cond.methodLink RX1 57 yJ6_bitCount_0f7a4]
def wsX7_ofEar_r4 : List Cond := [Cond.static yJ6_bitCount_0f7a4, Cond.initialized RJ6, Cond.code yJ6_bitCount_0f7a4 cJ6_bitCount_0f7a4 1 (some .int), Cond.constant RJ6 265 (1431655765), Cond.constant RJ6 266 (858993459), Cond.constant RJ6 267 (252645135), Cond.methodLink RX7 187 yX1_namesInSeveral, Cond.instanceMethod yX1_namesInSeveral, Cond.selects RX1 yX1_namesInSeveral yX1_namesInSeveral, Cond.code yX1_namesInSeveral cX1_namesInSeveral 3 (some .int), Cond.methodLink RX7 190 yX1_alikePairs, Cond.instanceMethod yX1_alikePairs, Cond.selects RX1 yX1_alikePairs yX1_alikePairs, Cond.code yX1_alikePairs cX1_alikePairs 3 (some .int), Cond.methodLink RX1 74 yX1_namesLike, Cond.instanceMethod yX1_namesLike, Cond.selects RX1 yX1_namesLike yX1_namesLike, Cond.code yX1_namesLike cX1_namesLike 5 (some .int), Cond.methodLink RX1 54 yX1_codesOf, Cond.instanceMethod yX1_codesOf, Cond.selects RX1 yX1_codesOf yX1_codesOf, Cond.code yX1_codesOf cX1_codesOf 2 (some .int), Cond.methodLink RX1 68 yX1_drawerOf, Cond.instanceMethod yX1_drawerOf]
def wsX7_ofEar_r5 : List Cond := [Cond.selects RX1 yX1_drawerOf yX1_drawerOf, Cond.code yX1_drawerOf cX1_drawerOf 3 (some .int), Cond.methodLink RX1 71 yX1_namesAt, Cond.instanceMethod yX1_namesAt, Cond.selects RX1 yX1_namesAt yX1_namesAt, Cond.code yX1_namesAt cX1_namesAt 2 (some .int), Cond.methodLink RX7 193 yX2_lettersWithSecond, Cond.instanceMethod yX2_lettersWithSecond, Cond.selects RX2 yX2_lettersWithSecond yX2_lettersWithSecond, Cond.code yX2_lettersWithSecond cX2_lettersWithSecond 3 (some .int), Cond.methodLink RX7 152 yX2_lettersOf, Cond.instanceMethod yX2_lettersOf, Cond.selects RX2 yX2_lettersOf yX2_lettersOf, Cond.code yX2_lettersOf cX2_lettersOf 4 (some .int)]
def wsX7_ofEar : List Cond := .code yX7_ofEar cX7_ofEar 4 (some .int) :: ((wsX7_ofEar_r1 ++ (wsX7_ofEar_r2 ++ (wsX7_ofEar_r3 ++ (wsX7_ofEar_r4 ++ wsX7_ofEar_r5)))) ++ wsX70 ++ wsX20 ++ wsX10 ++ wsX50)
def wsX7_code_r1 : List Cond := [Cond.fieldLink RX7 10 "ConsonantIndex" "now" "LConsonantIndex$State;", Cond.fieldLink RX7 41 "ConsonantIndex" "drawers" "LConsonantIndex$Drawers;", Cond.methodLink RX7 105 yX5_earAt, Cond.instanceMethod yX5_earAt, Cond.selects RX5 yX5_earAt yX5_earAt, Cond.initialized RX5, Cond.code yX5_earAt cX5_earAt 2 (some (.object "ConsonantIndex$Ear")), Cond.fieldLink RX5 25 "ConsonantIndex$State" "earCount" "I", Cond.fieldLink RX5 30 "ConsonantIndex$State" "ears" "[LConsonantIndex$Ear;", Cond.methodLink RX7 97 yX5_hasName, Cond.instanceMethod yX5_hasName, Cond.selects RX5 yX5_hasName yX5_hasName, Cond.code yX5_hasName cX5_hasName 2 (some .boolean), Cond.fieldLink RX5 18 "ConsonantIndex$State" "nameCount" "I", Cond.methodLink RX7 177 yX1_fill, Cond.instanceMethod yX1_fill, Cond.selects RX1 yX1_fill yX1_fill, Cond.initialized RX1, Cond.code yX1_fill cX1_fill 7 none, Cond.fieldLink RX1 27 "ConsonantIndex$State" "nameCount" "I", Cond.fieldLink RX1 33 "ConsonantIndex$Drawers" "nameCount" "I", Cond.fieldLink RX1 34 "ConsonantIndex$Drawers" "drawerCount" "I", Cond.fieldLink RX1 37 "ConsonantIndex$State" "words" "[J", Cond.fieldLink RX1 41 "ConsonantIndex$State" "codeLength" "I"]
def wsX7_code_r2 : List Cond := [Cond.fieldLink RX1 24 "ConsonantIndex$Drawers" "row" "[I", Cond.fieldLink RX1 9 "ConsonantIndex$Drawers" "codeCounts" "[I", Cond.fieldLink RX1 21 "ConsonantIndex$Drawers" "names" "[I", Cond.fieldLink RX1 15 "ConsonantIndex$Drawers" "drawersOfNames" "[I", Cond.methodLink RX1 44 yX2_writeCodes, Cond.instanceMethod yX2_writeCodes, Cond.selects RX2 yX2_writeCodes yX2_writeCodes, Cond.initialized RX2, Cond.code yX2_writeCodes cX2_writeCodes 11 (some .int), Cond.methodLink RX2 60 yX2_waysToHear, Cond.instanceMethod yX2_waysToHear, Cond.selects RX2 yX2_waysToHear yX2_waysToHear, Cond.code yX2_waysToHear cX2_waysToHear 6 (some .int), Cond.fieldLink RX2 15 "ConsonantIndex$Ear" "seconds" "[I", Cond.methodLink RX2 68 yX6_letterAt, Cond.static yX6_letterAt, Cond.initialized RX6, Cond.code yX6_letterAt cX6_letterAt 3 (some .int), Cond.constantLong RX6 11 (31), Cond.methodLink RX2 74 yX6_isLetter, Cond.static yX6_isLetter, Cond.code yX6_isLetter cX6_isLetter 1 (some .boolean), Cond.methodLink RX2 78 yX2_byHabit, Cond.instanceMethod yX2_byHabit]
def wsX7_code_r3 : List Cond := [Cond.selects RX2 yX2_byHabit yX2_byHabit, Cond.code yX2_byHabit cX2_byHabit 6 (some .int), Cond.fieldLink RX2 36 "ConsonantIndex$Ear" "habitSet" "I", Cond.methodLink RX2 64 yX2_codeByWay, Cond.instanceMethod yX2_codeByWay, Cond.selects RX2 yX2_codeByWay yX2_codeByWay, Cond.code yX2_codeByWay cX2_codeByWay 13 (some .int), Cond.fieldLink RX2 9 "ConsonantIndex$Ear" "firsts" "[I", Cond.methodLink RX2 81 yX0_with, Cond.static yX0_with, Cond.initialized RX0, Cond.code yX0_with cX0_with 2 (some .int), Cond.methodLink RX1 50 yX1_drawerFor, Cond.instanceMethod yX1_drawerFor, Cond.selects RX1 yX1_drawerFor yX1_drawerFor, Cond.code yX1_drawerFor cX1_drawerFor 3 (some .int), Cond.fieldLink RX1 18 "ConsonantIndex$Drawers" "codes" "[I", Cond.methodLink RX7 196 yX1_codesOf, Cond.instanceMethod yX1_codesOf, Cond.selects RX1 yX1_codesOf yX1_codesOf, Cond.code yX1_codesOf cX1_codesOf 2 (some .int), Cond.methodLink RX7 62 yX7_isWithin, Cond.static yX7_isWithin, Cond.initialized RX7]
def wsX7_code_r4 : List Cond := [Cond.code yX7_isWithin cX7_isWithin 3 (some .boolean), Cond.methodLink RX7 199 yX1_drawerOf, Cond.instanceMethod yX1_drawerOf, Cond.selects RX1 yX1_drawerOf yX1_drawerOf, Cond.code yX1_drawerOf cX1_drawerOf 3 (some .int), Cond.methodLink RX1 54 yX1_codesOf, Cond.methodLink RX7 203 yX1_codeAt, Cond.instanceMethod yX1_codeAt, Cond.selects RX1 yX1_codeAt yX1_codeAt, Cond.code yX1_codeAt cX1_codeAt 2 (some .int), Cond.methodLink RX7 206 yX0_size, Cond.static yX0_size, Cond.code yX0_size cX0_size 2 (some .int), Cond.methodLink RX7 210 yX0_numberAt, Cond.static yX0_numberAt, Cond.code yX0_numberAt cX0_numberAt 3 (some .int), Cond.methodLink RX0 11 yX0_size]
def wsX7_code : List Cond := .code yX7_code cX7_code 9 (some .int) :: ((wsX7_code_r1 ++ (wsX7_code_r2 ++ (wsX7_code_r3 ++ wsX7_code_r4))) ++ wsX70 ++ wsX50 ++ wsX10 ++ wsX20)
def wsX7_drawer_r1 : List Cond := [Cond.fieldLink RX7 10 "ConsonantIndex" "now" "LConsonantIndex$State;", Cond.fieldLink RX7 41 "ConsonantIndex" "drawers" "LConsonantIndex$Drawers;", Cond.fieldLink RX7 181 "ConsonantIndex$Drawers" "drawerCount" "I", Cond.methodLink RX7 105 yX5_earAt, Cond.instanceMethod yX5_earAt, Cond.selects RX5 yX5_earAt yX5_earAt, Cond.initialized RX5, Cond.code yX5_earAt cX5_earAt 2 (some (.object "ConsonantIndex$Ear")), Cond.fieldLink RX5 25 "ConsonantIndex$State" "earCount" "I", Cond.fieldLink RX5 30 "ConsonantIndex$State" "ears" "[LConsonantIndex$Ear;", Cond.methodLink RX7 177 yX1_fill, Cond.instanceMethod yX1_fill, Cond.selects RX1 yX1_fill yX1_fill, Cond.initialized RX1, Cond.code yX1_fill cX1_fill 7 none, Cond.fieldLink RX1 27 "ConsonantIndex$State" "nameCount" "I", Cond.fieldLink RX1 33 "ConsonantIndex$Drawers" "nameCount" "I", Cond.fieldLink RX1 34 "ConsonantIndex$Drawers" "drawerCount" "I", Cond.fieldLink RX1 37 "ConsonantIndex$State" "words" "[J", Cond.fieldLink RX1 41 "ConsonantIndex$State" "codeLength" "I", Cond.fieldLink RX1 24 "ConsonantIndex$Drawers" "row" "[I", Cond.fieldLink RX1 9 "ConsonantIndex$Drawers" "codeCounts" "[I", Cond.fieldLink RX1 21 "ConsonantIndex$Drawers" "names" "[I", Cond.fieldLink RX1 15 "ConsonantIndex$Drawers" "drawersOfNames" "[I"]
def wsX7_drawer_r2 : List Cond := [Cond.methodLink RX1 44 yX2_writeCodes, Cond.instanceMethod yX2_writeCodes, Cond.selects RX2 yX2_writeCodes yX2_writeCodes, Cond.initialized RX2, Cond.code yX2_writeCodes cX2_writeCodes 11 (some .int), Cond.methodLink RX2 60 yX2_waysToHear, Cond.instanceMethod yX2_waysToHear, Cond.selects RX2 yX2_waysToHear yX2_waysToHear, Cond.code yX2_waysToHear cX2_waysToHear 6 (some .int), Cond.fieldLink RX2 15 "ConsonantIndex$Ear" "seconds" "[I", Cond.methodLink RX2 68 yX6_letterAt, Cond.static yX6_letterAt, Cond.initialized RX6, Cond.code yX6_letterAt cX6_letterAt 3 (some .int), Cond.constantLong RX6 11 (31), Cond.methodLink RX2 74 yX6_isLetter, Cond.static yX6_isLetter, Cond.code yX6_isLetter cX6_isLetter 1 (some .boolean), Cond.methodLink RX2 78 yX2_byHabit, Cond.instanceMethod yX2_byHabit, Cond.selects RX2 yX2_byHabit yX2_byHabit, Cond.code yX2_byHabit cX2_byHabit 6 (some .int), Cond.fieldLink RX2 36 "ConsonantIndex$Ear" "habitSet" "I", Cond.methodLink RX2 64 yX2_codeByWay]
def wsX7_drawer_r3 : List Cond := [Cond.instanceMethod yX2_codeByWay, Cond.selects RX2 yX2_codeByWay yX2_codeByWay, Cond.code yX2_codeByWay cX2_codeByWay 13 (some .int), Cond.fieldLink RX2 9 "ConsonantIndex$Ear" "firsts" "[I", Cond.methodLink RX2 81 yX0_with, Cond.static yX0_with, Cond.initialized RX0, Cond.code yX0_with cX0_with 2 (some .int), Cond.methodLink RX1 50 yX1_drawerFor, Cond.instanceMethod yX1_drawerFor, Cond.selects RX1 yX1_drawerFor yX1_drawerFor, Cond.code yX1_drawerFor cX1_drawerFor 3 (some .int), Cond.fieldLink RX1 18 "ConsonantIndex$Drawers" "codes" "[I", Cond.methodLink RX7 62 yX7_isWithin, Cond.static yX7_isWithin, Cond.initialized RX7, Cond.code yX7_isWithin cX7_isWithin 3 (some .boolean), Cond.methodLink RX7 213 yX1_namesAt, Cond.instanceMethod yX1_namesAt, Cond.selects RX1 yX1_namesAt yX1_namesAt, Cond.code yX1_namesAt cX1_namesAt 2 (some .int), Cond.methodLink RX7 216 yX1_byCode, Cond.instanceMethod yX1_byCode, Cond.selects RX1 yX1_byCode yX1_byCode]
def wsX7_drawer_r4 : List Cond := [Cond.code yX1_byCode cX1_byCode 5 (some .int)]
def wsX7_drawer : List Cond := .code yX7_drawer cX7_drawer 5 (some .int) :: ((wsX7_drawer_r1 ++ (wsX7_drawer_r2 ++ (wsX7_drawer_r3 ++ wsX7_drawer_r4))) ++ wsX70 ++ wsX10 ++ wsX50 ++ wsX20)
def wsX7_count_r1 : List Cond := [Cond.fieldLink RX7 10 "ConsonantIndex" "now" "LConsonantIndex$State;", Cond.fieldLink RX7 87 "ConsonantIndex$State" "nameCount" "I", Cond.fieldLink RX7 109 "ConsonantIndex$State" "earCount" "I", Cond.fieldLink RX7 66 "ConsonantIndex$State" "codeLength" "I", Cond.fieldLink RX7 72 "ConsonantIndex$State" "nameLimit" "I", Cond.fieldLink RX7 34 "ConsonantIndex" "pad" "LConsonantIndex$Pad;", Cond.fieldLink RX7 94 "ConsonantIndex$Pad" "size" "I", Cond.fieldLink RX7 20 "ConsonantIndex" "changes" "I", Cond.methodLink RX7 219 yX5_lettersInNames, Cond.instanceMethod yX5_lettersInNames, Cond.selects RX5 yX5_lettersInNames yX5_lettersInNames, Cond.initialized RX5, Cond.code yX5_lettersInNames cX5_lettersInNames 3 (some .int), Cond.fieldLink RX5 18 "ConsonantIndex$State" "nameCount" "I", Cond.fieldLink RX5 21 "ConsonantIndex$State" "words" "[J", Cond.methodLink RX5 45 yX6_letterSet, Cond.static yX6_letterSet, Cond.initialized RX6, Cond.code yX6_letterSet cX6_letterSet 5 (some .int), Cond.methodLink RX6 17 yX6_size, Cond.static yX6_size, Cond.code yX6_size cX6_size 3 (some .int), Cond.methodLink RX6 13 yX6_letterAt, Cond.static yX6_letterAt]
def wsX7_count_r2 : List Cond := [Cond.code yX6_letterAt cX6_letterAt 3 (some .int), Cond.constantLong RX6 11 (31)]
def wsX7_count : List Cond := .code yX7_count cX7_count 2 (some .int) :: ((wsX7_count_r1 ++ wsX7_count_r2) ++ wsX70 ++ wsX50 ++ wsX40)
def wsX7_alike_r1 : List Cond := [Cond.fieldLink RX7 10 "ConsonantIndex" "now" "LConsonantIndex$State;", Cond.fieldLink RX7 41 "ConsonantIndex" "drawers" "LConsonantIndex$Drawers;", Cond.methodLink RX7 105 yX5_earAt, Cond.instanceMethod yX5_earAt, Cond.selects RX5 yX5_earAt yX5_earAt, Cond.initialized RX5, Cond.code yX5_earAt cX5_earAt 2 (some (.object "ConsonantIndex$Ear")), Cond.fieldLink RX5 25 "ConsonantIndex$State" "earCount" "I", Cond.fieldLink RX5 30 "ConsonantIndex$State" "ears" "[LConsonantIndex$Ear;", Cond.methodLink RX7 97 yX5_hasName, Cond.instanceMethod yX5_hasName, Cond.selects RX5 yX5_hasName yX5_hasName, Cond.code yX5_hasName cX5_hasName 2 (some .boolean), Cond.fieldLink RX5 18 "ConsonantIndex$State" "nameCount" "I", Cond.methodLink RX7 177 yX1_fill, Cond.instanceMethod yX1_fill, Cond.selects RX1 yX1_fill yX1_fill, Cond.initialized RX1, Cond.code yX1_fill cX1_fill 7 none, Cond.fieldLink RX1 27 "ConsonantIndex$State" "nameCount" "I", Cond.fieldLink RX1 33 "ConsonantIndex$Drawers" "nameCount" "I", Cond.fieldLink RX1 34 "ConsonantIndex$Drawers" "drawerCount" "I", Cond.fieldLink RX1 37 "ConsonantIndex$State" "words" "[J", Cond.fieldLink RX1 41 "ConsonantIndex$State" "codeLength" "I"]
def wsX7_alike_r2 : List Cond := [Cond.fieldLink RX1 24 "ConsonantIndex$Drawers" "row" "[I", Cond.fieldLink RX1 9 "ConsonantIndex$Drawers" "codeCounts" "[I", Cond.fieldLink RX1 21 "ConsonantIndex$Drawers" "names" "[I", Cond.fieldLink RX1 15 "ConsonantIndex$Drawers" "drawersOfNames" "[I", Cond.methodLink RX1 44 yX2_writeCodes, Cond.instanceMethod yX2_writeCodes, Cond.selects RX2 yX2_writeCodes yX2_writeCodes, Cond.initialized RX2, Cond.code yX2_writeCodes cX2_writeCodes 11 (some .int), Cond.methodLink RX2 60 yX2_waysToHear, Cond.instanceMethod yX2_waysToHear, Cond.selects RX2 yX2_waysToHear yX2_waysToHear, Cond.code yX2_waysToHear cX2_waysToHear 6 (some .int), Cond.fieldLink RX2 15 "ConsonantIndex$Ear" "seconds" "[I", Cond.methodLink RX2 68 yX6_letterAt, Cond.static yX6_letterAt, Cond.initialized RX6, Cond.code yX6_letterAt cX6_letterAt 3 (some .int), Cond.constantLong RX6 11 (31), Cond.methodLink RX2 74 yX6_isLetter, Cond.static yX6_isLetter, Cond.code yX6_isLetter cX6_isLetter 1 (some .boolean), Cond.methodLink RX2 78 yX2_byHabit, Cond.instanceMethod yX2_byHabit]
def wsX7_alike_r3 : List Cond := [Cond.selects RX2 yX2_byHabit yX2_byHabit, Cond.code yX2_byHabit cX2_byHabit 6 (some .int), Cond.fieldLink RX2 36 "ConsonantIndex$Ear" "habitSet" "I", Cond.methodLink RX2 64 yX2_codeByWay, Cond.instanceMethod yX2_codeByWay, Cond.selects RX2 yX2_codeByWay yX2_codeByWay, Cond.code yX2_codeByWay cX2_codeByWay 13 (some .int), Cond.fieldLink RX2 9 "ConsonantIndex$Ear" "firsts" "[I", Cond.methodLink RX2 81 yX0_with, Cond.static yX0_with, Cond.initialized RX0, Cond.code yX0_with cX0_with 2 (some .int), Cond.methodLink RX1 50 yX1_drawerFor, Cond.instanceMethod yX1_drawerFor, Cond.selects RX1 yX1_drawerFor yX1_drawerFor, Cond.code yX1_drawerFor cX1_drawerFor 3 (some .int), Cond.fieldLink RX1 18 "ConsonantIndex$Drawers" "codes" "[I", Cond.methodLink RX7 222 yX1_namesLike, Cond.instanceMethod yX1_namesLike, Cond.selects RX1 yX1_namesLike yX1_namesLike, Cond.code yX1_namesLike cX1_namesLike 5 (some .int), Cond.methodLink RX1 54 yX1_codesOf, Cond.instanceMethod yX1_codesOf, Cond.selects RX1 yX1_codesOf yX1_codesOf]
def wsX7_alike_r4 : List Cond := [Cond.code yX1_codesOf cX1_codesOf 2 (some .int), Cond.methodLink RX1 68 yX1_drawerOf, Cond.instanceMethod yX1_drawerOf, Cond.selects RX1 yX1_drawerOf yX1_drawerOf, Cond.code yX1_drawerOf cX1_drawerOf 3 (some .int), Cond.methodLink RX1 71 yX1_namesAt, Cond.instanceMethod yX1_namesAt, Cond.selects RX1 yX1_namesAt yX1_namesAt, Cond.code yX1_namesAt cX1_namesAt 2 (some .int)]
def wsX7_alike : List Cond := .code yX7_alike cX7_alike 5 (some .int) :: ((wsX7_alike_r1 ++ (wsX7_alike_r2 ++ (wsX7_alike_r3 ++ wsX7_alike_r4))) ++ wsX70 ++ wsX50 ++ wsX10 ++ wsX20)
def wsX7_distance_r1 : List Cond := [Cond.fieldLink RX7 10 "ConsonantIndex" "now" "LConsonantIndex$State;", Cond.fieldLink RX7 58 "ConsonantIndex" "meter" "LConsonantIndex$Meter;", Cond.fieldLink RX7 90 "ConsonantIndex$State" "words" "[J", Cond.methodLink RX7 97 yX5_hasName, Cond.instanceMethod yX5_hasName, Cond.selects RX5 yX5_hasName yX5_hasName, Cond.initialized RX5, Cond.code yX5_hasName cX5_hasName 2 (some .boolean), Cond.fieldLink RX5 18 "ConsonantIndex$State" "nameCount" "I", Cond.methodLink RX7 225 yX3_between, Cond.instanceMethod yX3_between, Cond.selects RX3 yX3_between yX3_between, Cond.initialized RX3, Cond.code yX3_between cX3_between 12 (some .int), Cond.fieldLink RX3 9 "ConsonantIndex$Meter" "row" "[I", Cond.methodLink RX3 28 Lib.Math.min.name, Cond.static Lib.Math.min.name, Cond.initialized "java/lang/Math", Cond.code Lib.Math.min.name Lib.Math.min.code 2 (some .int), Cond.methodLink RX3 18 yX6_size, Cond.static yX6_size, Cond.initialized RX6, Cond.code yX6_size cX6_size 3 (some .int), Cond.methodLink RX6 13 yX6_letterAt]
def wsX7_distance_r2 : List Cond := [Cond.static yX6_letterAt, Cond.code yX6_letterAt cX6_letterAt 3 (some .int), Cond.constantLong RX6 11 (31), Cond.methodLink RX3 24 yX6_letterAt]
def wsX7_distance : List Cond := .code yX7_distance cX7_distance 3 (some .int) :: ((wsX7_distance_r1 ++ wsX7_distance_r2) ++ wsX70 ++ wsX50 ++ wsX30)
def wsX7_find_r1 : List Cond := [Cond.fieldLink RX7 34 "ConsonantIndex" "pad" "LConsonantIndex$Pad;", Cond.fieldLink RX7 10 "ConsonantIndex" "now" "LConsonantIndex$State;", Cond.fieldLink RX7 41 "ConsonantIndex" "drawers" "LConsonantIndex$Drawers;", Cond.fieldLink RX7 58 "ConsonantIndex" "meter" "LConsonantIndex$Meter;", Cond.fieldLink RX7 90 "ConsonantIndex$State" "words" "[J", Cond.methodLink RX7 75 yX4_firstFault, Cond.instanceMethod yX4_firstFault, Cond.selects RX4 yX4_firstFault yX4_firstFault, Cond.initialized RX4, Cond.code yX4_firstFault cX4_firstFault 2 (some .int), Cond.fieldLink RX4 15 "ConsonantIndex$Pad" "size" "I", Cond.fieldLink RX4 9 "ConsonantIndex$Pad" "characters" "[C", Cond.methodLink RX7 105 yX5_earAt, Cond.instanceMethod yX5_earAt, Cond.selects RX5 yX5_earAt yX5_earAt, Cond.initialized RX5, Cond.code yX5_earAt cX5_earAt 2 (some (.object "ConsonantIndex$Ear")), Cond.fieldLink RX5 25 "ConsonantIndex$State" "earCount" "I", Cond.fieldLink RX5 30 "ConsonantIndex$State" "ears" "[LConsonantIndex$Ear;", Cond.methodLink RX7 79 yX4_asWord, Cond.instanceMethod yX4_asWord, Cond.selects RX4 yX4_asWord yX4_asWord, Cond.code yX4_asWord cX4_asWord 4 (some .long), Cond.methodLink RX4 25 yX6_with]
def wsX7_find_r2 : List Cond := [Cond.static yX6_with, Cond.initialized RX6, Cond.code yX6_with cX6_with 4 (some .long), Cond.methodLink RX7 177 yX1_fill, Cond.instanceMethod yX1_fill, Cond.selects RX1 yX1_fill yX1_fill, Cond.initialized RX1, Cond.code yX1_fill cX1_fill 7 none, Cond.fieldLink RX1 27 "ConsonantIndex$State" "nameCount" "I", Cond.fieldLink RX1 33 "ConsonantIndex$Drawers" "nameCount" "I", Cond.fieldLink RX1 34 "ConsonantIndex$Drawers" "drawerCount" "I", Cond.fieldLink RX1 37 "ConsonantIndex$State" "words" "[J", Cond.fieldLink RX1 41 "ConsonantIndex$State" "codeLength" "I", Cond.fieldLink RX1 24 "ConsonantIndex$Drawers" "row" "[I", Cond.fieldLink RX1 9 "ConsonantIndex$Drawers" "codeCounts" "[I", Cond.fieldLink RX1 21 "ConsonantIndex$Drawers" "names" "[I", Cond.fieldLink RX1 15 "ConsonantIndex$Drawers" "drawersOfNames" "[I", Cond.methodLink RX1 44 yX2_writeCodes, Cond.instanceMethod yX2_writeCodes, Cond.selects RX2 yX2_writeCodes yX2_writeCodes, Cond.initialized RX2, Cond.code yX2_writeCodes cX2_writeCodes 11 (some .int), Cond.methodLink RX2 60 yX2_waysToHear, Cond.instanceMethod yX2_waysToHear]
def wsX7_find_r3 : List Cond := [Cond.selects RX2 yX2_waysToHear yX2_waysToHear, Cond.code yX2_waysToHear cX2_waysToHear 6 (some .int), Cond.fieldLink RX2 15 "ConsonantIndex$Ear" "seconds" "[I", Cond.methodLink RX2 68 yX6_letterAt, Cond.static yX6_letterAt, Cond.code yX6_letterAt cX6_letterAt 3 (some .int), Cond.constantLong RX6 11 (31), Cond.methodLink RX2 74 yX6_isLetter, Cond.static yX6_isLetter, Cond.code yX6_isLetter cX6_isLetter 1 (some .boolean), Cond.methodLink RX2 78 yX2_byHabit, Cond.instanceMethod yX2_byHabit, Cond.selects RX2 yX2_byHabit yX2_byHabit, Cond.code yX2_byHabit cX2_byHabit 6 (some .int), Cond.fieldLink RX2 36 "ConsonantIndex$Ear" "habitSet" "I", Cond.methodLink RX2 64 yX2_codeByWay, Cond.instanceMethod yX2_codeByWay, Cond.selects RX2 yX2_codeByWay yX2_codeByWay, Cond.code yX2_codeByWay cX2_codeByWay 13 (some .int), Cond.fieldLink RX2 9 "ConsonantIndex$Ear" "firsts" "[I", Cond.methodLink RX2 81 yX0_with, Cond.static yX0_with, Cond.initialized RX0, Cond.code yX0_with cX0_with 2 (some .int)]
def wsX7_find_r4 : List Cond := [Cond.methodLink RX1 50 yX1_drawerFor, Cond.instanceMethod yX1_drawerFor, Cond.selects RX1 yX1_drawerFor yX1_drawerFor, Cond.code yX1_drawerFor cX1_drawerFor 3 (some .int), Cond.fieldLink RX1 18 "ConsonantIndex$Drawers" "codes" "[I", Cond.methodLink RX7 229 yX1_namesHeardLike, Cond.instanceMethod yX1_namesHeardLike, Cond.selects RX1 yX1_namesHeardLike yX1_namesHeardLike, Cond.code yX1_namesHeardLike cX1_namesHeardLike 9 (some .int), Cond.methodLink RX7 233 yX3_ranked, Cond.instanceMethod yX3_ranked, Cond.selects RX3 yX3_ranked yX3_ranked, Cond.initialized RX3, Cond.code yX3_ranked cX3_ranked 7 (some .int), Cond.fieldLink RX3 34 "ConsonantIndex$State" "nameCount" "I", Cond.fieldLink RX3 15 "ConsonantIndex$Meter" "distances" "[I", Cond.fieldLink RX3 40 "ConsonantIndex$State" "words" "[J", Cond.methodLink RX3 44 yX3_between, Cond.instanceMethod yX3_between, Cond.selects RX3 yX3_between yX3_between, Cond.code yX3_between cX3_between 12 (some .int), Cond.fieldLink RX3 9 "ConsonantIndex$Meter" "row" "[I", Cond.methodLink RX3 28 Lib.Math.min.name, Cond.static Lib.Math.min.name]
def wsX7_find_r5 : List Cond := [Cond.initialized "java/lang/Math", Cond.code Lib.Math.min.name Lib.Math.min.code 2 (some .int), Cond.methodLink RX3 18 yX6_size, Cond.static yX6_size, Cond.code yX6_size cX6_size 3 (some .int), Cond.methodLink RX6 13 yX6_letterAt, Cond.methodLink RX3 24 yX6_letterAt, Cond.methodLink RX3 48 yX3_namesAhead, Cond.instanceMethod yX3_namesAhead, Cond.selects RX3 yX3_namesAhead yX3_namesAhead, Cond.code yX3_namesAhead cX3_namesAhead 6 (some .int), Cond.methodLink RX7 97 yX5_hasName, Cond.instanceMethod yX5_hasName, Cond.selects RX5 yX5_hasName yX5_hasName, Cond.code yX5_hasName cX5_hasName 2 (some .boolean), Cond.fieldLink RX5 18 "ConsonantIndex$State" "nameCount" "I", Cond.methodLink RX7 225 yX3_between]
def wsX7_find : List Cond := .code yX7_find cX7_find 8 (some .int) :: ((wsX7_find_r1 ++ (wsX7_find_r2 ++ (wsX7_find_r3 ++ (wsX7_find_r4 ++ wsX7_find_r5)))) ++ wsX70 ++ wsX50 ++ wsX40 ++ wsX10 ++ wsX20 ++ wsX30)
def wsX7_fillAsIfMerged_r1 : List Cond := [Cond.fieldLink RX7 51 "ConsonantIndex" "supposed" "LConsonantIndex$Ear;", Cond.fieldLink RX7 41 "ConsonantIndex" "drawers" "LConsonantIndex$Drawers;", Cond.fieldLink RX7 10 "ConsonantIndex" "now" "LConsonantIndex$State;", Cond.methodLink RX7 119 yX2_beAs, Cond.instanceMethod yX2_beAs, Cond.selects RX2 yX2_beAs yX2_beAs, Cond.initialized RX2, Cond.code yX2_beAs cX2_beAs 2 none, Cond.fieldLink RX2 9 "ConsonantIndex$Ear" "firsts" "[I", Cond.methodLink RX2 43 arraycopyName, Cond.native arraycopyName, Cond.static arraycopyName, Cond.initialized "java/lang/System", Cond.fieldLink RX2 15 "ConsonantIndex$Ear" "seconds" "[I", Cond.fieldLink RX2 36 "ConsonantIndex$Ear" "habitSet" "I", Cond.fieldLink RX2 40 "ConsonantIndex$Ear" "mergers" "I", Cond.fieldLink RX2 18 "ConsonantIndex$Ear" "intos" "[I", Cond.fieldLink RX2 21 "ConsonantIndex$Ear" "froms" "[I", Cond.fieldLink RX2 24 "ConsonantIndex$Ear" "movedFirsts" "[I", Cond.fieldLink RX2 27 "ConsonantIndex$Ear" "movedSeconds" "[I", Cond.methodLink RX7 148 yX2_mergeClasses, Cond.instanceMethod yX2_mergeClasses, Cond.selects RX2 yX2_mergeClasses yX2_mergeClasses, Cond.code yX2_mergeClasses cX2_mergeClasses 7 none]
def wsX7_fillAsIfMerged_r2 : List Cond := [Cond.methodLink RX2 49 yX2_loseSameSecond, Cond.instanceMethod yX2_loseSameSecond, Cond.selects RX2 yX2_loseSameSecond yX2_loseSameSecond, Cond.code yX2_loseSameSecond cX2_loseSameSecond 2 none, Cond.methodLink RX2 53 yX2_remember, Cond.instanceMethod yX2_remember, Cond.selects RX2 yX2_remember yX2_remember, Cond.code yX2_remember cX2_remember 5 none, Cond.methodLink RX2 57 yX2_forgetOldest, Cond.instanceMethod yX2_forgetOldest, Cond.selects RX2 yX2_forgetOldest yX2_forgetOldest, Cond.code yX2_forgetOldest cX2_forgetOldest 1 none, Cond.methodLink RX7 177 yX1_fill, Cond.instanceMethod yX1_fill, Cond.selects RX1 yX1_fill yX1_fill, Cond.initialized RX1, Cond.code yX1_fill cX1_fill 7 none, Cond.fieldLink RX1 27 "ConsonantIndex$State" "nameCount" "I", Cond.fieldLink RX1 33 "ConsonantIndex$Drawers" "nameCount" "I", Cond.fieldLink RX1 34 "ConsonantIndex$Drawers" "drawerCount" "I", Cond.fieldLink RX1 37 "ConsonantIndex$State" "words" "[J", Cond.fieldLink RX1 41 "ConsonantIndex$State" "codeLength" "I", Cond.fieldLink RX1 24 "ConsonantIndex$Drawers" "row" "[I", Cond.fieldLink RX1 9 "ConsonantIndex$Drawers" "codeCounts" "[I"]
def wsX7_fillAsIfMerged_r3 : List Cond := [Cond.fieldLink RX1 21 "ConsonantIndex$Drawers" "names" "[I", Cond.fieldLink RX1 15 "ConsonantIndex$Drawers" "drawersOfNames" "[I", Cond.methodLink RX1 44 yX2_writeCodes, Cond.instanceMethod yX2_writeCodes, Cond.selects RX2 yX2_writeCodes yX2_writeCodes, Cond.code yX2_writeCodes cX2_writeCodes 11 (some .int), Cond.methodLink RX2 60 yX2_waysToHear, Cond.instanceMethod yX2_waysToHear, Cond.selects RX2 yX2_waysToHear yX2_waysToHear, Cond.code yX2_waysToHear cX2_waysToHear 6 (some .int), Cond.methodLink RX2 68 yX6_letterAt, Cond.static yX6_letterAt, Cond.initialized RX6, Cond.code yX6_letterAt cX6_letterAt 3 (some .int), Cond.constantLong RX6 11 (31), Cond.methodLink RX2 74 yX6_isLetter, Cond.static yX6_isLetter, Cond.code yX6_isLetter cX6_isLetter 1 (some .boolean), Cond.methodLink RX2 78 yX2_byHabit, Cond.instanceMethod yX2_byHabit, Cond.selects RX2 yX2_byHabit yX2_byHabit, Cond.code yX2_byHabit cX2_byHabit 6 (some .int), Cond.methodLink RX2 64 yX2_codeByWay, Cond.instanceMethod yX2_codeByWay]
def wsX7_fillAsIfMerged_r4 : List Cond := [Cond.selects RX2 yX2_codeByWay yX2_codeByWay, Cond.code yX2_codeByWay cX2_codeByWay 13 (some .int), Cond.methodLink RX2 81 yX0_with, Cond.static yX0_with, Cond.initialized RX0, Cond.code yX0_with cX0_with 2 (some .int), Cond.methodLink RX1 50 yX1_drawerFor, Cond.instanceMethod yX1_drawerFor, Cond.selects RX1 yX1_drawerFor yX1_drawerFor, Cond.code yX1_drawerFor cX1_drawerFor 3 (some .int), Cond.fieldLink RX1 18 "ConsonantIndex$Drawers" "codes" "[I"]
def wsX7_fillAsIfMerged : List Cond := .code yX7_fillAsIfMerged cX7_fillAsIfMerged 4 none :: ((wsX7_fillAsIfMerged_r1 ++ (wsX7_fillAsIfMerged_r2 ++ (wsX7_fillAsIfMerged_r3 ++ wsX7_fillAsIfMerged_r4))) ++ wsX70 ++ wsX20 ++ wsX50 ++ wsX10)
def wsX7_ifMerged_r1 : List Cond := [Cond.fieldLink RX7 10 "ConsonantIndex" "now" "LConsonantIndex$State;", Cond.fieldLink RX7 41 "ConsonantIndex" "drawers" "LConsonantIndex$Drawers;", Cond.fieldLink RX7 181 "ConsonantIndex$Drawers" "drawerCount" "I", Cond.methodLink RX7 105 yX5_earAt, Cond.instanceMethod yX5_earAt, Cond.selects RX5 yX5_earAt yX5_earAt, Cond.initialized RX5, Cond.code yX5_earAt cX5_earAt 2 (some (.object "ConsonantIndex$Ear")), Cond.fieldLink RX5 25 "ConsonantIndex$State" "earCount" "I", Cond.fieldLink RX5 30 "ConsonantIndex$State" "ears" "[LConsonantIndex$Ear;", Cond.methodLink RX7 144 yX7_canMerge, Cond.static yX7_canMerge, Cond.initialized RX7, Cond.code yX7_canMerge cX7_canMerge 2 (some .boolean), Cond.methodLink RX7 128 yX7_isClass, Cond.static yX7_isClass, Cond.code yX7_isClass cX7_isClass 1 (some .boolean), Cond.methodLink RX7 62 yX7_isWithin, Cond.static yX7_isWithin, Cond.code yX7_isWithin cX7_isWithin 3 (some .boolean), Cond.methodLink RX7 237 yX7_fillAsIfMerged, Cond.instanceMethod yX7_fillAsIfMerged, Cond.selects RX7 yX7_fillAsIfMerged yX7_fillAsIfMerged, Cond.code yX7_fillAsIfMerged cX7_fillAsIfMerged 4 none]
def wsX7_ifMerged_r2 : List Cond := [Cond.fieldLink RX7 51 "ConsonantIndex" "supposed" "LConsonantIndex$Ear;", Cond.methodLink RX7 119 yX2_beAs, Cond.instanceMethod yX2_beAs, Cond.selects RX2 yX2_beAs yX2_beAs, Cond.initialized RX2, Cond.code yX2_beAs cX2_beAs 2 none, Cond.fieldLink RX2 9 "ConsonantIndex$Ear" "firsts" "[I", Cond.methodLink RX2 43 arraycopyName, Cond.native arraycopyName, Cond.static arraycopyName, Cond.initialized "java/lang/System", Cond.fieldLink RX2 15 "ConsonantIndex$Ear" "seconds" "[I", Cond.fieldLink RX2 36 "ConsonantIndex$Ear" "habitSet" "I", Cond.fieldLink RX2 40 "ConsonantIndex$Ear" "mergers" "I", Cond.fieldLink RX2 18 "ConsonantIndex$Ear" "intos" "[I", Cond.fieldLink RX2 21 "ConsonantIndex$Ear" "froms" "[I", Cond.fieldLink RX2 24 "ConsonantIndex$Ear" "movedFirsts" "[I", Cond.fieldLink RX2 27 "ConsonantIndex$Ear" "movedSeconds" "[I", Cond.methodLink RX7 148 yX2_mergeClasses, Cond.instanceMethod yX2_mergeClasses, Cond.selects RX2 yX2_mergeClasses yX2_mergeClasses, Cond.code yX2_mergeClasses cX2_mergeClasses 7 none, Cond.methodLink RX2 49 yX2_loseSameSecond, Cond.instanceMethod yX2_loseSameSecond]
def wsX7_ifMerged_r3 : List Cond := [Cond.selects RX2 yX2_loseSameSecond yX2_loseSameSecond, Cond.code yX2_loseSameSecond cX2_loseSameSecond 2 none, Cond.methodLink RX2 53 yX2_remember, Cond.instanceMethod yX2_remember, Cond.selects RX2 yX2_remember yX2_remember, Cond.code yX2_remember cX2_remember 5 none, Cond.methodLink RX2 57 yX2_forgetOldest, Cond.instanceMethod yX2_forgetOldest, Cond.selects RX2 yX2_forgetOldest yX2_forgetOldest, Cond.code yX2_forgetOldest cX2_forgetOldest 1 none, Cond.methodLink RX7 177 yX1_fill, Cond.instanceMethod yX1_fill, Cond.selects RX1 yX1_fill yX1_fill, Cond.initialized RX1, Cond.code yX1_fill cX1_fill 7 none, Cond.fieldLink RX1 27 "ConsonantIndex$State" "nameCount" "I", Cond.fieldLink RX1 33 "ConsonantIndex$Drawers" "nameCount" "I", Cond.fieldLink RX1 34 "ConsonantIndex$Drawers" "drawerCount" "I", Cond.fieldLink RX1 37 "ConsonantIndex$State" "words" "[J", Cond.fieldLink RX1 41 "ConsonantIndex$State" "codeLength" "I", Cond.fieldLink RX1 24 "ConsonantIndex$Drawers" "row" "[I", Cond.fieldLink RX1 9 "ConsonantIndex$Drawers" "codeCounts" "[I", Cond.fieldLink RX1 21 "ConsonantIndex$Drawers" "names" "[I", Cond.fieldLink RX1 15 "ConsonantIndex$Drawers" "drawersOfNames" "[I"]
def wsX7_ifMerged_r4 : List Cond := [Cond.methodLink RX1 44 yX2_writeCodes, Cond.instanceMethod yX2_writeCodes, Cond.selects RX2 yX2_writeCodes yX2_writeCodes, Cond.code yX2_writeCodes cX2_writeCodes 11 (some .int), Cond.methodLink RX2 60 yX2_waysToHear, Cond.instanceMethod yX2_waysToHear, Cond.selects RX2 yX2_waysToHear yX2_waysToHear, Cond.code yX2_waysToHear cX2_waysToHear 6 (some .int), Cond.methodLink RX2 68 yX6_letterAt, Cond.static yX6_letterAt, Cond.initialized RX6, Cond.code yX6_letterAt cX6_letterAt 3 (some .int), Cond.constantLong RX6 11 (31), Cond.methodLink RX2 74 yX6_isLetter, Cond.static yX6_isLetter, Cond.code yX6_isLetter cX6_isLetter 1 (some .boolean), Cond.methodLink RX2 78 yX2_byHabit, Cond.instanceMethod yX2_byHabit, Cond.selects RX2 yX2_byHabit yX2_byHabit, Cond.code yX2_byHabit cX2_byHabit 6 (some .int), Cond.methodLink RX2 64 yX2_codeByWay, Cond.instanceMethod yX2_codeByWay, Cond.selects RX2 yX2_codeByWay yX2_codeByWay, Cond.code yX2_codeByWay cX2_codeByWay 13 (some .int)]
def wsX7_ifMerged_r5 : List Cond := [Cond.methodLink RX2 81 yX0_with, Cond.static yX0_with, Cond.initialized RX0, Cond.code yX0_with cX0_with 2 (some .int), Cond.methodLink RX1 50 yX1_drawerFor, Cond.instanceMethod yX1_drawerFor, Cond.selects RX1 yX1_drawerFor yX1_drawerFor, Cond.code yX1_drawerFor cX1_drawerFor 3 (some .int), Cond.fieldLink RX1 18 "ConsonantIndex$Drawers" "codes" "[I", Cond.methodLink RX7 190 yX1_alikePairs, Cond.instanceMethod yX1_alikePairs, Cond.selects RX1 yX1_alikePairs yX1_alikePairs, Cond.code yX1_alikePairs cX1_alikePairs 3 (some .int), Cond.methodLink RX1 74 yX1_namesLike, Cond.instanceMethod yX1_namesLike, Cond.selects RX1 yX1_namesLike yX1_namesLike, Cond.code yX1_namesLike cX1_namesLike 5 (some .int), Cond.methodLink RX1 54 yX1_codesOf, Cond.instanceMethod yX1_codesOf, Cond.selects RX1 yX1_codesOf yX1_codesOf, Cond.code yX1_codesOf cX1_codesOf 2 (some .int), Cond.methodLink RX1 68 yX1_drawerOf, Cond.instanceMethod yX1_drawerOf, Cond.selects RX1 yX1_drawerOf yX1_drawerOf]
def wsX7_ifMerged_r6 : List Cond := [Cond.code yX1_drawerOf cX1_drawerOf 3 (some .int), Cond.methodLink RX1 71 yX1_namesAt, Cond.instanceMethod yX1_namesAt, Cond.selects RX1 yX1_namesAt yX1_namesAt, Cond.code yX1_namesAt cX1_namesAt 2 (some .int), Cond.methodLink RX1 57 yJ6_bitCount_0f7a4, Cond.static yJ6_bitCount_0f7a4, Cond.initialized RJ6, Cond.code yJ6_bitCount_0f7a4 cJ6_bitCount_0f7a4 1 (some .int), Cond.constant RJ6 265 (1431655765), Cond.constant RJ6 266 (858993459), Cond.constant RJ6 267 (252645135)]
def wsX7_ifMerged : List Cond := .code yX7_ifMerged cX7_ifMerged 6 (some .int) :: ((wsX7_ifMerged_r1 ++ (wsX7_ifMerged_r2 ++ (wsX7_ifMerged_r3 ++ (wsX7_ifMerged_r4 ++ (wsX7_ifMerged_r5 ++ wsX7_ifMerged_r6))))) ++ wsX70 ++ wsX10 ++ wsX50 ++ wsX20)
def wsX7_bestMerger_r1 : List Cond := [Cond.fieldLink RX7 10 "ConsonantIndex" "now" "LConsonantIndex$State;", Cond.fieldLink RX7 41 "ConsonantIndex" "drawers" "LConsonantIndex$Drawers;", Cond.methodLink RX7 105 yX5_earAt, Cond.instanceMethod yX5_earAt, Cond.selects RX5 yX5_earAt yX5_earAt, Cond.initialized RX5, Cond.code yX5_earAt cX5_earAt 2 (some (.object "ConsonantIndex$Ear")), Cond.fieldLink RX5 25 "ConsonantIndex$State" "earCount" "I", Cond.fieldLink RX5 30 "ConsonantIndex$State" "ears" "[LConsonantIndex$Ear;", Cond.methodLink RX7 62 yX7_isWithin, Cond.static yX7_isWithin, Cond.initialized RX7, Cond.code yX7_isWithin cX7_isWithin 3 (some .boolean), Cond.methodLink RX7 152 yX2_lettersOf, Cond.instanceMethod yX2_lettersOf, Cond.selects RX2 yX2_lettersOf yX2_lettersOf, Cond.initialized RX2, Cond.code yX2_lettersOf cX2_lettersOf 4 (some .int), Cond.fieldLink RX2 9 "ConsonantIndex$Ear" "firsts" "[I", Cond.methodLink RX7 237 yX7_fillAsIfMerged, Cond.instanceMethod yX7_fillAsIfMerged, Cond.selects RX7 yX7_fillAsIfMerged yX7_fillAsIfMerged, Cond.code yX7_fillAsIfMerged cX7_fillAsIfMerged 4 none, Cond.fieldLink RX7 51 "ConsonantIndex" "supposed" "LConsonantIndex$Ear;"]
def wsX7_bestMerger_r2 : List Cond := [Cond.methodLink RX7 119 yX2_beAs, Cond.instanceMethod yX2_beAs, Cond.selects RX2 yX2_beAs yX2_beAs, Cond.code yX2_beAs cX2_beAs 2 none, Cond.methodLink RX2 43 arraycopyName, Cond.native arraycopyName, Cond.static arraycopyName, Cond.initialized "java/lang/System", Cond.fieldLink RX2 15 "ConsonantIndex$Ear" "seconds" "[I", Cond.fieldLink RX2 36 "ConsonantIndex$Ear" "habitSet" "I", Cond.fieldLink RX2 40 "ConsonantIndex$Ear" "mergers" "I", Cond.fieldLink RX2 18 "ConsonantIndex$Ear" "intos" "[I", Cond.fieldLink RX2 21 "ConsonantIndex$Ear" "froms" "[I", Cond.fieldLink RX2 24 "ConsonantIndex$Ear" "movedFirsts" "[I", Cond.fieldLink RX2 27 "ConsonantIndex$Ear" "movedSeconds" "[I", Cond.methodLink RX7 148 yX2_mergeClasses, Cond.instanceMethod yX2_mergeClasses, Cond.selects RX2 yX2_mergeClasses yX2_mergeClasses, Cond.code yX2_mergeClasses cX2_mergeClasses 7 none, Cond.methodLink RX2 49 yX2_loseSameSecond, Cond.instanceMethod yX2_loseSameSecond, Cond.selects RX2 yX2_loseSameSecond yX2_loseSameSecond, Cond.code yX2_loseSameSecond cX2_loseSameSecond 2 none, Cond.methodLink RX2 53 yX2_remember]
def wsX7_bestMerger_r3 : List Cond := [Cond.instanceMethod yX2_remember, Cond.selects RX2 yX2_remember yX2_remember, Cond.code yX2_remember cX2_remember 5 none, Cond.methodLink RX2 57 yX2_forgetOldest, Cond.instanceMethod yX2_forgetOldest, Cond.selects RX2 yX2_forgetOldest yX2_forgetOldest, Cond.code yX2_forgetOldest cX2_forgetOldest 1 none, Cond.methodLink RX7 177 yX1_fill, Cond.instanceMethod yX1_fill, Cond.selects RX1 yX1_fill yX1_fill, Cond.initialized RX1, Cond.code yX1_fill cX1_fill 7 none, Cond.fieldLink RX1 27 "ConsonantIndex$State" "nameCount" "I", Cond.fieldLink RX1 33 "ConsonantIndex$Drawers" "nameCount" "I", Cond.fieldLink RX1 34 "ConsonantIndex$Drawers" "drawerCount" "I", Cond.fieldLink RX1 37 "ConsonantIndex$State" "words" "[J", Cond.fieldLink RX1 41 "ConsonantIndex$State" "codeLength" "I", Cond.fieldLink RX1 24 "ConsonantIndex$Drawers" "row" "[I", Cond.fieldLink RX1 9 "ConsonantIndex$Drawers" "codeCounts" "[I", Cond.fieldLink RX1 21 "ConsonantIndex$Drawers" "names" "[I", Cond.fieldLink RX1 15 "ConsonantIndex$Drawers" "drawersOfNames" "[I", Cond.methodLink RX1 44 yX2_writeCodes, Cond.instanceMethod yX2_writeCodes, Cond.selects RX2 yX2_writeCodes yX2_writeCodes]
def wsX7_bestMerger_r4 : List Cond := [Cond.code yX2_writeCodes cX2_writeCodes 11 (some .int), Cond.methodLink RX2 60 yX2_waysToHear, Cond.instanceMethod yX2_waysToHear, Cond.selects RX2 yX2_waysToHear yX2_waysToHear, Cond.code yX2_waysToHear cX2_waysToHear 6 (some .int), Cond.methodLink RX2 68 yX6_letterAt, Cond.static yX6_letterAt, Cond.initialized RX6, Cond.code yX6_letterAt cX6_letterAt 3 (some .int), Cond.constantLong RX6 11 (31), Cond.methodLink RX2 74 yX6_isLetter, Cond.static yX6_isLetter, Cond.code yX6_isLetter cX6_isLetter 1 (some .boolean), Cond.methodLink RX2 78 yX2_byHabit, Cond.instanceMethod yX2_byHabit, Cond.selects RX2 yX2_byHabit yX2_byHabit, Cond.code yX2_byHabit cX2_byHabit 6 (some .int), Cond.methodLink RX2 64 yX2_codeByWay, Cond.instanceMethod yX2_codeByWay, Cond.selects RX2 yX2_codeByWay yX2_codeByWay, Cond.code yX2_codeByWay cX2_codeByWay 13 (some .int), Cond.methodLink RX2 81 yX0_with, Cond.static yX0_with, Cond.initialized RX0]
def wsX7_bestMerger_r5 : List Cond := [Cond.code yX0_with cX0_with 2 (some .int), Cond.methodLink RX1 50 yX1_drawerFor, Cond.instanceMethod yX1_drawerFor, Cond.selects RX1 yX1_drawerFor yX1_drawerFor, Cond.code yX1_drawerFor cX1_drawerFor 3 (some .int), Cond.fieldLink RX1 18 "ConsonantIndex$Drawers" "codes" "[I", Cond.methodLink RX7 190 yX1_alikePairs, Cond.instanceMethod yX1_alikePairs, Cond.selects RX1 yX1_alikePairs yX1_alikePairs, Cond.code yX1_alikePairs cX1_alikePairs 3 (some .int), Cond.methodLink RX1 74 yX1_namesLike, Cond.instanceMethod yX1_namesLike, Cond.selects RX1 yX1_namesLike yX1_namesLike, Cond.code yX1_namesLike cX1_namesLike 5 (some .int), Cond.methodLink RX1 54 yX1_codesOf, Cond.instanceMethod yX1_codesOf, Cond.selects RX1 yX1_codesOf yX1_codesOf, Cond.code yX1_codesOf cX1_codesOf 2 (some .int), Cond.methodLink RX1 68 yX1_drawerOf, Cond.instanceMethod yX1_drawerOf, Cond.selects RX1 yX1_drawerOf yX1_drawerOf, Cond.code yX1_drawerOf cX1_drawerOf 3 (some .int), Cond.methodLink RX1 71 yX1_namesAt, Cond.instanceMethod yX1_namesAt]
def wsX7_bestMerger_r6 : List Cond := [Cond.selects RX1 yX1_namesAt yX1_namesAt, Cond.code yX1_namesAt cX1_namesAt 2 (some .int), Cond.methodLink RX1 57 yJ6_bitCount_0f7a4, Cond.static yJ6_bitCount_0f7a4, Cond.initialized RJ6, Cond.code yJ6_bitCount_0f7a4 cJ6_bitCount_0f7a4 1 (some .int), Cond.constant RJ6 265 (1431655765), Cond.constant RJ6 266 (858993459), Cond.constant RJ6 267 (252645135)]
def wsX7_bestMerger : List Cond := .code yX7_bestMerger cX7_bestMerger 10 (some .int) :: ((wsX7_bestMerger_r1 ++ (wsX7_bestMerger_r2 ++ (wsX7_bestMerger_r3 ++ (wsX7_bestMerger_r4 ++ (wsX7_bestMerger_r5 ++ wsX7_bestMerger_r6))))) ++ wsX70 ++ wsX50 ++ wsX20 ++ wsX10)
def wsX7_quarrel_r1 : List Cond := [Cond.fieldLink RX7 10 "ConsonantIndex" "now" "LConsonantIndex$State;", Cond.fieldLink RX7 41 "ConsonantIndex" "drawers" "LConsonantIndex$Drawers;", Cond.fieldLink RX7 45 "ConsonantIndex" "otherDrawers" "LConsonantIndex$Drawers;", Cond.fieldLink RX7 87 "ConsonantIndex$State" "nameCount" "I", Cond.methodLink RX7 105 yX5_earAt, Cond.instanceMethod yX5_earAt, Cond.selects RX5 yX5_earAt yX5_earAt, Cond.initialized RX5, Cond.code yX5_earAt cX5_earAt 2 (some (.object "ConsonantIndex$Ear")), Cond.fieldLink RX5 25 "ConsonantIndex$State" "earCount" "I", Cond.fieldLink RX5 30 "ConsonantIndex$State" "ears" "[LConsonantIndex$Ear;", Cond.methodLink RX7 177 yX1_fill, Cond.instanceMethod yX1_fill, Cond.selects RX1 yX1_fill yX1_fill, Cond.initialized RX1, Cond.code yX1_fill cX1_fill 7 none, Cond.fieldLink RX1 27 "ConsonantIndex$State" "nameCount" "I", Cond.fieldLink RX1 33 "ConsonantIndex$Drawers" "nameCount" "I", Cond.fieldLink RX1 34 "ConsonantIndex$Drawers" "drawerCount" "I", Cond.fieldLink RX1 37 "ConsonantIndex$State" "words" "[J", Cond.fieldLink RX1 41 "ConsonantIndex$State" "codeLength" "I", Cond.fieldLink RX1 24 "ConsonantIndex$Drawers" "row" "[I", Cond.fieldLink RX1 9 "ConsonantIndex$Drawers" "codeCounts" "[I", Cond.fieldLink RX1 21 "ConsonantIndex$Drawers" "names" "[I"]
def wsX7_quarrel_r2 : List Cond := [Cond.fieldLink RX1 15 "ConsonantIndex$Drawers" "drawersOfNames" "[I", Cond.methodLink RX1 44 yX2_writeCodes, Cond.instanceMethod yX2_writeCodes, Cond.selects RX2 yX2_writeCodes yX2_writeCodes, Cond.initialized RX2, Cond.code yX2_writeCodes cX2_writeCodes 11 (some .int), Cond.methodLink RX2 60 yX2_waysToHear, Cond.instanceMethod yX2_waysToHear, Cond.selects RX2 yX2_waysToHear yX2_waysToHear, Cond.code yX2_waysToHear cX2_waysToHear 6 (some .int), Cond.fieldLink RX2 15 "ConsonantIndex$Ear" "seconds" "[I", Cond.methodLink RX2 68 yX6_letterAt, Cond.static yX6_letterAt, Cond.initialized RX6, Cond.code yX6_letterAt cX6_letterAt 3 (some .int), Cond.constantLong RX6 11 (31), Cond.methodLink RX2 74 yX6_isLetter, Cond.static yX6_isLetter, Cond.code yX6_isLetter cX6_isLetter 1 (some .boolean), Cond.methodLink RX2 78 yX2_byHabit, Cond.instanceMethod yX2_byHabit, Cond.selects RX2 yX2_byHabit yX2_byHabit, Cond.code yX2_byHabit cX2_byHabit 6 (some .int), Cond.fieldLink RX2 36 "ConsonantIndex$Ear" "habitSet" "I"]
def wsX7_quarrel_r3 : List Cond := [Cond.methodLink RX2 64 yX2_codeByWay, Cond.instanceMethod yX2_codeByWay, Cond.selects RX2 yX2_codeByWay yX2_codeByWay, Cond.code yX2_codeByWay cX2_codeByWay 13 (some .int), Cond.fieldLink RX2 9 "ConsonantIndex$Ear" "firsts" "[I", Cond.methodLink RX2 81 yX0_with, Cond.static yX0_with, Cond.initialized RX0, Cond.code yX0_with cX0_with 2 (some .int), Cond.methodLink RX1 50 yX1_drawerFor, Cond.instanceMethod yX1_drawerFor, Cond.selects RX1 yX1_drawerFor yX1_drawerFor, Cond.code yX1_drawerFor cX1_drawerFor 3 (some .int), Cond.fieldLink RX1 18 "ConsonantIndex$Drawers" "codes" "[I", Cond.methodLink RX7 222 yX1_namesLike, Cond.instanceMethod yX1_namesLike, Cond.selects RX1 yX1_namesLike yX1_namesLike, Cond.code yX1_namesLike cX1_namesLike 5 (some .int), Cond.methodLink RX1 54 yX1_codesOf, Cond.instanceMethod yX1_codesOf, Cond.selects RX1 yX1_codesOf yX1_codesOf, Cond.code yX1_codesOf cX1_codesOf 2 (some .int), Cond.methodLink RX1 68 yX1_drawerOf, Cond.instanceMethod yX1_drawerOf]
def wsX7_quarrel_r4 : List Cond := [Cond.selects RX1 yX1_drawerOf yX1_drawerOf, Cond.code yX1_drawerOf cX1_drawerOf 3 (some .int), Cond.methodLink RX1 71 yX1_namesAt, Cond.instanceMethod yX1_namesAt, Cond.selects RX1 yX1_namesAt yX1_namesAt, Cond.code yX1_namesAt cX1_namesAt 2 (some .int), Cond.methodLink RX7 156 yJ6_bitCount_0f7a4, Cond.static yJ6_bitCount_0f7a4, Cond.initialized RJ6, Cond.code yJ6_bitCount_0f7a4 cJ6_bitCount_0f7a4 1 (some .int), Cond.constant RJ6 265 (1431655765), Cond.constant RJ6 266 (858993459), Cond.constant RJ6 267 (252645135)]
def wsX7_quarrel : List Cond := .code yX7_quarrel cX7_quarrel 7 (some .int) :: ((wsX7_quarrel_r1 ++ (wsX7_quarrel_r2 ++ (wsX7_quarrel_r3 ++ wsX7_quarrel_r4))) ++ wsX70 ++ wsX50 ++ wsX10 ++ wsX20)
def wsX7_deafest_r1 : List Cond := [Cond.fieldLink RX7 10 "ConsonantIndex" "now" "LConsonantIndex$State;", Cond.fieldLink RX7 109 "ConsonantIndex$State" "earCount" "I", Cond.fieldLink RX7 41 "ConsonantIndex" "drawers" "LConsonantIndex$Drawers;", Cond.methodLink RX7 105 yX5_earAt, Cond.instanceMethod yX5_earAt, Cond.selects RX5 yX5_earAt yX5_earAt, Cond.initialized RX5, Cond.code yX5_earAt cX5_earAt 2 (some (.object "ConsonantIndex$Ear")), Cond.fieldLink RX5 25 "ConsonantIndex$State" "earCount" "I", Cond.fieldLink RX5 30 "ConsonantIndex$State" "ears" "[LConsonantIndex$Ear;", Cond.methodLink RX7 177 yX1_fill, Cond.instanceMethod yX1_fill, Cond.selects RX1 yX1_fill yX1_fill, Cond.initialized RX1, Cond.code yX1_fill cX1_fill 7 none, Cond.fieldLink RX1 27 "ConsonantIndex$State" "nameCount" "I", Cond.fieldLink RX1 33 "ConsonantIndex$Drawers" "nameCount" "I", Cond.fieldLink RX1 34 "ConsonantIndex$Drawers" "drawerCount" "I", Cond.fieldLink RX1 37 "ConsonantIndex$State" "words" "[J", Cond.fieldLink RX1 41 "ConsonantIndex$State" "codeLength" "I", Cond.fieldLink RX1 24 "ConsonantIndex$Drawers" "row" "[I", Cond.fieldLink RX1 9 "ConsonantIndex$Drawers" "codeCounts" "[I", Cond.fieldLink RX1 21 "ConsonantIndex$Drawers" "names" "[I", Cond.fieldLink RX1 15 "ConsonantIndex$Drawers" "drawersOfNames" "[I"]
def wsX7_deafest_r2 : List Cond := [Cond.methodLink RX1 44 yX2_writeCodes, Cond.instanceMethod yX2_writeCodes, Cond.selects RX2 yX2_writeCodes yX2_writeCodes, Cond.initialized RX2, Cond.code yX2_writeCodes cX2_writeCodes 11 (some .int), Cond.methodLink RX2 60 yX2_waysToHear, Cond.instanceMethod yX2_waysToHear, Cond.selects RX2 yX2_waysToHear yX2_waysToHear, Cond.code yX2_waysToHear cX2_waysToHear 6 (some .int), Cond.fieldLink RX2 15 "ConsonantIndex$Ear" "seconds" "[I", Cond.methodLink RX2 68 yX6_letterAt, Cond.static yX6_letterAt, Cond.initialized RX6, Cond.code yX6_letterAt cX6_letterAt 3 (some .int), Cond.constantLong RX6 11 (31), Cond.methodLink RX2 74 yX6_isLetter, Cond.static yX6_isLetter, Cond.code yX6_isLetter cX6_isLetter 1 (some .boolean), Cond.methodLink RX2 78 yX2_byHabit, Cond.instanceMethod yX2_byHabit, Cond.selects RX2 yX2_byHabit yX2_byHabit, Cond.code yX2_byHabit cX2_byHabit 6 (some .int), Cond.fieldLink RX2 36 "ConsonantIndex$Ear" "habitSet" "I", Cond.methodLink RX2 64 yX2_codeByWay]
def wsX7_deafest_r3 : List Cond := [Cond.instanceMethod yX2_codeByWay, Cond.selects RX2 yX2_codeByWay yX2_codeByWay, Cond.code yX2_codeByWay cX2_codeByWay 13 (some .int), Cond.fieldLink RX2 9 "ConsonantIndex$Ear" "firsts" "[I", Cond.methodLink RX2 81 yX0_with, Cond.static yX0_with, Cond.initialized RX0, Cond.code yX0_with cX0_with 2 (some .int), Cond.methodLink RX1 50 yX1_drawerFor, Cond.instanceMethod yX1_drawerFor, Cond.selects RX1 yX1_drawerFor yX1_drawerFor, Cond.code yX1_drawerFor cX1_drawerFor 3 (some .int), Cond.fieldLink RX1 18 "ConsonantIndex$Drawers" "codes" "[I", Cond.methodLink RX7 190 yX1_alikePairs, Cond.instanceMethod yX1_alikePairs, Cond.selects RX1 yX1_alikePairs yX1_alikePairs, Cond.code yX1_alikePairs cX1_alikePairs 3 (some .int), Cond.methodLink RX1 74 yX1_namesLike, Cond.instanceMethod yX1_namesLike, Cond.selects RX1 yX1_namesLike yX1_namesLike, Cond.code yX1_namesLike cX1_namesLike 5 (some .int), Cond.methodLink RX1 54 yX1_codesOf, Cond.instanceMethod yX1_codesOf, Cond.selects RX1 yX1_codesOf yX1_codesOf]
def wsX7_deafest_r4 : List Cond := [Cond.code yX1_codesOf cX1_codesOf 2 (some .int), Cond.methodLink RX1 68 yX1_drawerOf, Cond.instanceMethod yX1_drawerOf, Cond.selects RX1 yX1_drawerOf yX1_drawerOf, Cond.code yX1_drawerOf cX1_drawerOf 3 (some .int), Cond.methodLink RX1 71 yX1_namesAt, Cond.instanceMethod yX1_namesAt, Cond.selects RX1 yX1_namesAt yX1_namesAt, Cond.code yX1_namesAt cX1_namesAt 2 (some .int), Cond.methodLink RX1 57 yJ6_bitCount_0f7a4, Cond.static yJ6_bitCount_0f7a4, Cond.initialized RJ6, Cond.code yJ6_bitCount_0f7a4 cJ6_bitCount_0f7a4 1 (some .int), Cond.constant RJ6 265 (1431655765), Cond.constant RJ6 266 (858993459), Cond.constant RJ6 267 (252645135)]
def wsX7_deafest : List Cond := .code yX7_deafest cX7_deafest 6 (some .int) :: ((wsX7_deafest_r1 ++ (wsX7_deafest_r2 ++ (wsX7_deafest_r3 ++ wsX7_deafest_r4))) ++ wsX70 ++ wsX50 ++ wsX10 ++ wsX20)
def wsX7_put : List Cond := .code yX7_put cX7_put 4 (some .int) :: ([.fieldLink RX7 34 "ConsonantIndex" "pad" "LConsonantIndex$Pad;", .fieldLink RX7 94 "ConsonantIndex$Pad" "size" "I", .methodLink RX7 241 yX4_charactersIn, .static yX4_charactersIn, .initialized RX4, .code yX4_charactersIn cX4_charactersIn 7 (some .int), .constantLong RX4 19 (255), .constantLong RX4 21 (33), .constantLong RX4 23 (126), .methodLink RX7 244 yX4_append, .instanceMethod yX4_append, .selects RX4 yX4_append yX4_append, .code yX4_append cX4_append 5 none, .fieldLink RX4 15 "ConsonantIndex$Pad" "size" "I", .fieldLink RX4 9 "ConsonantIndex$Pad" "characters" "[C"] ++ wsX70 ++ wsX40)
def wsX7_wipe : List Cond := .code yX7_wipe cX7_wipe 2 (some .int) :: ([.fieldLink RX7 34 "ConsonantIndex" "pad" "LConsonantIndex$Pad;", .fieldLink RX7 94 "ConsonantIndex$Pad" "size" "I"] ++ wsX70 ++ wsX40)
def wsX7_fault : List Cond := .code yX7_fault cX7_fault 1 (some .int) :: ([.fieldLink RX7 34 "ConsonantIndex" "pad" "LConsonantIndex$Pad;", .methodLink RX7 75 yX4_firstFault, .instanceMethod yX4_firstFault, .selects RX4 yX4_firstFault yX4_firstFault, .initialized RX4, .code yX4_firstFault cX4_firstFault 2 (some .int), .fieldLink RX4 15 "ConsonantIndex$Pad" "size" "I", .fieldLink RX4 9 "ConsonantIndex$Pad" "characters" "[C"] ++ wsX70 ++ wsX40)
def wsX7_undo_r1 : List Cond := [Cond.fieldLink RX7 20 "ConsonantIndex" "changes" "I", Cond.fieldLink RX7 16 "ConsonantIndex" "past" "[LConsonantIndex$State;", Cond.fieldLink RX7 10 "ConsonantIndex" "now" "LConsonantIndex$State;", Cond.methodLink RX7 248 yX5_beAs, Cond.instanceMethod yX5_beAs, Cond.selects RX5 yX5_beAs yX5_beAs, Cond.initialized RX5, Cond.code yX5_beAs cX5_beAs 3 none, Cond.fieldLink RX5 9 "ConsonantIndex$State" "codeLength" "I", Cond.fieldLink RX5 15 "ConsonantIndex$State" "nameLimit" "I", Cond.fieldLink RX5 18 "ConsonantIndex$State" "nameCount" "I", Cond.fieldLink RX5 21 "ConsonantIndex$State" "words" "[J", Cond.methodLink RX5 35 arraycopyName, Cond.native arraycopyName, Cond.static arraycopyName, Cond.initialized "java/lang/System", Cond.fieldLink RX5 25 "ConsonantIndex$State" "earCount" "I", Cond.fieldLink RX5 30 "ConsonantIndex$State" "ears" "[LConsonantIndex$Ear;", Cond.methodLink RX5 41 yX2_beAs, Cond.instanceMethod yX2_beAs, Cond.selects RX2 yX2_beAs yX2_beAs, Cond.initialized RX2, Cond.code yX2_beAs cX2_beAs 2 none, Cond.fieldLink RX2 9 "ConsonantIndex$Ear" "firsts" "[I"]
def wsX7_undo_r2 : List Cond := [Cond.methodLink RX2 43 arraycopyName, Cond.fieldLink RX2 15 "ConsonantIndex$Ear" "seconds" "[I", Cond.fieldLink RX2 36 "ConsonantIndex$Ear" "habitSet" "I", Cond.fieldLink RX2 40 "ConsonantIndex$Ear" "mergers" "I", Cond.fieldLink RX2 18 "ConsonantIndex$Ear" "intos" "[I", Cond.fieldLink RX2 21 "ConsonantIndex$Ear" "froms" "[I", Cond.fieldLink RX2 24 "ConsonantIndex$Ear" "movedFirsts" "[I", Cond.fieldLink RX2 27 "ConsonantIndex$Ear" "movedSeconds" "[I"]
def wsX7_undo : List Cond := .code yX7_undo cX7_undo 1 (some .int) :: ((wsX7_undo_r1 ++ wsX7_undo_r2) ++ wsX70 ++ wsX50 ++ wsX20)
def wsX7_save_r1 : List Cond := [Cond.fieldLink RX7 24 "ConsonantIndex" "slots" "[LConsonantIndex$State;", Cond.fieldLink RX7 10 "ConsonantIndex" "now" "LConsonantIndex$State;", Cond.fieldLink RX7 27 "ConsonantIndex" "saved" "[Z", Cond.fieldLink RX7 87 "ConsonantIndex$State" "nameCount" "I", Cond.methodLink RX7 62 yX7_isWithin, Cond.static yX7_isWithin, Cond.initialized RX7, Cond.code yX7_isWithin cX7_isWithin 3 (some .boolean), Cond.methodLink RX7 248 yX5_beAs, Cond.instanceMethod yX5_beAs, Cond.selects RX5 yX5_beAs yX5_beAs, Cond.initialized RX5, Cond.code yX5_beAs cX5_beAs 3 none, Cond.fieldLink RX5 9 "ConsonantIndex$State" "codeLength" "I", Cond.fieldLink RX5 15 "ConsonantIndex$State" "nameLimit" "I", Cond.fieldLink RX5 18 "ConsonantIndex$State" "nameCount" "I", Cond.fieldLink RX5 21 "ConsonantIndex$State" "words" "[J", Cond.methodLink RX5 35 arraycopyName, Cond.native arraycopyName, Cond.static arraycopyName, Cond.initialized "java/lang/System", Cond.fieldLink RX5 25 "ConsonantIndex$State" "earCount" "I", Cond.fieldLink RX5 30 "ConsonantIndex$State" "ears" "[LConsonantIndex$Ear;", Cond.methodLink RX5 41 yX2_beAs]
def wsX7_save_r2 : List Cond := [Cond.instanceMethod yX2_beAs, Cond.selects RX2 yX2_beAs yX2_beAs, Cond.initialized RX2, Cond.code yX2_beAs cX2_beAs 2 none, Cond.fieldLink RX2 9 "ConsonantIndex$Ear" "firsts" "[I", Cond.methodLink RX2 43 arraycopyName, Cond.fieldLink RX2 15 "ConsonantIndex$Ear" "seconds" "[I", Cond.fieldLink RX2 36 "ConsonantIndex$Ear" "habitSet" "I", Cond.fieldLink RX2 40 "ConsonantIndex$Ear" "mergers" "I", Cond.fieldLink RX2 18 "ConsonantIndex$Ear" "intos" "[I", Cond.fieldLink RX2 21 "ConsonantIndex$Ear" "froms" "[I", Cond.fieldLink RX2 24 "ConsonantIndex$Ear" "movedFirsts" "[I", Cond.fieldLink RX2 27 "ConsonantIndex$Ear" "movedSeconds" "[I"]
def wsX7_save : List Cond := .code yX7_save cX7_save 2 (some .int) :: ((wsX7_save_r1 ++ wsX7_save_r2) ++ wsX70 ++ wsX50 ++ wsX20)
def wsX7_restore_r1 : List Cond := [Cond.fieldLink RX7 27 "ConsonantIndex" "saved" "[Z", Cond.fieldLink RX7 10 "ConsonantIndex" "now" "LConsonantIndex$State;", Cond.fieldLink RX7 24 "ConsonantIndex" "slots" "[LConsonantIndex$State;", Cond.fieldLink RX7 87 "ConsonantIndex$State" "nameCount" "I", Cond.methodLink RX7 62 yX7_isWithin, Cond.static yX7_isWithin, Cond.initialized RX7, Cond.code yX7_isWithin cX7_isWithin 3 (some .boolean), Cond.methodLink RX7 69 yX7_recordChange, Cond.instanceMethod yX7_recordChange, Cond.selects RX7 yX7_recordChange yX7_recordChange, Cond.code yX7_recordChange cX7_recordChange 3 none, Cond.fieldLink RX7 20 "ConsonantIndex" "changes" "I", Cond.fieldLink RX7 16 "ConsonantIndex" "past" "[LConsonantIndex$State;", Cond.methodLink RX7 248 yX5_beAs, Cond.instanceMethod yX5_beAs, Cond.selects RX5 yX5_beAs yX5_beAs, Cond.initialized RX5, Cond.code yX5_beAs cX5_beAs 3 none, Cond.fieldLink RX5 9 "ConsonantIndex$State" "codeLength" "I", Cond.fieldLink RX5 15 "ConsonantIndex$State" "nameLimit" "I", Cond.fieldLink RX5 18 "ConsonantIndex$State" "nameCount" "I", Cond.fieldLink RX5 21 "ConsonantIndex$State" "words" "[J", Cond.methodLink RX5 35 arraycopyName]
def wsX7_restore_r2 : List Cond := [Cond.native arraycopyName, Cond.static arraycopyName, Cond.initialized "java/lang/System", Cond.fieldLink RX5 25 "ConsonantIndex$State" "earCount" "I", Cond.fieldLink RX5 30 "ConsonantIndex$State" "ears" "[LConsonantIndex$Ear;", Cond.methodLink RX5 41 yX2_beAs, Cond.instanceMethod yX2_beAs, Cond.selects RX2 yX2_beAs yX2_beAs, Cond.initialized RX2, Cond.code yX2_beAs cX2_beAs 2 none, Cond.fieldLink RX2 9 "ConsonantIndex$Ear" "firsts" "[I", Cond.methodLink RX2 43 arraycopyName, Cond.fieldLink RX2 15 "ConsonantIndex$Ear" "seconds" "[I", Cond.fieldLink RX2 36 "ConsonantIndex$Ear" "habitSet" "I", Cond.fieldLink RX2 40 "ConsonantIndex$Ear" "mergers" "I", Cond.fieldLink RX2 18 "ConsonantIndex$Ear" "intos" "[I", Cond.fieldLink RX2 21 "ConsonantIndex$Ear" "froms" "[I", Cond.fieldLink RX2 24 "ConsonantIndex$Ear" "movedFirsts" "[I", Cond.fieldLink RX2 27 "ConsonantIndex$Ear" "movedSeconds" "[I"]
def wsX7_restore : List Cond := .code yX7_restore cX7_restore 2 (some .int) :: ((wsX7_restore_r1 ++ wsX7_restore_r2) ++ wsX70 ++ wsX50 ++ wsX20)
def wsX8_init : List Cond := .code yX8_init cX8_init 1 none :: ([.methodLink RX8 1 objectInit, .instanceMethod objectInit, .code objectInit ⟨#[0xb1]⟩ 1 none, .arrayClass .int, .fieldLink RX8 7 "ConsonantIndexModel" "z" "[I", .fieldLink RX8 13 "ConsonantIndexModel" "spare" "[I", .fieldLink RX8 16 "ConsonantIndexModel" "past" "[I", .fieldLink RX8 19 "ConsonantIndexModel" "slots" "[I", .arrayClass .boolean, .fieldLink RX8 22 "ConsonantIndexModel" "isSaved" "[Z", .fieldLink RX8 26 "ConsonantIndexModel" "pad" "[I", .fieldLink RX8 29 "ConsonantIndexModel" "word" "[I", .arrayClass .long, .fieldLink RX8 32 "ConsonantIndexModel" "codes" "[J", .fieldLink RX8 36 "ConsonantIndexModel" "allCodes" "[J", .fieldLink RX8 39 "ConsonantIndexModel" "allMany" "[I", .fieldLink RX8 42 "ConsonantIndexModel" "drawers" "[J", .fieldLink RX8 45 "ConsonantIndexModel" "row" "[I", .fieldLink RX8 48 "ConsonantIndexModel" "like" "[I"] ++ wsX80)
def wsX8_in : List Cond := .code yX8_in cX8_in 3 (some .boolean) :: ([])
def wsX8_isName : List Cond := .code yX8_isName cX8_isName 2 (some .boolean) :: ([.fieldLink RX8 7 "ConsonantIndexModel" "z" "[I", .methodLink RX8 51 yX8_in, .static yX8_in, .initialized RX8, .code yX8_in cX8_in 3 (some .boolean)] ++ wsX80)
def wsX8_isEar : List Cond := .code yX8_isEar cX8_isEar 2 (some .boolean) :: ([.fieldLink RX8 7 "ConsonantIndexModel" "z" "[I", .methodLink RX8 51 yX8_in, .static yX8_in, .initialized RX8, .code yX8_in cX8_in 3 (some .boolean)] ++ wsX80)
def wsX8_isLetter : List Cond := .code yX8_isLetter cX8_isLetter 1 (some .boolean) :: ([.methodLink RX8 51 yX8_in, .static yX8_in, .initialized RX8, .code yX8_in cX8_in 3 (some .boolean)])
def wsX8_isKind : List Cond := .code yX8_isKind cX8_isKind 1 (some .boolean) :: ([.methodLink RX8 51 yX8_in, .static yX8_in, .initialized RX8, .code yX8_in cX8_in 3 (some .boolean)])
def wsX8_letterOf : List Cond := .code yX8_letterOf cX8_letterOf 3 (some .int) :: ([.fieldLink RX8 7 "ConsonantIndexModel" "z" "[I"] ++ wsX80)
def wsX8_lengthOf : List Cond := .code yX8_lengthOf cX8_lengthOf 2 (some .int) :: ([.fieldLink RX8 7 "ConsonantIndexModel" "z" "[I"] ++ wsX80)
def wsX8_at : List Cond := .code yX8_at cX8_at 3 (some .int) :: ([.fieldLink RX8 7 "ConsonantIndexModel" "z" "[I"] ++ wsX80)
def wsX8_lay : List Cond := .code yX8_lay cX8_lay 4 none :: ([.fieldLink RX8 7 "ConsonantIndexModel" "z" "[I"] ++ wsX80)
def wsX8_copyState : List Cond := .code yX8_copyState cX8_copyState 5 none :: ([])
def wsX8_record : List Cond := .code yX8_record cX8_record 2 none :: ([.fieldLink RX8 55 "ConsonantIndexModel" "states" "I", .fieldLink RX8 16 "ConsonantIndexModel" "past" "[I", .fieldLink RX8 7 "ConsonantIndexModel" "z" "[I", .methodLink RX8 59 yX8_copyState, .static yX8_copyState, .initialized RX8, .code yX8_copyState cX8_copyState 5 none] ++ wsX80)
def wsX8_undo : List Cond := .code yX8_undo cX8_undo 1 (some .int) :: ([.fieldLink RX8 55 "ConsonantIndexModel" "states" "I", .fieldLink RX8 16 "ConsonantIndexModel" "past" "[I", .fieldLink RX8 7 "ConsonantIndexModel" "z" "[I", .methodLink RX8 59 yX8_copyState, .static yX8_copyState, .initialized RX8, .code yX8_copyState cX8_copyState 5 none] ++ wsX80)
def wsX8_save : List Cond := .code yX8_save cX8_save 2 (some .int) :: ([.fieldLink RX8 7 "ConsonantIndexModel" "z" "[I", .fieldLink RX8 19 "ConsonantIndexModel" "slots" "[I", .fieldLink RX8 22 "ConsonantIndexModel" "isSaved" "[Z", .methodLink RX8 51 yX8_in, .static yX8_in, .initialized RX8, .code yX8_in cX8_in 3 (some .boolean), .methodLink RX8 59 yX8_copyState, .static yX8_copyState, .code yX8_copyState cX8_copyState 5 none] ++ wsX80)
def wsX8_restore : List Cond := .code yX8_restore cX8_restore 2 (some .int) :: ([.fieldLink RX8 22 "ConsonantIndexModel" "isSaved" "[Z", .fieldLink RX8 19 "ConsonantIndexModel" "slots" "[I", .fieldLink RX8 7 "ConsonantIndexModel" "z" "[I", .methodLink RX8 51 yX8_in, .static yX8_in, .initialized RX8, .code yX8_in cX8_in 3 (some .boolean), .methodLink RX8 63 yX8_record, .instanceMethod yX8_record, .selects RX8 yX8_record yX8_record, .code yX8_record cX8_record 2 none, .fieldLink RX8 55 "ConsonantIndexModel" "states" "I", .fieldLink RX8 16 "ConsonantIndexModel" "past" "[I", .methodLink RX8 59 yX8_copyState, .static yX8_copyState, .code yX8_copyState cX8_copyState 5 none] ++ wsX80)
def wsX8_set : List Cond := .code yX8_set cX8_set 4 (some .int) :: ([.fieldLink RX8 7 "ConsonantIndexModel" "z" "[I", .methodLink RX8 51 yX8_in, .static yX8_in, .initialized RX8, .code yX8_in cX8_in 3 (some .boolean), .methodLink RX8 63 yX8_record, .instanceMethod yX8_record, .selects RX8 yX8_record yX8_record, .code yX8_record cX8_record 2 none, .fieldLink RX8 55 "ConsonantIndexModel" "states" "I", .fieldLink RX8 16 "ConsonantIndexModel" "past" "[I", .methodLink RX8 59 yX8_copyState, .static yX8_copyState, .code yX8_copyState cX8_copyState 5 none] ++ wsX80)
def wsX8_put : List Cond := .code yX8_put cX8_put 7 (some .int) :: ([.constantLong RX8 66 (255), .fieldLink RX8 68 "ConsonantIndexModel" "typed" "I", .fieldLink RX8 26 "ConsonantIndexModel" "pad" "[I", .methodLink RX8 51 yX8_in, .static yX8_in, .initialized RX8, .code yX8_in cX8_in 3 (some .boolean)] ++ wsX80)
def wsX8_wipe : List Cond := .code yX8_wipe cX8_wipe 2 (some .int) :: ([.fieldLink RX8 68 "ConsonantIndexModel" "typed" "I"] ++ wsX80)
def wsX8_faultOf : List Cond := .code yX8_faultOf cX8_faultOf 2 (some .int) :: ([.fieldLink RX8 68 "ConsonantIndexModel" "typed" "I", .fieldLink RX8 26 "ConsonantIndexModel" "pad" "[I", .methodLink RX8 51 yX8_in, .static yX8_in, .initialized RX8, .code yX8_in cX8_in 3 (some .boolean)] ++ wsX80)
def wsX8_fault : List Cond := .code yX8_fault cX8_fault 1 (some .int) :: ([.methodLink RX8 71 yX8_faultOf, .instanceMethod yX8_faultOf, .selects RX8 yX8_faultOf yX8_faultOf, .initialized RX8, .code yX8_faultOf cX8_faultOf 2 (some .int), .fieldLink RX8 68 "ConsonantIndexModel" "typed" "I", .fieldLink RX8 26 "ConsonantIndexModel" "pad" "[I", .methodLink RX8 51 yX8_in, .static yX8_in, .code yX8_in cX8_in 3 (some .boolean)] ++ wsX80)
def wsX8_takePad : List Cond := .code yX8_takePad cX8_takePad 2 none :: ([.fieldLink RX8 68 "ConsonantIndexModel" "typed" "I", .fieldLink RX8 75 "ConsonantIndexModel" "wordLength" "I", .fieldLink RX8 29 "ConsonantIndexModel" "word" "[I", .fieldLink RX8 26 "ConsonantIndexModel" "pad" "[I"] ++ wsX80)
def wsX8_takeName : List Cond := .code yX8_takeName cX8_takeName 3 none :: ([.fieldLink RX8 75 "ConsonantIndexModel" "wordLength" "I", .fieldLink RX8 29 "ConsonantIndexModel" "word" "[I", .methodLink RX8 78 yX8_lengthOf, .instanceMethod yX8_lengthOf, .selects RX8 yX8_lengthOf yX8_lengthOf, .initialized RX8, .code yX8_lengthOf cX8_lengthOf 2 (some .int), .fieldLink RX8 7 "ConsonantIndexModel" "z" "[I", .methodLink RX8 82 yX8_letterOf, .instanceMethod yX8_letterOf, .selects RX8 yX8_letterOf yX8_letterOf, .code yX8_letterOf cX8_letterOf 3 (some .int)] ++ wsX80)
def wsX8_isWord : List Cond := .code yX8_isWord cX8_isWord 4 (some .boolean) :: ([.fieldLink RX8 75 "ConsonantIndexModel" "wordLength" "I", .fieldLink RX8 29 "ConsonantIndexModel" "word" "[I", .methodLink RX8 78 yX8_lengthOf, .instanceMethod yX8_lengthOf, .selects RX8 yX8_lengthOf yX8_lengthOf, .initialized RX8, .code yX8_lengthOf cX8_lengthOf 2 (some .int), .fieldLink RX8 7 "ConsonantIndexModel" "z" "[I", .methodLink RX8 82 yX8_letterOf, .instanceMethod yX8_letterOf, .selects RX8 yX8_letterOf yX8_letterOf, .code yX8_letterOf cX8_letterOf 3 (some .int)] ++ wsX80)
def wsX8_add_r1 : List Cond := [Cond.fieldLink RX8 7 "ConsonantIndexModel" "z" "[I", Cond.fieldLink RX8 75 "ConsonantIndexModel" "wordLength" "I", Cond.fieldLink RX8 29 "ConsonantIndexModel" "word" "[I", Cond.fieldLink RX8 68 "ConsonantIndexModel" "typed" "I", Cond.methodLink RX8 71 yX8_faultOf, Cond.instanceMethod yX8_faultOf, Cond.selects RX8 yX8_faultOf yX8_faultOf, Cond.initialized RX8, Cond.code yX8_faultOf cX8_faultOf 2 (some .int), Cond.fieldLink RX8 26 "ConsonantIndexModel" "pad" "[I", Cond.methodLink RX8 51 yX8_in, Cond.static yX8_in, Cond.code yX8_in cX8_in 3 (some .boolean), Cond.methodLink RX8 86 yX8_takePad, Cond.instanceMethod yX8_takePad, Cond.selects RX8 yX8_takePad yX8_takePad, Cond.code yX8_takePad cX8_takePad 2 none, Cond.methodLink RX8 89 yX8_isWord, Cond.instanceMethod yX8_isWord, Cond.selects RX8 yX8_isWord yX8_isWord, Cond.code yX8_isWord cX8_isWord 4 (some .boolean), Cond.methodLink RX8 78 yX8_lengthOf, Cond.instanceMethod yX8_lengthOf, Cond.selects RX8 yX8_lengthOf yX8_lengthOf]
def wsX8_add_r2 : List Cond := [Cond.code yX8_lengthOf cX8_lengthOf 2 (some .int), Cond.methodLink RX8 82 yX8_letterOf, Cond.instanceMethod yX8_letterOf, Cond.selects RX8 yX8_letterOf yX8_letterOf, Cond.code yX8_letterOf cX8_letterOf 3 (some .int), Cond.methodLink RX8 63 yX8_record, Cond.instanceMethod yX8_record, Cond.selects RX8 yX8_record yX8_record, Cond.code yX8_record cX8_record 2 none, Cond.fieldLink RX8 55 "ConsonantIndexModel" "states" "I", Cond.fieldLink RX8 16 "ConsonantIndexModel" "past" "[I", Cond.methodLink RX8 59 yX8_copyState, Cond.static yX8_copyState, Cond.code yX8_copyState cX8_copyState 5 none]
def wsX8_add : List Cond := .code yX8_add cX8_add 3 (some .int) :: ((wsX8_add_r1 ++ wsX8_add_r2) ++ wsX80)
def wsX8_drop : List Cond := .code yX8_drop cX8_drop 3 (some .int) :: ([.fieldLink RX8 7 "ConsonantIndexModel" "z" "[I", .methodLink RX8 93 yX8_isName, .instanceMethod yX8_isName, .selects RX8 yX8_isName yX8_isName, .initialized RX8, .code yX8_isName cX8_isName 2 (some .boolean), .methodLink RX8 51 yX8_in, .static yX8_in, .code yX8_in cX8_in 3 (some .boolean), .methodLink RX8 63 yX8_record, .instanceMethod yX8_record, .selects RX8 yX8_record yX8_record, .code yX8_record cX8_record 2 none, .fieldLink RX8 55 "ConsonantIndexModel" "states" "I", .fieldLink RX8 16 "ConsonantIndexModel" "past" "[I", .methodLink RX8 59 yX8_copyState, .static yX8_copyState, .code yX8_copyState cX8_copyState 5 none] ++ wsX80)
def wsX8_least : List Cond := .code yX8_least cX8_least 2 (some .int) :: ([])
def wsX8_distanceTo : List Cond := .code yX8_distanceTo cX8_distanceTo 7 (some .int) :: ([.fieldLink RX8 45 "ConsonantIndexModel" "row" "[I", .fieldLink RX8 75 "ConsonantIndexModel" "wordLength" "I", .fieldLink RX8 29 "ConsonantIndexModel" "word" "[I", .methodLink RX8 78 yX8_lengthOf, .instanceMethod yX8_lengthOf, .selects RX8 yX8_lengthOf yX8_lengthOf, .initialized RX8, .code yX8_lengthOf cX8_lengthOf 2 (some .int), .fieldLink RX8 7 "ConsonantIndexModel" "z" "[I", .methodLink RX8 82 yX8_letterOf, .instanceMethod yX8_letterOf, .selects RX8 yX8_letterOf yX8_letterOf, .code yX8_letterOf cX8_letterOf 3 (some .int), .methodLink RX8 96 yX8_least, .static yX8_least, .code yX8_least cX8_least 2 (some .int)] ++ wsX80)
def wsX8_distance_r1 : List Cond := [Cond.methodLink RX8 93 yX8_isName, Cond.instanceMethod yX8_isName, Cond.selects RX8 yX8_isName yX8_isName, Cond.initialized RX8, Cond.code yX8_isName cX8_isName 2 (some .boolean), Cond.fieldLink RX8 7 "ConsonantIndexModel" "z" "[I", Cond.methodLink RX8 51 yX8_in, Cond.static yX8_in, Cond.code yX8_in cX8_in 3 (some .boolean), Cond.methodLink RX8 99 yX8_takeName, Cond.instanceMethod yX8_takeName, Cond.selects RX8 yX8_takeName yX8_takeName, Cond.code yX8_takeName cX8_takeName 3 none, Cond.fieldLink RX8 75 "ConsonantIndexModel" "wordLength" "I", Cond.fieldLink RX8 29 "ConsonantIndexModel" "word" "[I", Cond.methodLink RX8 78 yX8_lengthOf, Cond.instanceMethod yX8_lengthOf, Cond.selects RX8 yX8_lengthOf yX8_lengthOf, Cond.code yX8_lengthOf cX8_lengthOf 2 (some .int), Cond.methodLink RX8 82 yX8_letterOf, Cond.instanceMethod yX8_letterOf, Cond.selects RX8 yX8_letterOf yX8_letterOf, Cond.code yX8_letterOf cX8_letterOf 3 (some .int), Cond.methodLink RX8 103 yX8_distanceTo]
def wsX8_distance_r2 : List Cond := [Cond.instanceMethod yX8_distanceTo, Cond.selects RX8 yX8_distanceTo yX8_distanceTo, Cond.code yX8_distanceTo cX8_distanceTo 7 (some .int), Cond.fieldLink RX8 45 "ConsonantIndexModel" "row" "[I", Cond.methodLink RX8 96 yX8_least, Cond.static yX8_least, Cond.code yX8_least cX8_least 2 (some .int)]
def wsX8_distance : List Cond := .code yX8_distance cX8_distance 3 (some .int) :: ((wsX8_distance_r1 ++ wsX8_distance_r2) ++ wsX80)
def wsX8_hasHabit : List Cond := .code yX8_hasHabit cX8_hasHabit 3 (some .boolean) :: ([.methodLink RX8 106 yX8_at, .instanceMethod yX8_at, .selects RX8 yX8_at yX8_at, .initialized RX8, .code yX8_at cX8_at 3 (some .int), .fieldLink RX8 7 "ConsonantIndexModel" "z" "[I"] ++ wsX80)
def wsX8_isBehindOne : List Cond := .code yX8_isBehindOne cX8_isBehindOne 3 (some .boolean) :: ([.fieldLink RX8 29 "ConsonantIndexModel" "word" "[I"] ++ wsX80)
def wsX8_byHabit : List Cond := .code yX8_byHabit cX8_byHabit 5 (some .int) :: ([.fieldLink RX8 29 "ConsonantIndexModel" "word" "[I", .fieldLink RX8 75 "ConsonantIndexModel" "wordLength" "I", .methodLink RX8 109 yX8_hasHabit, .instanceMethod yX8_hasHabit, .selects RX8 yX8_hasHabit yX8_hasHabit, .initialized RX8, .code yX8_hasHabit cX8_hasHabit 3 (some .boolean), .methodLink RX8 106 yX8_at, .instanceMethod yX8_at, .selects RX8 yX8_at yX8_at, .code yX8_at cX8_at 3 (some .int), .fieldLink RX8 7 "ConsonantIndexModel" "z" "[I", .methodLink RX8 113 yX8_isBehindOne, .instanceMethod yX8_isBehindOne, .selects RX8 yX8_isBehindOne yX8_isBehindOne, .code yX8_isBehindOne cX8_isBehindOne 3 (some .boolean)] ++ wsX80)
def wsX8_codeBy : List Cond := .code yX8_codeBy cX8_codeBy 12 (some .long) :: ([.fieldLink RX8 75 "ConsonantIndexModel" "wordLength" "I", .fieldLink RX8 29 "ConsonantIndexModel" "word" "[I", .fieldLink RX8 7 "ConsonantIndexModel" "z" "[I", .constantLong RX8 119 (64), .constantLong RX8 121 (1073741824), .methodLink RX8 116 yX8_byHabit, .instanceMethod yX8_byHabit, .selects RX8 yX8_byHabit yX8_byHabit, .initialized RX8, .code yX8_byHabit cX8_byHabit 5 (some .int), .methodLink RX8 109 yX8_hasHabit, .instanceMethod yX8_hasHabit, .selects RX8 yX8_hasHabit yX8_hasHabit, .code yX8_hasHabit cX8_hasHabit 3 (some .boolean), .methodLink RX8 106 yX8_at, .instanceMethod yX8_at, .selects RX8 yX8_at yX8_at, .code yX8_at cX8_at 3 (some .int), .methodLink RX8 113 yX8_isBehindOne, .instanceMethod yX8_isBehindOne, .selects RX8 yX8_isBehindOne yX8_isBehindOne, .code yX8_isBehindOne cX8_isBehindOne 3 (some .boolean)] ++ wsX80)
def wsX8_hearWord_r1 : List Cond := [Cond.fieldLink RX8 123 "ConsonantIndexModel" "codeMany" "I", Cond.fieldLink RX8 32 "ConsonantIndexModel" "codes" "[J", Cond.methodLink RX8 126 yX8_codeBy, Cond.instanceMethod yX8_codeBy, Cond.selects RX8 yX8_codeBy yX8_codeBy, Cond.initialized RX8, Cond.code yX8_codeBy cX8_codeBy 12 (some .long), Cond.fieldLink RX8 75 "ConsonantIndexModel" "wordLength" "I", Cond.fieldLink RX8 29 "ConsonantIndexModel" "word" "[I", Cond.fieldLink RX8 7 "ConsonantIndexModel" "z" "[I", Cond.constantLong RX8 119 (64), Cond.constantLong RX8 121 (1073741824), Cond.methodLink RX8 116 yX8_byHabit, Cond.instanceMethod yX8_byHabit, Cond.selects RX8 yX8_byHabit yX8_byHabit, Cond.code yX8_byHabit cX8_byHabit 5 (some .int), Cond.methodLink RX8 109 yX8_hasHabit, Cond.instanceMethod yX8_hasHabit, Cond.selects RX8 yX8_hasHabit yX8_hasHabit, Cond.code yX8_hasHabit cX8_hasHabit 3 (some .boolean), Cond.methodLink RX8 106 yX8_at, Cond.instanceMethod yX8_at, Cond.selects RX8 yX8_at yX8_at, Cond.code yX8_at cX8_at 3 (some .int)]
def wsX8_hearWord_r2 : List Cond := [Cond.methodLink RX8 113 yX8_isBehindOne, Cond.instanceMethod yX8_isBehindOne, Cond.selects RX8 yX8_isBehindOne yX8_isBehindOne, Cond.code yX8_isBehindOne cX8_isBehindOne 3 (some .boolean)]
def wsX8_hearWord : List Cond := .code yX8_hearWord cX8_hearWord 7 none :: ((wsX8_hearWord_r1 ++ wsX8_hearWord_r2) ++ wsX80)
def wsX8_drawerWith : List Cond := .code yX8_drawerWith cX8_drawerWith 5 (some .int) :: ([.fieldLink RX8 130 "ConsonantIndexModel" "drawerMany" "I", .fieldLink RX8 42 "ConsonantIndexModel" "drawers" "[J"] ++ wsX80)
def wsX8_hearAll_r1 : List Cond := [Cond.fieldLink RX8 130 "ConsonantIndexModel" "drawerMany" "I", Cond.fieldLink RX8 7 "ConsonantIndexModel" "z" "[I", Cond.fieldLink RX8 39 "ConsonantIndexModel" "allMany" "[I", Cond.fieldLink RX8 123 "ConsonantIndexModel" "codeMany" "I", Cond.fieldLink RX8 36 "ConsonantIndexModel" "allCodes" "[J", Cond.fieldLink RX8 32 "ConsonantIndexModel" "codes" "[J", Cond.fieldLink RX8 42 "ConsonantIndexModel" "drawers" "[J", Cond.methodLink RX8 99 yX8_takeName, Cond.instanceMethod yX8_takeName, Cond.selects RX8 yX8_takeName yX8_takeName, Cond.initialized RX8, Cond.code yX8_takeName cX8_takeName 3 none, Cond.fieldLink RX8 75 "ConsonantIndexModel" "wordLength" "I", Cond.fieldLink RX8 29 "ConsonantIndexModel" "word" "[I", Cond.methodLink RX8 78 yX8_lengthOf, Cond.instanceMethod yX8_lengthOf, Cond.selects RX8 yX8_lengthOf yX8_lengthOf, Cond.code yX8_lengthOf cX8_lengthOf 2 (some .int), Cond.methodLink RX8 82 yX8_letterOf, Cond.instanceMethod yX8_letterOf, Cond.selects RX8 yX8_letterOf yX8_letterOf, Cond.code yX8_letterOf cX8_letterOf 3 (some .int), Cond.methodLink RX8 133 yX8_hearWord, Cond.instanceMethod yX8_hearWord]
def wsX8_hearAll_r2 : List Cond := [Cond.selects RX8 yX8_hearWord yX8_hearWord, Cond.code yX8_hearWord cX8_hearWord 7 none, Cond.methodLink RX8 126 yX8_codeBy, Cond.instanceMethod yX8_codeBy, Cond.selects RX8 yX8_codeBy yX8_codeBy, Cond.code yX8_codeBy cX8_codeBy 12 (some .long), Cond.constantLong RX8 119 (64), Cond.constantLong RX8 121 (1073741824), Cond.methodLink RX8 116 yX8_byHabit, Cond.instanceMethod yX8_byHabit, Cond.selects RX8 yX8_byHabit yX8_byHabit, Cond.code yX8_byHabit cX8_byHabit 5 (some .int), Cond.methodLink RX8 109 yX8_hasHabit, Cond.instanceMethod yX8_hasHabit, Cond.selects RX8 yX8_hasHabit yX8_hasHabit, Cond.code yX8_hasHabit cX8_hasHabit 3 (some .boolean), Cond.methodLink RX8 106 yX8_at, Cond.instanceMethod yX8_at, Cond.selects RX8 yX8_at yX8_at, Cond.code yX8_at cX8_at 3 (some .int), Cond.methodLink RX8 113 yX8_isBehindOne, Cond.instanceMethod yX8_isBehindOne, Cond.selects RX8 yX8_isBehindOne yX8_isBehindOne, Cond.code yX8_isBehindOne cX8_isBehindOne 3 (some .boolean)]
def wsX8_hearAll_r3 : List Cond := [Cond.methodLink RX8 136 yX8_drawerWith, Cond.instanceMethod yX8_drawerWith, Cond.selects RX8 yX8_drawerWith yX8_drawerWith, Cond.code yX8_drawerWith cX8_drawerWith 5 (some .int)]
def wsX8_hearAll : List Cond := .code yX8_hearAll cX8_hearAll 4 none :: ((wsX8_hearAll_r1 ++ (wsX8_hearAll_r2 ++ wsX8_hearAll_r3)) ++ wsX80)
def wsX8_hasCode : List Cond := .code yX8_hasCode cX8_hasCode 6 (some .boolean) :: ([.fieldLink RX8 39 "ConsonantIndexModel" "allMany" "[I", .fieldLink RX8 36 "ConsonantIndexModel" "allCodes" "[J"] ++ wsX80)
def wsX8_haveCommon : List Cond := .code yX8_haveCommon cX8_haveCommon 5 (some .boolean) :: ([.fieldLink RX8 39 "ConsonantIndexModel" "allMany" "[I", .fieldLink RX8 36 "ConsonantIndexModel" "allCodes" "[J", .methodLink RX8 140 yX8_hasCode, .instanceMethod yX8_hasCode, .selects RX8 yX8_hasCode yX8_hasCode, .initialized RX8, .code yX8_hasCode cX8_hasCode 6 (some .boolean)] ++ wsX80)
def wsX8_namesWith : List Cond := .code yX8_namesWith cX8_namesWith 5 (some .int) :: ([.fieldLink RX8 7 "ConsonantIndexModel" "z" "[I", .methodLink RX8 140 yX8_hasCode, .instanceMethod yX8_hasCode, .selects RX8 yX8_hasCode yX8_hasCode, .initialized RX8, .code yX8_hasCode cX8_hasCode 6 (some .boolean), .fieldLink RX8 39 "ConsonantIndexModel" "allMany" "[I", .fieldLink RX8 36 "ConsonantIndexModel" "allCodes" "[J"] ++ wsX80)
def wsX8_bits : List Cond := .code yX8_bits cX8_bits 3 (some .int) :: ([])
def wsX8_likeOnes : List Cond := .code yX8_likeOnes cX8_likeOnes 4 (some .int) :: ([.fieldLink RX8 7 "ConsonantIndexModel" "z" "[I", .methodLink RX8 144 yX8_haveCommon, .instanceMethod yX8_haveCommon, .selects RX8 yX8_haveCommon yX8_haveCommon, .initialized RX8, .code yX8_haveCommon cX8_haveCommon 5 (some .boolean), .fieldLink RX8 39 "ConsonantIndexModel" "allMany" "[I", .fieldLink RX8 36 "ConsonantIndexModel" "allCodes" "[J", .methodLink RX8 140 yX8_hasCode, .instanceMethod yX8_hasCode, .selects RX8 yX8_hasCode yX8_hasCode, .code yX8_hasCode cX8_hasCode 6 (some .boolean)] ++ wsX80)
def wsX8_pairs_r1 : List Cond := [Cond.fieldLink RX8 7 "ConsonantIndexModel" "z" "[I", Cond.methodLink RX8 147 yX8_hearAll, Cond.instanceMethod yX8_hearAll, Cond.selects RX8 yX8_hearAll yX8_hearAll, Cond.initialized RX8, Cond.code yX8_hearAll cX8_hearAll 4 none, Cond.fieldLink RX8 130 "ConsonantIndexModel" "drawerMany" "I", Cond.fieldLink RX8 39 "ConsonantIndexModel" "allMany" "[I", Cond.fieldLink RX8 123 "ConsonantIndexModel" "codeMany" "I", Cond.fieldLink RX8 36 "ConsonantIndexModel" "allCodes" "[J", Cond.fieldLink RX8 32 "ConsonantIndexModel" "codes" "[J", Cond.fieldLink RX8 42 "ConsonantIndexModel" "drawers" "[J", Cond.methodLink RX8 99 yX8_takeName, Cond.instanceMethod yX8_takeName, Cond.selects RX8 yX8_takeName yX8_takeName, Cond.code yX8_takeName cX8_takeName 3 none, Cond.fieldLink RX8 75 "ConsonantIndexModel" "wordLength" "I", Cond.fieldLink RX8 29 "ConsonantIndexModel" "word" "[I", Cond.methodLink RX8 78 yX8_lengthOf, Cond.instanceMethod yX8_lengthOf, Cond.selects RX8 yX8_lengthOf yX8_lengthOf, Cond.code yX8_lengthOf cX8_lengthOf 2 (some .int), Cond.methodLink RX8 82 yX8_letterOf, Cond.instanceMethod yX8_letterOf]
def wsX8_pairs_r2 : List Cond := [Cond.selects RX8 yX8_letterOf yX8_letterOf, Cond.code yX8_letterOf cX8_letterOf 3 (some .int), Cond.methodLink RX8 133 yX8_hearWord, Cond.instanceMethod yX8_hearWord, Cond.selects RX8 yX8_hearWord yX8_hearWord, Cond.code yX8_hearWord cX8_hearWord 7 none, Cond.methodLink RX8 126 yX8_codeBy, Cond.instanceMethod yX8_codeBy, Cond.selects RX8 yX8_codeBy yX8_codeBy, Cond.code yX8_codeBy cX8_codeBy 12 (some .long), Cond.constantLong RX8 119 (64), Cond.constantLong RX8 121 (1073741824), Cond.methodLink RX8 116 yX8_byHabit, Cond.instanceMethod yX8_byHabit, Cond.selects RX8 yX8_byHabit yX8_byHabit, Cond.code yX8_byHabit cX8_byHabit 5 (some .int), Cond.methodLink RX8 109 yX8_hasHabit, Cond.instanceMethod yX8_hasHabit, Cond.selects RX8 yX8_hasHabit yX8_hasHabit, Cond.code yX8_hasHabit cX8_hasHabit 3 (some .boolean), Cond.methodLink RX8 106 yX8_at, Cond.instanceMethod yX8_at, Cond.selects RX8 yX8_at yX8_at, Cond.code yX8_at cX8_at 3 (some .int)]
def wsX8_pairs_r3 : List Cond := [Cond.methodLink RX8 113 yX8_isBehindOne, Cond.instanceMethod yX8_isBehindOne, Cond.selects RX8 yX8_isBehindOne yX8_isBehindOne, Cond.code yX8_isBehindOne cX8_isBehindOne 3 (some .boolean), Cond.methodLink RX8 136 yX8_drawerWith, Cond.instanceMethod yX8_drawerWith, Cond.selects RX8 yX8_drawerWith yX8_drawerWith, Cond.code yX8_drawerWith cX8_drawerWith 5 (some .int), Cond.methodLink RX8 150 yX8_likeOnes, Cond.instanceMethod yX8_likeOnes, Cond.selects RX8 yX8_likeOnes yX8_likeOnes, Cond.code yX8_likeOnes cX8_likeOnes 4 (some .int), Cond.methodLink RX8 144 yX8_haveCommon, Cond.instanceMethod yX8_haveCommon, Cond.selects RX8 yX8_haveCommon yX8_haveCommon, Cond.code yX8_haveCommon cX8_haveCommon 5 (some .boolean), Cond.methodLink RX8 140 yX8_hasCode, Cond.instanceMethod yX8_hasCode, Cond.selects RX8 yX8_hasCode yX8_hasCode, Cond.code yX8_hasCode cX8_hasCode 6 (some .boolean), Cond.methodLink RX8 153 yX8_bits, Cond.static yX8_bits, Cond.code yX8_bits cX8_bits 3 (some .int)]
def wsX8_pairs : List Cond := .code yX8_pairs cX8_pairs 4 (some .int) :: ((wsX8_pairs_r1 ++ (wsX8_pairs_r2 ++ wsX8_pairs_r3)) ++ wsX80)
def wsX8_firstKind : List Cond := .code yX8_firstKind cX8_firstKind 1 (some .int) :: ([])
def wsX8_ear_r1 : List Cond := [Cond.fieldLink RX8 7 "ConsonantIndexModel" "z" "[I", Cond.methodLink RX8 156 yX8_isEar, Cond.instanceMethod yX8_isEar, Cond.selects RX8 yX8_isEar yX8_isEar, Cond.initialized RX8, Cond.code yX8_isEar cX8_isEar 2 (some .boolean), Cond.methodLink RX8 51 yX8_in, Cond.static yX8_in, Cond.code yX8_in cX8_in 3 (some .boolean), Cond.methodLink RX8 63 yX8_record, Cond.instanceMethod yX8_record, Cond.selects RX8 yX8_record yX8_record, Cond.code yX8_record cX8_record 2 none, Cond.fieldLink RX8 55 "ConsonantIndexModel" "states" "I", Cond.fieldLink RX8 16 "ConsonantIndexModel" "past" "[I", Cond.methodLink RX8 59 yX8_copyState, Cond.static yX8_copyState, Cond.code yX8_copyState cX8_copyState 5 none, Cond.methodLink RX8 106 yX8_at, Cond.instanceMethod yX8_at, Cond.selects RX8 yX8_at yX8_at, Cond.code yX8_at cX8_at 3 (some .int), Cond.methodLink RX8 159 yX8_lay, Cond.instanceMethod yX8_lay]
def wsX8_ear_r2 : List Cond := [Cond.selects RX8 yX8_lay yX8_lay, Cond.code yX8_lay cX8_lay 4 none, Cond.methodLink RX8 163 yX8_firstKind, Cond.static yX8_firstKind, Cond.code yX8_firstKind cX8_firstKind 1 (some .int)]
def wsX8_ear : List Cond := .code yX8_ear cX8_ear 4 (some .int) :: ((wsX8_ear_r1 ++ wsX8_ear_r2) ++ wsX80)
def wsX8_clean : List Cond := .code yX8_clean cX8_clean 3 none :: ([.methodLink RX8 106 yX8_at, .instanceMethod yX8_at, .selects RX8 yX8_at yX8_at, .initialized RX8, .code yX8_at cX8_at 3 (some .int), .fieldLink RX8 7 "ConsonantIndexModel" "z" "[I", .methodLink RX8 159 yX8_lay, .instanceMethod yX8_lay, .selects RX8 yX8_lay yX8_lay, .code yX8_lay cX8_lay 4 none] ++ wsX80)
def wsX8_hear_r1 : List Cond := [Cond.methodLink RX8 156 yX8_isEar, Cond.instanceMethod yX8_isEar, Cond.selects RX8 yX8_isEar yX8_isEar, Cond.initialized RX8, Cond.code yX8_isEar cX8_isEar 2 (some .boolean), Cond.fieldLink RX8 7 "ConsonantIndexModel" "z" "[I", Cond.methodLink RX8 51 yX8_in, Cond.static yX8_in, Cond.code yX8_in cX8_in 3 (some .boolean), Cond.methodLink RX8 166 yX8_isLetter, Cond.static yX8_isLetter, Cond.code yX8_isLetter cX8_isLetter 1 (some .boolean), Cond.methodLink RX8 169 yX8_isKind, Cond.static yX8_isKind, Cond.code yX8_isKind cX8_isKind 1 (some .boolean), Cond.methodLink RX8 63 yX8_record, Cond.instanceMethod yX8_record, Cond.selects RX8 yX8_record yX8_record, Cond.code yX8_record cX8_record 2 none, Cond.fieldLink RX8 55 "ConsonantIndexModel" "states" "I", Cond.fieldLink RX8 16 "ConsonantIndexModel" "past" "[I", Cond.methodLink RX8 59 yX8_copyState, Cond.static yX8_copyState, Cond.code yX8_copyState cX8_copyState 5 none]
def wsX8_hear_r2 : List Cond := [Cond.methodLink RX8 106 yX8_at, Cond.instanceMethod yX8_at, Cond.selects RX8 yX8_at yX8_at, Cond.code yX8_at cX8_at 3 (some .int), Cond.methodLink RX8 159 yX8_lay, Cond.instanceMethod yX8_lay, Cond.selects RX8 yX8_lay yX8_lay, Cond.code yX8_lay cX8_lay 4 none, Cond.methodLink RX8 172 yX8_clean, Cond.instanceMethod yX8_clean, Cond.selects RX8 yX8_clean yX8_clean, Cond.code yX8_clean cX8_clean 3 none]
def wsX8_hear : List Cond := .code yX8_hear cX8_hear 5 (some .int) :: ((wsX8_hear_r1 ++ wsX8_hear_r2) ++ wsX80)
def wsX8_secondOf : List Cond := .code yX8_secondOf cX8_secondOf 3 (some .int) :: ([.methodLink RX8 106 yX8_at, .instanceMethod yX8_at, .selects RX8 yX8_at yX8_at, .initialized RX8, .code yX8_at cX8_at 3 (some .int), .fieldLink RX8 7 "ConsonantIndexModel" "z" "[I"] ++ wsX80)
def wsX8_second_r1 : List Cond := [Cond.methodLink RX8 156 yX8_isEar, Cond.instanceMethod yX8_isEar, Cond.selects RX8 yX8_isEar yX8_isEar, Cond.initialized RX8, Cond.code yX8_isEar cX8_isEar 2 (some .boolean), Cond.fieldLink RX8 7 "ConsonantIndexModel" "z" "[I", Cond.methodLink RX8 51 yX8_in, Cond.static yX8_in, Cond.code yX8_in cX8_in 3 (some .boolean), Cond.methodLink RX8 166 yX8_isLetter, Cond.static yX8_isLetter, Cond.code yX8_isLetter cX8_isLetter 1 (some .boolean), Cond.methodLink RX8 169 yX8_isKind, Cond.static yX8_isKind, Cond.code yX8_isKind cX8_isKind 1 (some .boolean), Cond.methodLink RX8 106 yX8_at, Cond.instanceMethod yX8_at, Cond.selects RX8 yX8_at yX8_at, Cond.code yX8_at cX8_at 3 (some .int), Cond.methodLink RX8 63 yX8_record, Cond.instanceMethod yX8_record, Cond.selects RX8 yX8_record yX8_record, Cond.code yX8_record cX8_record 2 none, Cond.fieldLink RX8 55 "ConsonantIndexModel" "states" "I"]
def wsX8_second_r2 : List Cond := [Cond.fieldLink RX8 16 "ConsonantIndexModel" "past" "[I", Cond.methodLink RX8 59 yX8_copyState, Cond.static yX8_copyState, Cond.code yX8_copyState cX8_copyState 5 none, Cond.methodLink RX8 175 yX8_secondOf, Cond.instanceMethod yX8_secondOf, Cond.selects RX8 yX8_secondOf yX8_secondOf, Cond.code yX8_secondOf cX8_secondOf 3 (some .int), Cond.methodLink RX8 159 yX8_lay, Cond.instanceMethod yX8_lay, Cond.selects RX8 yX8_lay yX8_lay, Cond.code yX8_lay cX8_lay 4 none]
def wsX8_second : List Cond := .code yX8_second cX8_second 5 (some .int) :: ((wsX8_second_r1 ++ wsX8_second_r2) ++ wsX80)
def wsX8_habits_r1 : List Cond := [Cond.methodLink RX8 156 yX8_isEar, Cond.instanceMethod yX8_isEar, Cond.selects RX8 yX8_isEar yX8_isEar, Cond.initialized RX8, Cond.code yX8_isEar cX8_isEar 2 (some .boolean), Cond.fieldLink RX8 7 "ConsonantIndexModel" "z" "[I", Cond.methodLink RX8 51 yX8_in, Cond.static yX8_in, Cond.code yX8_in cX8_in 3 (some .boolean), Cond.methodLink RX8 63 yX8_record, Cond.instanceMethod yX8_record, Cond.selects RX8 yX8_record yX8_record, Cond.code yX8_record cX8_record 2 none, Cond.fieldLink RX8 55 "ConsonantIndexModel" "states" "I", Cond.fieldLink RX8 16 "ConsonantIndexModel" "past" "[I", Cond.methodLink RX8 59 yX8_copyState, Cond.static yX8_copyState, Cond.code yX8_copyState cX8_copyState 5 none, Cond.methodLink RX8 106 yX8_at, Cond.instanceMethod yX8_at, Cond.selects RX8 yX8_at yX8_at, Cond.code yX8_at cX8_at 3 (some .int), Cond.methodLink RX8 159 yX8_lay, Cond.instanceMethod yX8_lay]
def wsX8_habits_r2 : List Cond := [Cond.selects RX8 yX8_lay yX8_lay, Cond.code yX8_lay cX8_lay 4 none]
def wsX8_habits : List Cond := .code yX8_habits cX8_habits 4 (some .int) :: ((wsX8_habits_r1 ++ wsX8_habits_r2) ++ wsX80)
def wsX8_lettersOf : List Cond := .code yX8_lettersOf cX8_lettersOf 5 (some .int) :: ([.methodLink RX8 106 yX8_at, .instanceMethod yX8_at, .selects RX8 yX8_at yX8_at, .initialized RX8, .code yX8_at cX8_at 3 (some .int), .fieldLink RX8 7 "ConsonantIndexModel" "z" "[I"] ++ wsX80)
def wsX8_forgetOldest : List Cond := .code yX8_forgetOldest cX8_forgetOldest 3 none :: ([.methodLink RX8 106 yX8_at, .instanceMethod yX8_at, .selects RX8 yX8_at yX8_at, .initialized RX8, .code yX8_at cX8_at 3 (some .int), .fieldLink RX8 7 "ConsonantIndexModel" "z" "[I", .methodLink RX8 159 yX8_lay, .instanceMethod yX8_lay, .selects RX8 yX8_lay yX8_lay, .code yX8_lay cX8_lay 4 none] ++ wsX80)
def wsX8_mergeKinds : List Cond := .code yX8_mergeKinds cX8_mergeKinds 9 none :: ([.methodLink RX8 178 yX8_lettersOf, .instanceMethod yX8_lettersOf, .selects RX8 yX8_lettersOf yX8_lettersOf, .initialized RX8, .code yX8_lettersOf cX8_lettersOf 5 (some .int), .methodLink RX8 106 yX8_at, .instanceMethod yX8_at, .selects RX8 yX8_at yX8_at, .code yX8_at cX8_at 3 (some .int), .fieldLink RX8 7 "ConsonantIndexModel" "z" "[I", .methodLink RX8 159 yX8_lay, .instanceMethod yX8_lay, .selects RX8 yX8_lay yX8_lay, .code yX8_lay cX8_lay 4 none, .methodLink RX8 172 yX8_clean, .instanceMethod yX8_clean, .selects RX8 yX8_clean yX8_clean, .code yX8_clean cX8_clean 3 none, .methodLink RX8 181 yX8_forgetOldest, .instanceMethod yX8_forgetOldest, .selects RX8 yX8_forgetOldest yX8_forgetOldest, .code yX8_forgetOldest cX8_forgetOldest 3 none] ++ wsX80)
def wsX8_areKinds : List Cond := .code yX8_areKinds cX8_areKinds 2 (some .boolean) :: ([.methodLink RX8 169 yX8_isKind, .static yX8_isKind, .initialized RX8, .code yX8_isKind cX8_isKind 1 (some .boolean), .methodLink RX8 51 yX8_in, .static yX8_in, .code yX8_in cX8_in 3 (some .boolean)])
def wsX8_merge_r1 : List Cond := [Cond.methodLink RX8 156 yX8_isEar, Cond.instanceMethod yX8_isEar, Cond.selects RX8 yX8_isEar yX8_isEar, Cond.initialized RX8, Cond.code yX8_isEar cX8_isEar 2 (some .boolean), Cond.fieldLink RX8 7 "ConsonantIndexModel" "z" "[I", Cond.methodLink RX8 51 yX8_in, Cond.static yX8_in, Cond.code yX8_in cX8_in 3 (some .boolean), Cond.methodLink RX8 184 yX8_areKinds, Cond.static yX8_areKinds, Cond.code yX8_areKinds cX8_areKinds 2 (some .boolean), Cond.methodLink RX8 169 yX8_isKind, Cond.static yX8_isKind, Cond.code yX8_isKind cX8_isKind 1 (some .boolean), Cond.methodLink RX8 63 yX8_record, Cond.instanceMethod yX8_record, Cond.selects RX8 yX8_record yX8_record, Cond.code yX8_record cX8_record 2 none, Cond.fieldLink RX8 55 "ConsonantIndexModel" "states" "I", Cond.fieldLink RX8 16 "ConsonantIndexModel" "past" "[I", Cond.methodLink RX8 59 yX8_copyState, Cond.static yX8_copyState, Cond.code yX8_copyState cX8_copyState 5 none]
def wsX8_merge_r2 : List Cond := [Cond.methodLink RX8 187 yX8_mergeKinds, Cond.instanceMethod yX8_mergeKinds, Cond.selects RX8 yX8_mergeKinds yX8_mergeKinds, Cond.code yX8_mergeKinds cX8_mergeKinds 9 none, Cond.methodLink RX8 178 yX8_lettersOf, Cond.instanceMethod yX8_lettersOf, Cond.selects RX8 yX8_lettersOf yX8_lettersOf, Cond.code yX8_lettersOf cX8_lettersOf 5 (some .int), Cond.methodLink RX8 106 yX8_at, Cond.instanceMethod yX8_at, Cond.selects RX8 yX8_at yX8_at, Cond.code yX8_at cX8_at 3 (some .int), Cond.methodLink RX8 159 yX8_lay, Cond.instanceMethod yX8_lay, Cond.selects RX8 yX8_lay yX8_lay, Cond.code yX8_lay cX8_lay 4 none, Cond.methodLink RX8 172 yX8_clean, Cond.instanceMethod yX8_clean, Cond.selects RX8 yX8_clean yX8_clean, Cond.code yX8_clean cX8_clean 3 none, Cond.methodLink RX8 181 yX8_forgetOldest, Cond.instanceMethod yX8_forgetOldest, Cond.selects RX8 yX8_forgetOldest yX8_forgetOldest, Cond.code yX8_forgetOldest cX8_forgetOldest 3 none]
def wsX8_merge_r3 : List Cond := [Cond.methodLink RX8 153 yX8_bits, Cond.static yX8_bits, Cond.code yX8_bits cX8_bits 3 (some .int)]
def wsX8_merge : List Cond := .code yX8_merge cX8_merge 4 (some .int) :: ((wsX8_merge_r1 ++ (wsX8_merge_r2 ++ wsX8_merge_r3)) ++ wsX80)
def wsX8_split_r1 : List Cond := [Cond.methodLink RX8 156 yX8_isEar, Cond.instanceMethod yX8_isEar, Cond.selects RX8 yX8_isEar yX8_isEar, Cond.initialized RX8, Cond.code yX8_isEar cX8_isEar 2 (some .boolean), Cond.fieldLink RX8 7 "ConsonantIndexModel" "z" "[I", Cond.methodLink RX8 51 yX8_in, Cond.static yX8_in, Cond.code yX8_in cX8_in 3 (some .boolean), Cond.methodLink RX8 106 yX8_at, Cond.instanceMethod yX8_at, Cond.selects RX8 yX8_at yX8_at, Cond.code yX8_at cX8_at 3 (some .int), Cond.methodLink RX8 63 yX8_record, Cond.instanceMethod yX8_record, Cond.selects RX8 yX8_record yX8_record, Cond.code yX8_record cX8_record 2 none, Cond.fieldLink RX8 55 "ConsonantIndexModel" "states" "I", Cond.fieldLink RX8 16 "ConsonantIndexModel" "past" "[I", Cond.methodLink RX8 59 yX8_copyState, Cond.static yX8_copyState, Cond.code yX8_copyState cX8_copyState 5 none, Cond.methodLink RX8 159 yX8_lay, Cond.instanceMethod yX8_lay]
def wsX8_split_r2 : List Cond := [Cond.selects RX8 yX8_lay yX8_lay, Cond.code yX8_lay cX8_lay 4 none, Cond.methodLink RX8 172 yX8_clean, Cond.instanceMethod yX8_clean, Cond.selects RX8 yX8_clean yX8_clean, Cond.code yX8_clean cX8_clean 3 none]
def wsX8_split : List Cond := .code yX8_split cX8_split 8 (some .int) :: ((wsX8_split_r1 ++ wsX8_split_r2) ++ wsX80)
def wsX8_letterSet : List Cond := .code yX8_letterSet cX8_letterSet 4 (some .int) :: ([.methodLink RX8 78 yX8_lengthOf, .instanceMethod yX8_lengthOf, .selects RX8 yX8_lengthOf yX8_lengthOf, .initialized RX8, .code yX8_lengthOf cX8_lengthOf 2 (some .int), .fieldLink RX8 7 "ConsonantIndexModel" "z" "[I", .methodLink RX8 82 yX8_letterOf, .instanceMethod yX8_letterOf, .selects RX8 yX8_letterOf yX8_letterOf, .code yX8_letterOf cX8_letterOf 3 (some .int)] ++ wsX80)
def wsX8_name : List Cond := .code yX8_name cX8_name 3 (some .int) :: ([.methodLink RX8 93 yX8_isName, .instanceMethod yX8_isName, .selects RX8 yX8_isName yX8_isName, .initialized RX8, .code yX8_isName cX8_isName 2 (some .boolean), .fieldLink RX8 7 "ConsonantIndexModel" "z" "[I", .methodLink RX8 51 yX8_in, .static yX8_in, .code yX8_in cX8_in 3 (some .boolean), .methodLink RX8 78 yX8_lengthOf, .instanceMethod yX8_lengthOf, .selects RX8 yX8_lengthOf yX8_lengthOf, .code yX8_lengthOf cX8_lengthOf 2 (some .int), .methodLink RX8 190 yX8_letterSet, .instanceMethod yX8_letterSet, .selects RX8 yX8_letterSet yX8_letterSet, .code yX8_letterSet cX8_letterSet 4 (some .int), .methodLink RX8 82 yX8_letterOf, .instanceMethod yX8_letterOf, .selects RX8 yX8_letterOf yX8_letterOf, .code yX8_letterOf cX8_letterOf 3 (some .int)] ++ wsX80)
def wsX8_of : List Cond := .code yX8_of cX8_of 5 (some .int) :: ([.methodLink RX8 156 yX8_isEar, .instanceMethod yX8_isEar, .selects RX8 yX8_isEar yX8_isEar, .initialized RX8, .code yX8_isEar cX8_isEar 2 (some .boolean), .fieldLink RX8 7 "ConsonantIndexModel" "z" "[I", .methodLink RX8 51 yX8_in, .static yX8_in, .code yX8_in cX8_in 3 (some .boolean), .methodLink RX8 166 yX8_isLetter, .static yX8_isLetter, .code yX8_isLetter cX8_isLetter 1 (some .boolean), .methodLink RX8 106 yX8_at, .instanceMethod yX8_at, .selects RX8 yX8_at yX8_at, .code yX8_at cX8_at 3 (some .int), .methodLink RX8 175 yX8_secondOf, .instanceMethod yX8_secondOf, .selects RX8 yX8_secondOf yX8_secondOf, .code yX8_secondOf cX8_secondOf 3 (some .int), .methodLink RX8 178 yX8_lettersOf, .instanceMethod yX8_lettersOf, .selects RX8 yX8_lettersOf yX8_lettersOf, .code yX8_lettersOf cX8_lettersOf 5 (some .int)] ++ wsX80)
def wsX8_fullest : List Cond := .code yX8_fullest cX8_fullest 4 (some .int) :: ([.fieldLink RX8 130 "ConsonantIndexModel" "drawerMany" "I", .fieldLink RX8 42 "ConsonantIndexModel" "drawers" "[J", .methodLink RX8 193 yX8_namesWith, .instanceMethod yX8_namesWith, .selects RX8 yX8_namesWith yX8_namesWith, .initialized RX8, .code yX8_namesWith cX8_namesWith 5 (some .int), .fieldLink RX8 7 "ConsonantIndexModel" "z" "[I", .methodLink RX8 140 yX8_hasCode, .instanceMethod yX8_hasCode, .selects RX8 yX8_hasCode yX8_hasCode, .code yX8_hasCode cX8_hasCode 6 (some .boolean), .fieldLink RX8 39 "ConsonantIndexModel" "allMany" "[I", .fieldLink RX8 36 "ConsonantIndexModel" "allCodes" "[J", .methodLink RX8 153 yX8_bits, .static yX8_bits, .code yX8_bits cX8_bits 3 (some .int)] ++ wsX80)
def wsX8_namesInTwo : List Cond := .code yX8_namesInTwo cX8_namesInTwo 3 (some .int) :: ([.fieldLink RX8 7 "ConsonantIndexModel" "z" "[I", .fieldLink RX8 39 "ConsonantIndexModel" "allMany" "[I"] ++ wsX80)
def wsX8_lettersWithSecond : List Cond := .code yX8_lettersWithSecond cX8_lettersWithSecond 4 (some .int) :: ([.methodLink RX8 106 yX8_at, .instanceMethod yX8_at, .selects RX8 yX8_at yX8_at, .initialized RX8, .code yX8_at cX8_at 3 (some .int), .fieldLink RX8 7 "ConsonantIndexModel" "z" "[I"] ++ wsX80)
def wsX8_ofEar_r1 : List Cond := [Cond.fieldLink RX8 130 "ConsonantIndexModel" "drawerMany" "I", Cond.methodLink RX8 156 yX8_isEar, Cond.instanceMethod yX8_isEar, Cond.selects RX8 yX8_isEar yX8_isEar, Cond.initialized RX8, Cond.code yX8_isEar cX8_isEar 2 (some .boolean), Cond.fieldLink RX8 7 "ConsonantIndexModel" "z" "[I", Cond.methodLink RX8 51 yX8_in, Cond.static yX8_in, Cond.code yX8_in cX8_in 3 (some .boolean), Cond.methodLink RX8 147 yX8_hearAll, Cond.instanceMethod yX8_hearAll, Cond.selects RX8 yX8_hearAll yX8_hearAll, Cond.code yX8_hearAll cX8_hearAll 4 none, Cond.fieldLink RX8 39 "ConsonantIndexModel" "allMany" "[I", Cond.fieldLink RX8 123 "ConsonantIndexModel" "codeMany" "I", Cond.fieldLink RX8 36 "ConsonantIndexModel" "allCodes" "[J", Cond.fieldLink RX8 32 "ConsonantIndexModel" "codes" "[J", Cond.fieldLink RX8 42 "ConsonantIndexModel" "drawers" "[J", Cond.methodLink RX8 99 yX8_takeName, Cond.instanceMethod yX8_takeName, Cond.selects RX8 yX8_takeName yX8_takeName, Cond.code yX8_takeName cX8_takeName 3 none, Cond.fieldLink RX8 75 "ConsonantIndexModel" "wordLength" "I"]
def wsX8_ofEar_r2 : List Cond := [Cond.fieldLink RX8 29 "ConsonantIndexModel" "word" "[I", Cond.methodLink RX8 78 yX8_lengthOf, Cond.instanceMethod yX8_lengthOf, Cond.selects RX8 yX8_lengthOf yX8_lengthOf, Cond.code yX8_lengthOf cX8_lengthOf 2 (some .int), Cond.methodLink RX8 82 yX8_letterOf, Cond.instanceMethod yX8_letterOf, Cond.selects RX8 yX8_letterOf yX8_letterOf, Cond.code yX8_letterOf cX8_letterOf 3 (some .int), Cond.methodLink RX8 133 yX8_hearWord, Cond.instanceMethod yX8_hearWord, Cond.selects RX8 yX8_hearWord yX8_hearWord, Cond.code yX8_hearWord cX8_hearWord 7 none, Cond.methodLink RX8 126 yX8_codeBy, Cond.instanceMethod yX8_codeBy, Cond.selects RX8 yX8_codeBy yX8_codeBy, Cond.code yX8_codeBy cX8_codeBy 12 (some .long), Cond.constantLong RX8 119 (64), Cond.constantLong RX8 121 (1073741824), Cond.methodLink RX8 116 yX8_byHabit, Cond.instanceMethod yX8_byHabit, Cond.selects RX8 yX8_byHabit yX8_byHabit, Cond.code yX8_byHabit cX8_byHabit 5 (some .int), Cond.methodLink RX8 109 yX8_hasHabit]
def wsX8_ofEar_r3 : List Cond := [Cond.instanceMethod yX8_hasHabit, Cond.selects RX8 yX8_hasHabit yX8_hasHabit, Cond.code yX8_hasHabit cX8_hasHabit 3 (some .boolean), Cond.methodLink RX8 106 yX8_at, Cond.instanceMethod yX8_at, Cond.selects RX8 yX8_at yX8_at, Cond.code yX8_at cX8_at 3 (some .int), Cond.methodLink RX8 113 yX8_isBehindOne, Cond.instanceMethod yX8_isBehindOne, Cond.selects RX8 yX8_isBehindOne yX8_isBehindOne, Cond.code yX8_isBehindOne cX8_isBehindOne 3 (some .boolean), Cond.methodLink RX8 136 yX8_drawerWith, Cond.instanceMethod yX8_drawerWith, Cond.selects RX8 yX8_drawerWith yX8_drawerWith, Cond.code yX8_drawerWith cX8_drawerWith 5 (some .int), Cond.methodLink RX8 196 yX8_fullest, Cond.instanceMethod yX8_fullest, Cond.selects RX8 yX8_fullest yX8_fullest, Cond.code yX8_fullest cX8_fullest 4 (some .int), Cond.methodLink RX8 193 yX8_namesWith, Cond.instanceMethod yX8_namesWith, Cond.selects RX8 yX8_namesWith yX8_namesWith, Cond.code yX8_namesWith cX8_namesWith 5 (some .int), Cond.methodLink RX8 140 yX8_hasCode]
def wsX8_ofEar_r4 : List Cond := [Cond.instanceMethod yX8_hasCode, Cond.selects RX8 yX8_hasCode yX8_hasCode, Cond.code yX8_hasCode cX8_hasCode 6 (some .boolean), Cond.methodLink RX8 153 yX8_bits, Cond.static yX8_bits, Cond.code yX8_bits cX8_bits 3 (some .int), Cond.methodLink RX8 199 yX8_namesInTwo, Cond.instanceMethod yX8_namesInTwo, Cond.selects RX8 yX8_namesInTwo yX8_namesInTwo, Cond.code yX8_namesInTwo cX8_namesInTwo 3 (some .int), Cond.methodLink RX8 202 yX8_pairs, Cond.instanceMethod yX8_pairs, Cond.selects RX8 yX8_pairs yX8_pairs, Cond.code yX8_pairs cX8_pairs 4 (some .int), Cond.methodLink RX8 150 yX8_likeOnes, Cond.instanceMethod yX8_likeOnes, Cond.selects RX8 yX8_likeOnes yX8_likeOnes, Cond.code yX8_likeOnes cX8_likeOnes 4 (some .int), Cond.methodLink RX8 144 yX8_haveCommon, Cond.instanceMethod yX8_haveCommon, Cond.selects RX8 yX8_haveCommon yX8_haveCommon, Cond.code yX8_haveCommon cX8_haveCommon 5 (some .boolean), Cond.methodLink RX8 205 yX8_lettersWithSecond, Cond.instanceMethod yX8_lettersWithSecond]
def wsX8_ofEar_r5 : List Cond := [Cond.selects RX8 yX8_lettersWithSecond yX8_lettersWithSecond, Cond.code yX8_lettersWithSecond cX8_lettersWithSecond 4 (some .int), Cond.methodLink RX8 178 yX8_lettersOf, Cond.instanceMethod yX8_lettersOf, Cond.selects RX8 yX8_lettersOf yX8_lettersOf, Cond.code yX8_lettersOf cX8_lettersOf 5 (some .int)]
def wsX8_ofEar : List Cond := .code yX8_ofEar cX8_ofEar 3 (some .int) :: ((wsX8_ofEar_r1 ++ (wsX8_ofEar_r2 ++ (wsX8_ofEar_r3 ++ (wsX8_ofEar_r4 ++ wsX8_ofEar_r5)))) ++ wsX80)
def wsX8_lengthOfCode : List Cond := .code yX8_lengthOfCode cX8_lengthOfCode 2 (some .int) :: ([.constantLong RX8 121 (1073741824)])
def wsX8_numberOf : List Cond := .code yX8_numberOf cX8_numberOf 3 (some .int) :: ([.constantLong RX8 208 (63)])
def wsX8_code_r1 : List Cond := [Cond.fieldLink RX8 39 "ConsonantIndexModel" "allMany" "[I", Cond.fieldLink RX8 36 "ConsonantIndexModel" "allCodes" "[J", Cond.methodLink RX8 156 yX8_isEar, Cond.instanceMethod yX8_isEar, Cond.selects RX8 yX8_isEar yX8_isEar, Cond.initialized RX8, Cond.code yX8_isEar cX8_isEar 2 (some .boolean), Cond.fieldLink RX8 7 "ConsonantIndexModel" "z" "[I", Cond.methodLink RX8 51 yX8_in, Cond.static yX8_in, Cond.code yX8_in cX8_in 3 (some .boolean), Cond.methodLink RX8 93 yX8_isName, Cond.instanceMethod yX8_isName, Cond.selects RX8 yX8_isName yX8_isName, Cond.code yX8_isName cX8_isName 2 (some .boolean), Cond.methodLink RX8 147 yX8_hearAll, Cond.instanceMethod yX8_hearAll, Cond.selects RX8 yX8_hearAll yX8_hearAll, Cond.code yX8_hearAll cX8_hearAll 4 none, Cond.fieldLink RX8 130 "ConsonantIndexModel" "drawerMany" "I", Cond.fieldLink RX8 123 "ConsonantIndexModel" "codeMany" "I", Cond.fieldLink RX8 32 "ConsonantIndexModel" "codes" "[J", Cond.fieldLink RX8 42 "ConsonantIndexModel" "drawers" "[J", Cond.methodLink RX8 99 yX8_takeName]
def wsX8_code_r2 : List Cond := [Cond.instanceMethod yX8_takeName, Cond.selects RX8 yX8_takeName yX8_takeName, Cond.code yX8_takeName cX8_takeName 3 none, Cond.fieldLink RX8 75 "ConsonantIndexModel" "wordLength" "I", Cond.fieldLink RX8 29 "ConsonantIndexModel" "word" "[I", Cond.methodLink RX8 78 yX8_lengthOf, Cond.instanceMethod yX8_lengthOf, Cond.selects RX8 yX8_lengthOf yX8_lengthOf, Cond.code yX8_lengthOf cX8_lengthOf 2 (some .int), Cond.methodLink RX8 82 yX8_letterOf, Cond.instanceMethod yX8_letterOf, Cond.selects RX8 yX8_letterOf yX8_letterOf, Cond.code yX8_letterOf cX8_letterOf 3 (some .int), Cond.methodLink RX8 133 yX8_hearWord, Cond.instanceMethod yX8_hearWord, Cond.selects RX8 yX8_hearWord yX8_hearWord, Cond.code yX8_hearWord cX8_hearWord 7 none, Cond.methodLink RX8 126 yX8_codeBy, Cond.instanceMethod yX8_codeBy, Cond.selects RX8 yX8_codeBy yX8_codeBy, Cond.code yX8_codeBy cX8_codeBy 12 (some .long), Cond.constantLong RX8 119 (64), Cond.constantLong RX8 121 (1073741824), Cond.methodLink RX8 116 yX8_byHabit]
def wsX8_code_r3 : List Cond := [Cond.instanceMethod yX8_byHabit, Cond.selects RX8 yX8_byHabit yX8_byHabit, Cond.code yX8_byHabit cX8_byHabit 5 (some .int), Cond.methodLink RX8 109 yX8_hasHabit, Cond.instanceMethod yX8_hasHabit, Cond.selects RX8 yX8_hasHabit yX8_hasHabit, Cond.code yX8_hasHabit cX8_hasHabit 3 (some .boolean), Cond.methodLink RX8 106 yX8_at, Cond.instanceMethod yX8_at, Cond.selects RX8 yX8_at yX8_at, Cond.code yX8_at cX8_at 3 (some .int), Cond.methodLink RX8 113 yX8_isBehindOne, Cond.instanceMethod yX8_isBehindOne, Cond.selects RX8 yX8_isBehindOne yX8_isBehindOne, Cond.code yX8_isBehindOne cX8_isBehindOne 3 (some .boolean), Cond.methodLink RX8 136 yX8_drawerWith, Cond.instanceMethod yX8_drawerWith, Cond.selects RX8 yX8_drawerWith yX8_drawerWith, Cond.code yX8_drawerWith cX8_drawerWith 5 (some .int), Cond.methodLink RX8 210 yX8_lengthOfCode, Cond.static yX8_lengthOfCode, Cond.code yX8_lengthOfCode cX8_lengthOfCode 2 (some .int), Cond.methodLink RX8 213 yX8_numberOf, Cond.static yX8_numberOf]
def wsX8_code_r4 : List Cond := [Cond.code yX8_numberOf cX8_numberOf 3 (some .int), Cond.constantLong RX8 208 (63)]
def wsX8_code : List Cond := .code yX8_code cX8_code 7 (some .int) :: ((wsX8_code_r1 ++ (wsX8_code_r2 ++ (wsX8_code_r3 ++ wsX8_code_r4))) ++ wsX80)
def wsX8_codeAt : List Cond := .code yX8_codeAt cX8_codeAt 7 (some .long) :: ([.fieldLink RX8 130 "ConsonantIndexModel" "drawerMany" "I", .fieldLink RX8 42 "ConsonantIndexModel" "drawers" "[J"] ++ wsX80)
def wsX8_drawer_r1 : List Cond := [Cond.fieldLink RX8 130 "ConsonantIndexModel" "drawerMany" "I", Cond.fieldLink RX8 42 "ConsonantIndexModel" "drawers" "[J", Cond.methodLink RX8 156 yX8_isEar, Cond.instanceMethod yX8_isEar, Cond.selects RX8 yX8_isEar yX8_isEar, Cond.initialized RX8, Cond.code yX8_isEar cX8_isEar 2 (some .boolean), Cond.fieldLink RX8 7 "ConsonantIndexModel" "z" "[I", Cond.methodLink RX8 51 yX8_in, Cond.static yX8_in, Cond.code yX8_in cX8_in 3 (some .boolean), Cond.methodLink RX8 147 yX8_hearAll, Cond.instanceMethod yX8_hearAll, Cond.selects RX8 yX8_hearAll yX8_hearAll, Cond.code yX8_hearAll cX8_hearAll 4 none, Cond.fieldLink RX8 39 "ConsonantIndexModel" "allMany" "[I", Cond.fieldLink RX8 123 "ConsonantIndexModel" "codeMany" "I", Cond.fieldLink RX8 36 "ConsonantIndexModel" "allCodes" "[J", Cond.fieldLink RX8 32 "ConsonantIndexModel" "codes" "[J", Cond.methodLink RX8 99 yX8_takeName, Cond.instanceMethod yX8_takeName, Cond.selects RX8 yX8_takeName yX8_takeName, Cond.code yX8_takeName cX8_takeName 3 none, Cond.fieldLink RX8 75 "ConsonantIndexModel" "wordLength" "I"]
def wsX8_drawer_r2 : List Cond := [Cond.fieldLink RX8 29 "ConsonantIndexModel" "word" "[I", Cond.methodLink RX8 78 yX8_lengthOf, Cond.instanceMethod yX8_lengthOf, Cond.selects RX8 yX8_lengthOf yX8_lengthOf, Cond.code yX8_lengthOf cX8_lengthOf 2 (some .int), Cond.methodLink RX8 82 yX8_letterOf, Cond.instanceMethod yX8_letterOf, Cond.selects RX8 yX8_letterOf yX8_letterOf, Cond.code yX8_letterOf cX8_letterOf 3 (some .int), Cond.methodLink RX8 133 yX8_hearWord, Cond.instanceMethod yX8_hearWord, Cond.selects RX8 yX8_hearWord yX8_hearWord, Cond.code yX8_hearWord cX8_hearWord 7 none, Cond.methodLink RX8 126 yX8_codeBy, Cond.instanceMethod yX8_codeBy, Cond.selects RX8 yX8_codeBy yX8_codeBy, Cond.code yX8_codeBy cX8_codeBy 12 (some .long), Cond.constantLong RX8 119 (64), Cond.constantLong RX8 121 (1073741824), Cond.methodLink RX8 116 yX8_byHabit, Cond.instanceMethod yX8_byHabit, Cond.selects RX8 yX8_byHabit yX8_byHabit, Cond.code yX8_byHabit cX8_byHabit 5 (some .int), Cond.methodLink RX8 109 yX8_hasHabit]
def wsX8_drawer_r3 : List Cond := [Cond.instanceMethod yX8_hasHabit, Cond.selects RX8 yX8_hasHabit yX8_hasHabit, Cond.code yX8_hasHabit cX8_hasHabit 3 (some .boolean), Cond.methodLink RX8 106 yX8_at, Cond.instanceMethod yX8_at, Cond.selects RX8 yX8_at yX8_at, Cond.code yX8_at cX8_at 3 (some .int), Cond.methodLink RX8 113 yX8_isBehindOne, Cond.instanceMethod yX8_isBehindOne, Cond.selects RX8 yX8_isBehindOne yX8_isBehindOne, Cond.code yX8_isBehindOne cX8_isBehindOne 3 (some .boolean), Cond.methodLink RX8 136 yX8_drawerWith, Cond.instanceMethod yX8_drawerWith, Cond.selects RX8 yX8_drawerWith yX8_drawerWith, Cond.code yX8_drawerWith cX8_drawerWith 5 (some .int), Cond.methodLink RX8 217 yX8_codeAt, Cond.instanceMethod yX8_codeAt, Cond.selects RX8 yX8_codeAt yX8_codeAt, Cond.code yX8_codeAt cX8_codeAt 7 (some .long), Cond.methodLink RX8 193 yX8_namesWith, Cond.instanceMethod yX8_namesWith, Cond.selects RX8 yX8_namesWith yX8_namesWith, Cond.code yX8_namesWith cX8_namesWith 5 (some .int), Cond.methodLink RX8 140 yX8_hasCode]
def wsX8_drawer_r4 : List Cond := [Cond.instanceMethod yX8_hasCode, Cond.selects RX8 yX8_hasCode yX8_hasCode, Cond.code yX8_hasCode cX8_hasCode 6 (some .boolean)]
def wsX8_drawer : List Cond := .code yX8_drawer cX8_drawer 4 (some .int) :: ((wsX8_drawer_r1 ++ (wsX8_drawer_r2 ++ (wsX8_drawer_r3 ++ wsX8_drawer_r4))) ++ wsX80)
def wsX8_count : List Cond := .code yX8_count cX8_count 4 (some .int) :: ([.fieldLink RX8 7 "ConsonantIndexModel" "z" "[I", .fieldLink RX8 68 "ConsonantIndexModel" "typed" "I", .fieldLink RX8 55 "ConsonantIndexModel" "states" "I", .methodLink RX8 190 yX8_letterSet, .instanceMethod yX8_letterSet, .selects RX8 yX8_letterSet yX8_letterSet, .initialized RX8, .code yX8_letterSet cX8_letterSet 4 (some .int), .methodLink RX8 78 yX8_lengthOf, .instanceMethod yX8_lengthOf, .selects RX8 yX8_lengthOf yX8_lengthOf, .code yX8_lengthOf cX8_lengthOf 2 (some .int), .methodLink RX8 82 yX8_letterOf, .instanceMethod yX8_letterOf, .selects RX8 yX8_letterOf yX8_letterOf, .code yX8_letterOf cX8_letterOf 3 (some .int)] ++ wsX80)
def wsX8_alike_r1 : List Cond := [Cond.methodLink RX8 156 yX8_isEar, Cond.instanceMethod yX8_isEar, Cond.selects RX8 yX8_isEar yX8_isEar, Cond.initialized RX8, Cond.code yX8_isEar cX8_isEar 2 (some .boolean), Cond.fieldLink RX8 7 "ConsonantIndexModel" "z" "[I", Cond.methodLink RX8 51 yX8_in, Cond.static yX8_in, Cond.code yX8_in cX8_in 3 (some .boolean), Cond.methodLink RX8 93 yX8_isName, Cond.instanceMethod yX8_isName, Cond.selects RX8 yX8_isName yX8_isName, Cond.code yX8_isName cX8_isName 2 (some .boolean), Cond.methodLink RX8 147 yX8_hearAll, Cond.instanceMethod yX8_hearAll, Cond.selects RX8 yX8_hearAll yX8_hearAll, Cond.code yX8_hearAll cX8_hearAll 4 none, Cond.fieldLink RX8 130 "ConsonantIndexModel" "drawerMany" "I", Cond.fieldLink RX8 39 "ConsonantIndexModel" "allMany" "[I", Cond.fieldLink RX8 123 "ConsonantIndexModel" "codeMany" "I", Cond.fieldLink RX8 36 "ConsonantIndexModel" "allCodes" "[J", Cond.fieldLink RX8 32 "ConsonantIndexModel" "codes" "[J", Cond.fieldLink RX8 42 "ConsonantIndexModel" "drawers" "[J", Cond.methodLink RX8 99 yX8_takeName]
def wsX8_alike_r2 : List Cond := [Cond.instanceMethod yX8_takeName, Cond.selects RX8 yX8_takeName yX8_takeName, Cond.code yX8_takeName cX8_takeName 3 none, Cond.fieldLink RX8 75 "ConsonantIndexModel" "wordLength" "I", Cond.fieldLink RX8 29 "ConsonantIndexModel" "word" "[I", Cond.methodLink RX8 78 yX8_lengthOf, Cond.instanceMethod yX8_lengthOf, Cond.selects RX8 yX8_lengthOf yX8_lengthOf, Cond.code yX8_lengthOf cX8_lengthOf 2 (some .int), Cond.methodLink RX8 82 yX8_letterOf, Cond.instanceMethod yX8_letterOf, Cond.selects RX8 yX8_letterOf yX8_letterOf, Cond.code yX8_letterOf cX8_letterOf 3 (some .int), Cond.methodLink RX8 133 yX8_hearWord, Cond.instanceMethod yX8_hearWord, Cond.selects RX8 yX8_hearWord yX8_hearWord, Cond.code yX8_hearWord cX8_hearWord 7 none, Cond.methodLink RX8 126 yX8_codeBy, Cond.instanceMethod yX8_codeBy, Cond.selects RX8 yX8_codeBy yX8_codeBy, Cond.code yX8_codeBy cX8_codeBy 12 (some .long), Cond.constantLong RX8 119 (64), Cond.constantLong RX8 121 (1073741824), Cond.methodLink RX8 116 yX8_byHabit]
def wsX8_alike_r3 : List Cond := [Cond.instanceMethod yX8_byHabit, Cond.selects RX8 yX8_byHabit yX8_byHabit, Cond.code yX8_byHabit cX8_byHabit 5 (some .int), Cond.methodLink RX8 109 yX8_hasHabit, Cond.instanceMethod yX8_hasHabit, Cond.selects RX8 yX8_hasHabit yX8_hasHabit, Cond.code yX8_hasHabit cX8_hasHabit 3 (some .boolean), Cond.methodLink RX8 106 yX8_at, Cond.instanceMethod yX8_at, Cond.selects RX8 yX8_at yX8_at, Cond.code yX8_at cX8_at 3 (some .int), Cond.methodLink RX8 113 yX8_isBehindOne, Cond.instanceMethod yX8_isBehindOne, Cond.selects RX8 yX8_isBehindOne yX8_isBehindOne, Cond.code yX8_isBehindOne cX8_isBehindOne 3 (some .boolean), Cond.methodLink RX8 136 yX8_drawerWith, Cond.instanceMethod yX8_drawerWith, Cond.selects RX8 yX8_drawerWith yX8_drawerWith, Cond.code yX8_drawerWith cX8_drawerWith 5 (some .int), Cond.methodLink RX8 144 yX8_haveCommon, Cond.instanceMethod yX8_haveCommon, Cond.selects RX8 yX8_haveCommon yX8_haveCommon, Cond.code yX8_haveCommon cX8_haveCommon 5 (some .boolean), Cond.methodLink RX8 140 yX8_hasCode]
def wsX8_alike_r4 : List Cond := [Cond.instanceMethod yX8_hasCode, Cond.selects RX8 yX8_hasCode yX8_hasCode, Cond.code yX8_hasCode cX8_hasCode 6 (some .boolean)]
def wsX8_alike : List Cond := .code yX8_alike cX8_alike 4 (some .int) :: ((wsX8_alike_r1 ++ (wsX8_alike_r2 ++ (wsX8_alike_r3 ++ wsX8_alike_r4))) ++ wsX80)
def wsX8_isLikeWord : List Cond := .code yX8_isLikeWord cX8_isLikeWord 4 (some .boolean) :: ([.fieldLink RX8 123 "ConsonantIndexModel" "codeMany" "I", .fieldLink RX8 32 "ConsonantIndexModel" "codes" "[J", .methodLink RX8 140 yX8_hasCode, .instanceMethod yX8_hasCode, .selects RX8 yX8_hasCode yX8_hasCode, .initialized RX8, .code yX8_hasCode cX8_hasCode 6 (some .boolean), .fieldLink RX8 39 "ConsonantIndexModel" "allMany" "[I", .fieldLink RX8 36 "ConsonantIndexModel" "allCodes" "[J"] ++ wsX80)
def wsX8_aheadOf_r1 : List Cond := [Cond.fieldLink RX8 7 "ConsonantIndexModel" "z" "[I", Cond.methodLink RX8 103 yX8_distanceTo, Cond.instanceMethod yX8_distanceTo, Cond.selects RX8 yX8_distanceTo yX8_distanceTo, Cond.initialized RX8, Cond.code yX8_distanceTo cX8_distanceTo 7 (some .int), Cond.fieldLink RX8 45 "ConsonantIndexModel" "row" "[I", Cond.fieldLink RX8 75 "ConsonantIndexModel" "wordLength" "I", Cond.fieldLink RX8 29 "ConsonantIndexModel" "word" "[I", Cond.methodLink RX8 78 yX8_lengthOf, Cond.instanceMethod yX8_lengthOf, Cond.selects RX8 yX8_lengthOf yX8_lengthOf, Cond.code yX8_lengthOf cX8_lengthOf 2 (some .int), Cond.methodLink RX8 82 yX8_letterOf, Cond.instanceMethod yX8_letterOf, Cond.selects RX8 yX8_letterOf yX8_letterOf, Cond.code yX8_letterOf cX8_letterOf 3 (some .int), Cond.methodLink RX8 96 yX8_least, Cond.static yX8_least, Cond.code yX8_least cX8_least 2 (some .int), Cond.methodLink RX8 221 yX8_isLikeWord, Cond.instanceMethod yX8_isLikeWord, Cond.selects RX8 yX8_isLikeWord yX8_isLikeWord, Cond.code yX8_isLikeWord cX8_isLikeWord 4 (some .boolean)]
def wsX8_aheadOf_r2 : List Cond := [Cond.fieldLink RX8 123 "ConsonantIndexModel" "codeMany" "I", Cond.fieldLink RX8 32 "ConsonantIndexModel" "codes" "[J", Cond.methodLink RX8 140 yX8_hasCode, Cond.instanceMethod yX8_hasCode, Cond.selects RX8 yX8_hasCode yX8_hasCode, Cond.code yX8_hasCode cX8_hasCode 6 (some .boolean), Cond.fieldLink RX8 39 "ConsonantIndexModel" "allMany" "[I", Cond.fieldLink RX8 36 "ConsonantIndexModel" "allCodes" "[J"]
def wsX8_aheadOf : List Cond := .code yX8_aheadOf cX8_aheadOf 6 (some .int) :: ((wsX8_aheadOf_r1 ++ wsX8_aheadOf_r2) ++ wsX80)
def wsX8_find_r1 : List Cond := [Cond.fieldLink RX8 7 "ConsonantIndexModel" "z" "[I", Cond.methodLink RX8 71 yX8_faultOf, Cond.instanceMethod yX8_faultOf, Cond.selects RX8 yX8_faultOf yX8_faultOf, Cond.initialized RX8, Cond.code yX8_faultOf cX8_faultOf 2 (some .int), Cond.fieldLink RX8 68 "ConsonantIndexModel" "typed" "I", Cond.fieldLink RX8 26 "ConsonantIndexModel" "pad" "[I", Cond.methodLink RX8 51 yX8_in, Cond.static yX8_in, Cond.code yX8_in cX8_in 3 (some .boolean), Cond.methodLink RX8 156 yX8_isEar, Cond.instanceMethod yX8_isEar, Cond.selects RX8 yX8_isEar yX8_isEar, Cond.code yX8_isEar cX8_isEar 2 (some .boolean), Cond.methodLink RX8 147 yX8_hearAll, Cond.instanceMethod yX8_hearAll, Cond.selects RX8 yX8_hearAll yX8_hearAll, Cond.code yX8_hearAll cX8_hearAll 4 none, Cond.fieldLink RX8 130 "ConsonantIndexModel" "drawerMany" "I", Cond.fieldLink RX8 39 "ConsonantIndexModel" "allMany" "[I", Cond.fieldLink RX8 123 "ConsonantIndexModel" "codeMany" "I", Cond.fieldLink RX8 36 "ConsonantIndexModel" "allCodes" "[J", Cond.fieldLink RX8 32 "ConsonantIndexModel" "codes" "[J"]
def wsX8_find_r2 : List Cond := [Cond.fieldLink RX8 42 "ConsonantIndexModel" "drawers" "[J", Cond.methodLink RX8 99 yX8_takeName, Cond.instanceMethod yX8_takeName, Cond.selects RX8 yX8_takeName yX8_takeName, Cond.code yX8_takeName cX8_takeName 3 none, Cond.fieldLink RX8 75 "ConsonantIndexModel" "wordLength" "I", Cond.fieldLink RX8 29 "ConsonantIndexModel" "word" "[I", Cond.methodLink RX8 78 yX8_lengthOf, Cond.instanceMethod yX8_lengthOf, Cond.selects RX8 yX8_lengthOf yX8_lengthOf, Cond.code yX8_lengthOf cX8_lengthOf 2 (some .int), Cond.methodLink RX8 82 yX8_letterOf, Cond.instanceMethod yX8_letterOf, Cond.selects RX8 yX8_letterOf yX8_letterOf, Cond.code yX8_letterOf cX8_letterOf 3 (some .int), Cond.methodLink RX8 133 yX8_hearWord, Cond.instanceMethod yX8_hearWord, Cond.selects RX8 yX8_hearWord yX8_hearWord, Cond.code yX8_hearWord cX8_hearWord 7 none, Cond.methodLink RX8 126 yX8_codeBy, Cond.instanceMethod yX8_codeBy, Cond.selects RX8 yX8_codeBy yX8_codeBy, Cond.code yX8_codeBy cX8_codeBy 12 (some .long), Cond.constantLong RX8 119 (64)]
def wsX8_find_r3 : List Cond := [Cond.constantLong RX8 121 (1073741824), Cond.methodLink RX8 116 yX8_byHabit, Cond.instanceMethod yX8_byHabit, Cond.selects RX8 yX8_byHabit yX8_byHabit, Cond.code yX8_byHabit cX8_byHabit 5 (some .int), Cond.methodLink RX8 109 yX8_hasHabit, Cond.instanceMethod yX8_hasHabit, Cond.selects RX8 yX8_hasHabit yX8_hasHabit, Cond.code yX8_hasHabit cX8_hasHabit 3 (some .boolean), Cond.methodLink RX8 106 yX8_at, Cond.instanceMethod yX8_at, Cond.selects RX8 yX8_at yX8_at, Cond.code yX8_at cX8_at 3 (some .int), Cond.methodLink RX8 113 yX8_isBehindOne, Cond.instanceMethod yX8_isBehindOne, Cond.selects RX8 yX8_isBehindOne yX8_isBehindOne, Cond.code yX8_isBehindOne cX8_isBehindOne 3 (some .boolean), Cond.methodLink RX8 136 yX8_drawerWith, Cond.instanceMethod yX8_drawerWith, Cond.selects RX8 yX8_drawerWith yX8_drawerWith, Cond.code yX8_drawerWith cX8_drawerWith 5 (some .int), Cond.methodLink RX8 86 yX8_takePad, Cond.instanceMethod yX8_takePad, Cond.selects RX8 yX8_takePad yX8_takePad]
def wsX8_find_r4 : List Cond := [Cond.code yX8_takePad cX8_takePad 2 none, Cond.methodLink RX8 221 yX8_isLikeWord, Cond.instanceMethod yX8_isLikeWord, Cond.selects RX8 yX8_isLikeWord yX8_isLikeWord, Cond.code yX8_isLikeWord cX8_isLikeWord 4 (some .boolean), Cond.methodLink RX8 140 yX8_hasCode, Cond.instanceMethod yX8_hasCode, Cond.selects RX8 yX8_hasCode yX8_hasCode, Cond.code yX8_hasCode cX8_hasCode 6 (some .boolean), Cond.methodLink RX8 224 yX8_aheadOf, Cond.instanceMethod yX8_aheadOf, Cond.selects RX8 yX8_aheadOf yX8_aheadOf, Cond.code yX8_aheadOf cX8_aheadOf 6 (some .int), Cond.methodLink RX8 103 yX8_distanceTo, Cond.instanceMethod yX8_distanceTo, Cond.selects RX8 yX8_distanceTo yX8_distanceTo, Cond.code yX8_distanceTo cX8_distanceTo 7 (some .int), Cond.fieldLink RX8 45 "ConsonantIndexModel" "row" "[I", Cond.methodLink RX8 96 yX8_least, Cond.static yX8_least, Cond.code yX8_least cX8_least 2 (some .int)]
def wsX8_find : List Cond := .code yX8_find cX8_find 6 (some .int) :: ((wsX8_find_r1 ++ (wsX8_find_r2 ++ (wsX8_find_r3 ++ wsX8_find_r4))) ++ wsX80)
def wsX8_behindMerger_r1 : List Cond := [Cond.fieldLink RX8 7 "ConsonantIndexModel" "z" "[I", Cond.fieldLink RX8 13 "ConsonantIndexModel" "spare" "[I", Cond.fieldLink RX8 130 "ConsonantIndexModel" "drawerMany" "I", Cond.methodLink RX8 59 yX8_copyState, Cond.static yX8_copyState, Cond.initialized RX8, Cond.code yX8_copyState cX8_copyState 5 none, Cond.methodLink RX8 187 yX8_mergeKinds, Cond.instanceMethod yX8_mergeKinds, Cond.selects RX8 yX8_mergeKinds yX8_mergeKinds, Cond.code yX8_mergeKinds cX8_mergeKinds 9 none, Cond.methodLink RX8 178 yX8_lettersOf, Cond.instanceMethod yX8_lettersOf, Cond.selects RX8 yX8_lettersOf yX8_lettersOf, Cond.code yX8_lettersOf cX8_lettersOf 5 (some .int), Cond.methodLink RX8 106 yX8_at, Cond.instanceMethod yX8_at, Cond.selects RX8 yX8_at yX8_at, Cond.code yX8_at cX8_at 3 (some .int), Cond.methodLink RX8 159 yX8_lay, Cond.instanceMethod yX8_lay, Cond.selects RX8 yX8_lay yX8_lay, Cond.code yX8_lay cX8_lay 4 none, Cond.methodLink RX8 172 yX8_clean]
def wsX8_behindMerger_r2 : List Cond := [Cond.instanceMethod yX8_clean, Cond.selects RX8 yX8_clean yX8_clean, Cond.code yX8_clean cX8_clean 3 none, Cond.methodLink RX8 181 yX8_forgetOldest, Cond.instanceMethod yX8_forgetOldest, Cond.selects RX8 yX8_forgetOldest yX8_forgetOldest, Cond.code yX8_forgetOldest cX8_forgetOldest 3 none, Cond.methodLink RX8 202 yX8_pairs, Cond.instanceMethod yX8_pairs, Cond.selects RX8 yX8_pairs yX8_pairs, Cond.code yX8_pairs cX8_pairs 4 (some .int), Cond.methodLink RX8 147 yX8_hearAll, Cond.instanceMethod yX8_hearAll, Cond.selects RX8 yX8_hearAll yX8_hearAll, Cond.code yX8_hearAll cX8_hearAll 4 none, Cond.fieldLink RX8 39 "ConsonantIndexModel" "allMany" "[I", Cond.fieldLink RX8 123 "ConsonantIndexModel" "codeMany" "I", Cond.fieldLink RX8 36 "ConsonantIndexModel" "allCodes" "[J", Cond.fieldLink RX8 32 "ConsonantIndexModel" "codes" "[J", Cond.fieldLink RX8 42 "ConsonantIndexModel" "drawers" "[J", Cond.methodLink RX8 99 yX8_takeName, Cond.instanceMethod yX8_takeName, Cond.selects RX8 yX8_takeName yX8_takeName, Cond.code yX8_takeName cX8_takeName 3 none]
def wsX8_behindMerger_r3 : List Cond := [Cond.fieldLink RX8 75 "ConsonantIndexModel" "wordLength" "I", Cond.fieldLink RX8 29 "ConsonantIndexModel" "word" "[I", Cond.methodLink RX8 78 yX8_lengthOf, Cond.instanceMethod yX8_lengthOf, Cond.selects RX8 yX8_lengthOf yX8_lengthOf, Cond.code yX8_lengthOf cX8_lengthOf 2 (some .int), Cond.methodLink RX8 82 yX8_letterOf, Cond.instanceMethod yX8_letterOf, Cond.selects RX8 yX8_letterOf yX8_letterOf, Cond.code yX8_letterOf cX8_letterOf 3 (some .int), Cond.methodLink RX8 133 yX8_hearWord, Cond.instanceMethod yX8_hearWord, Cond.selects RX8 yX8_hearWord yX8_hearWord, Cond.code yX8_hearWord cX8_hearWord 7 none, Cond.methodLink RX8 126 yX8_codeBy, Cond.instanceMethod yX8_codeBy, Cond.selects RX8 yX8_codeBy yX8_codeBy, Cond.code yX8_codeBy cX8_codeBy 12 (some .long), Cond.constantLong RX8 119 (64), Cond.constantLong RX8 121 (1073741824), Cond.methodLink RX8 116 yX8_byHabit, Cond.instanceMethod yX8_byHabit, Cond.selects RX8 yX8_byHabit yX8_byHabit, Cond.code yX8_byHabit cX8_byHabit 5 (some .int)]
def wsX8_behindMerger_r4 : List Cond := [Cond.methodLink RX8 109 yX8_hasHabit, Cond.instanceMethod yX8_hasHabit, Cond.selects RX8 yX8_hasHabit yX8_hasHabit, Cond.code yX8_hasHabit cX8_hasHabit 3 (some .boolean), Cond.methodLink RX8 113 yX8_isBehindOne, Cond.instanceMethod yX8_isBehindOne, Cond.selects RX8 yX8_isBehindOne yX8_isBehindOne, Cond.code yX8_isBehindOne cX8_isBehindOne 3 (some .boolean), Cond.methodLink RX8 136 yX8_drawerWith, Cond.instanceMethod yX8_drawerWith, Cond.selects RX8 yX8_drawerWith yX8_drawerWith, Cond.code yX8_drawerWith cX8_drawerWith 5 (some .int), Cond.methodLink RX8 150 yX8_likeOnes, Cond.instanceMethod yX8_likeOnes, Cond.selects RX8 yX8_likeOnes yX8_likeOnes, Cond.code yX8_likeOnes cX8_likeOnes 4 (some .int), Cond.methodLink RX8 144 yX8_haveCommon, Cond.instanceMethod yX8_haveCommon, Cond.selects RX8 yX8_haveCommon yX8_haveCommon, Cond.code yX8_haveCommon cX8_haveCommon 5 (some .boolean), Cond.methodLink RX8 140 yX8_hasCode, Cond.instanceMethod yX8_hasCode, Cond.selects RX8 yX8_hasCode yX8_hasCode, Cond.code yX8_hasCode cX8_hasCode 6 (some .boolean)]
def wsX8_behindMerger_r5 : List Cond := [Cond.methodLink RX8 153 yX8_bits, Cond.static yX8_bits, Cond.code yX8_bits cX8_bits 3 (some .int)]
def wsX8_behindMerger : List Cond := .code yX8_behindMerger cX8_behindMerger 6 (some .int) :: ((wsX8_behindMerger_r1 ++ (wsX8_behindMerger_r2 ++ (wsX8_behindMerger_r3 ++ (wsX8_behindMerger_r4 ++ wsX8_behindMerger_r5)))) ++ wsX80)
def wsX8_ifMerged_r1 : List Cond := [Cond.methodLink RX8 156 yX8_isEar, Cond.instanceMethod yX8_isEar, Cond.selects RX8 yX8_isEar yX8_isEar, Cond.initialized RX8, Cond.code yX8_isEar cX8_isEar 2 (some .boolean), Cond.fieldLink RX8 7 "ConsonantIndexModel" "z" "[I", Cond.methodLink RX8 51 yX8_in, Cond.static yX8_in, Cond.code yX8_in cX8_in 3 (some .boolean), Cond.methodLink RX8 184 yX8_areKinds, Cond.static yX8_areKinds, Cond.code yX8_areKinds cX8_areKinds 2 (some .boolean), Cond.methodLink RX8 169 yX8_isKind, Cond.static yX8_isKind, Cond.code yX8_isKind cX8_isKind 1 (some .boolean), Cond.methodLink RX8 227 yX8_behindMerger, Cond.instanceMethod yX8_behindMerger, Cond.selects RX8 yX8_behindMerger yX8_behindMerger, Cond.code yX8_behindMerger cX8_behindMerger 6 (some .int), Cond.fieldLink RX8 13 "ConsonantIndexModel" "spare" "[I", Cond.fieldLink RX8 130 "ConsonantIndexModel" "drawerMany" "I", Cond.methodLink RX8 59 yX8_copyState, Cond.static yX8_copyState, Cond.code yX8_copyState cX8_copyState 5 none]
def wsX8_ifMerged_r2 : List Cond := [Cond.methodLink RX8 187 yX8_mergeKinds, Cond.instanceMethod yX8_mergeKinds, Cond.selects RX8 yX8_mergeKinds yX8_mergeKinds, Cond.code yX8_mergeKinds cX8_mergeKinds 9 none, Cond.methodLink RX8 178 yX8_lettersOf, Cond.instanceMethod yX8_lettersOf, Cond.selects RX8 yX8_lettersOf yX8_lettersOf, Cond.code yX8_lettersOf cX8_lettersOf 5 (some .int), Cond.methodLink RX8 106 yX8_at, Cond.instanceMethod yX8_at, Cond.selects RX8 yX8_at yX8_at, Cond.code yX8_at cX8_at 3 (some .int), Cond.methodLink RX8 159 yX8_lay, Cond.instanceMethod yX8_lay, Cond.selects RX8 yX8_lay yX8_lay, Cond.code yX8_lay cX8_lay 4 none, Cond.methodLink RX8 172 yX8_clean, Cond.instanceMethod yX8_clean, Cond.selects RX8 yX8_clean yX8_clean, Cond.code yX8_clean cX8_clean 3 none, Cond.methodLink RX8 181 yX8_forgetOldest, Cond.instanceMethod yX8_forgetOldest, Cond.selects RX8 yX8_forgetOldest yX8_forgetOldest, Cond.code yX8_forgetOldest cX8_forgetOldest 3 none]
def wsX8_ifMerged_r3 : List Cond := [Cond.methodLink RX8 202 yX8_pairs, Cond.instanceMethod yX8_pairs, Cond.selects RX8 yX8_pairs yX8_pairs, Cond.code yX8_pairs cX8_pairs 4 (some .int), Cond.methodLink RX8 147 yX8_hearAll, Cond.instanceMethod yX8_hearAll, Cond.selects RX8 yX8_hearAll yX8_hearAll, Cond.code yX8_hearAll cX8_hearAll 4 none, Cond.fieldLink RX8 39 "ConsonantIndexModel" "allMany" "[I", Cond.fieldLink RX8 123 "ConsonantIndexModel" "codeMany" "I", Cond.fieldLink RX8 36 "ConsonantIndexModel" "allCodes" "[J", Cond.fieldLink RX8 32 "ConsonantIndexModel" "codes" "[J", Cond.fieldLink RX8 42 "ConsonantIndexModel" "drawers" "[J", Cond.methodLink RX8 99 yX8_takeName, Cond.instanceMethod yX8_takeName, Cond.selects RX8 yX8_takeName yX8_takeName, Cond.code yX8_takeName cX8_takeName 3 none, Cond.fieldLink RX8 75 "ConsonantIndexModel" "wordLength" "I", Cond.fieldLink RX8 29 "ConsonantIndexModel" "word" "[I", Cond.methodLink RX8 78 yX8_lengthOf, Cond.instanceMethod yX8_lengthOf, Cond.selects RX8 yX8_lengthOf yX8_lengthOf, Cond.code yX8_lengthOf cX8_lengthOf 2 (some .int), Cond.methodLink RX8 82 yX8_letterOf]
def wsX8_ifMerged_r4 : List Cond := [Cond.instanceMethod yX8_letterOf, Cond.selects RX8 yX8_letterOf yX8_letterOf, Cond.code yX8_letterOf cX8_letterOf 3 (some .int), Cond.methodLink RX8 133 yX8_hearWord, Cond.instanceMethod yX8_hearWord, Cond.selects RX8 yX8_hearWord yX8_hearWord, Cond.code yX8_hearWord cX8_hearWord 7 none, Cond.methodLink RX8 126 yX8_codeBy, Cond.instanceMethod yX8_codeBy, Cond.selects RX8 yX8_codeBy yX8_codeBy, Cond.code yX8_codeBy cX8_codeBy 12 (some .long), Cond.constantLong RX8 119 (64), Cond.constantLong RX8 121 (1073741824), Cond.methodLink RX8 116 yX8_byHabit, Cond.instanceMethod yX8_byHabit, Cond.selects RX8 yX8_byHabit yX8_byHabit, Cond.code yX8_byHabit cX8_byHabit 5 (some .int), Cond.methodLink RX8 109 yX8_hasHabit, Cond.instanceMethod yX8_hasHabit, Cond.selects RX8 yX8_hasHabit yX8_hasHabit, Cond.code yX8_hasHabit cX8_hasHabit 3 (some .boolean), Cond.methodLink RX8 113 yX8_isBehindOne, Cond.instanceMethod yX8_isBehindOne, Cond.selects RX8 yX8_isBehindOne yX8_isBehindOne]
def wsX8_ifMerged_r5 : List Cond := [Cond.code yX8_isBehindOne cX8_isBehindOne 3 (some .boolean), Cond.methodLink RX8 136 yX8_drawerWith, Cond.instanceMethod yX8_drawerWith, Cond.selects RX8 yX8_drawerWith yX8_drawerWith, Cond.code yX8_drawerWith cX8_drawerWith 5 (some .int), Cond.methodLink RX8 150 yX8_likeOnes, Cond.instanceMethod yX8_likeOnes, Cond.selects RX8 yX8_likeOnes yX8_likeOnes, Cond.code yX8_likeOnes cX8_likeOnes 4 (some .int), Cond.methodLink RX8 144 yX8_haveCommon, Cond.instanceMethod yX8_haveCommon, Cond.selects RX8 yX8_haveCommon yX8_haveCommon, Cond.code yX8_haveCommon cX8_haveCommon 5 (some .boolean), Cond.methodLink RX8 140 yX8_hasCode, Cond.instanceMethod yX8_hasCode, Cond.selects RX8 yX8_hasCode yX8_hasCode, Cond.code yX8_hasCode cX8_hasCode 6 (some .boolean), Cond.methodLink RX8 153 yX8_bits, Cond.static yX8_bits, Cond.code yX8_bits cX8_bits 3 (some .int)]
def wsX8_ifMerged : List Cond := .code yX8_ifMerged cX8_ifMerged 5 (some .int) :: ((wsX8_ifMerged_r1 ++ (wsX8_ifMerged_r2 ++ (wsX8_ifMerged_r3 ++ (wsX8_ifMerged_r4 ++ wsX8_ifMerged_r5)))) ++ wsX80)
def wsX8_bestMerger_r1 : List Cond := [Cond.methodLink RX8 156 yX8_isEar, Cond.instanceMethod yX8_isEar, Cond.selects RX8 yX8_isEar yX8_isEar, Cond.initialized RX8, Cond.code yX8_isEar cX8_isEar 2 (some .boolean), Cond.fieldLink RX8 7 "ConsonantIndexModel" "z" "[I", Cond.methodLink RX8 51 yX8_in, Cond.static yX8_in, Cond.code yX8_in cX8_in 3 (some .boolean), Cond.methodLink RX8 178 yX8_lettersOf, Cond.instanceMethod yX8_lettersOf, Cond.selects RX8 yX8_lettersOf yX8_lettersOf, Cond.code yX8_lettersOf cX8_lettersOf 5 (some .int), Cond.methodLink RX8 106 yX8_at, Cond.instanceMethod yX8_at, Cond.selects RX8 yX8_at yX8_at, Cond.code yX8_at cX8_at 3 (some .int), Cond.methodLink RX8 227 yX8_behindMerger, Cond.instanceMethod yX8_behindMerger, Cond.selects RX8 yX8_behindMerger yX8_behindMerger, Cond.code yX8_behindMerger cX8_behindMerger 6 (some .int), Cond.fieldLink RX8 13 "ConsonantIndexModel" "spare" "[I", Cond.fieldLink RX8 130 "ConsonantIndexModel" "drawerMany" "I", Cond.methodLink RX8 59 yX8_copyState]
def wsX8_bestMerger_r2 : List Cond := [Cond.static yX8_copyState, Cond.code yX8_copyState cX8_copyState 5 none, Cond.methodLink RX8 187 yX8_mergeKinds, Cond.instanceMethod yX8_mergeKinds, Cond.selects RX8 yX8_mergeKinds yX8_mergeKinds, Cond.code yX8_mergeKinds cX8_mergeKinds 9 none, Cond.methodLink RX8 159 yX8_lay, Cond.instanceMethod yX8_lay, Cond.selects RX8 yX8_lay yX8_lay, Cond.code yX8_lay cX8_lay 4 none, Cond.methodLink RX8 172 yX8_clean, Cond.instanceMethod yX8_clean, Cond.selects RX8 yX8_clean yX8_clean, Cond.code yX8_clean cX8_clean 3 none, Cond.methodLink RX8 181 yX8_forgetOldest, Cond.instanceMethod yX8_forgetOldest, Cond.selects RX8 yX8_forgetOldest yX8_forgetOldest, Cond.code yX8_forgetOldest cX8_forgetOldest 3 none, Cond.methodLink RX8 202 yX8_pairs, Cond.instanceMethod yX8_pairs, Cond.selects RX8 yX8_pairs yX8_pairs, Cond.code yX8_pairs cX8_pairs 4 (some .int), Cond.methodLink RX8 147 yX8_hearAll, Cond.instanceMethod yX8_hearAll]
def wsX8_bestMerger_r3 : List Cond := [Cond.selects RX8 yX8_hearAll yX8_hearAll, Cond.code yX8_hearAll cX8_hearAll 4 none, Cond.fieldLink RX8 39 "ConsonantIndexModel" "allMany" "[I", Cond.fieldLink RX8 123 "ConsonantIndexModel" "codeMany" "I", Cond.fieldLink RX8 36 "ConsonantIndexModel" "allCodes" "[J", Cond.fieldLink RX8 32 "ConsonantIndexModel" "codes" "[J", Cond.fieldLink RX8 42 "ConsonantIndexModel" "drawers" "[J", Cond.methodLink RX8 99 yX8_takeName, Cond.instanceMethod yX8_takeName, Cond.selects RX8 yX8_takeName yX8_takeName, Cond.code yX8_takeName cX8_takeName 3 none, Cond.fieldLink RX8 75 "ConsonantIndexModel" "wordLength" "I", Cond.fieldLink RX8 29 "ConsonantIndexModel" "word" "[I", Cond.methodLink RX8 78 yX8_lengthOf, Cond.instanceMethod yX8_lengthOf, Cond.selects RX8 yX8_lengthOf yX8_lengthOf, Cond.code yX8_lengthOf cX8_lengthOf 2 (some .int), Cond.methodLink RX8 82 yX8_letterOf, Cond.instanceMethod yX8_letterOf, Cond.selects RX8 yX8_letterOf yX8_letterOf, Cond.code yX8_letterOf cX8_letterOf 3 (some .int), Cond.methodLink RX8 133 yX8_hearWord, Cond.instanceMethod yX8_hearWord, Cond.selects RX8 yX8_hearWord yX8_hearWord]
def wsX8_bestMerger_r4 : List Cond := [Cond.code yX8_hearWord cX8_hearWord 7 none, Cond.methodLink RX8 126 yX8_codeBy, Cond.instanceMethod yX8_codeBy, Cond.selects RX8 yX8_codeBy yX8_codeBy, Cond.code yX8_codeBy cX8_codeBy 12 (some .long), Cond.constantLong RX8 119 (64), Cond.constantLong RX8 121 (1073741824), Cond.methodLink RX8 116 yX8_byHabit, Cond.instanceMethod yX8_byHabit, Cond.selects RX8 yX8_byHabit yX8_byHabit, Cond.code yX8_byHabit cX8_byHabit 5 (some .int), Cond.methodLink RX8 109 yX8_hasHabit, Cond.instanceMethod yX8_hasHabit, Cond.selects RX8 yX8_hasHabit yX8_hasHabit, Cond.code yX8_hasHabit cX8_hasHabit 3 (some .boolean), Cond.methodLink RX8 113 yX8_isBehindOne, Cond.instanceMethod yX8_isBehindOne, Cond.selects RX8 yX8_isBehindOne yX8_isBehindOne, Cond.code yX8_isBehindOne cX8_isBehindOne 3 (some .boolean), Cond.methodLink RX8 136 yX8_drawerWith, Cond.instanceMethod yX8_drawerWith, Cond.selects RX8 yX8_drawerWith yX8_drawerWith, Cond.code yX8_drawerWith cX8_drawerWith 5 (some .int), Cond.methodLink RX8 150 yX8_likeOnes]
def wsX8_bestMerger_r5 : List Cond := [Cond.instanceMethod yX8_likeOnes, Cond.selects RX8 yX8_likeOnes yX8_likeOnes, Cond.code yX8_likeOnes cX8_likeOnes 4 (some .int), Cond.methodLink RX8 144 yX8_haveCommon, Cond.instanceMethod yX8_haveCommon, Cond.selects RX8 yX8_haveCommon yX8_haveCommon, Cond.code yX8_haveCommon cX8_haveCommon 5 (some .boolean), Cond.methodLink RX8 140 yX8_hasCode, Cond.instanceMethod yX8_hasCode, Cond.selects RX8 yX8_hasCode yX8_hasCode, Cond.code yX8_hasCode cX8_hasCode 6 (some .boolean), Cond.methodLink RX8 153 yX8_bits, Cond.static yX8_bits, Cond.code yX8_bits cX8_bits 3 (some .int)]
def wsX8_bestMerger : List Cond := .code yX8_bestMerger cX8_bestMerger 11 (some .int) :: ((wsX8_bestMerger_r1 ++ (wsX8_bestMerger_r2 ++ (wsX8_bestMerger_r3 ++ (wsX8_bestMerger_r4 ++ wsX8_bestMerger_r5)))) ++ wsX80)
def wsX8_quarrel_r1 : List Cond := [Cond.fieldLink RX8 7 "ConsonantIndexModel" "z" "[I", Cond.fieldLink RX8 48 "ConsonantIndexModel" "like" "[I", Cond.methodLink RX8 156 yX8_isEar, Cond.instanceMethod yX8_isEar, Cond.selects RX8 yX8_isEar yX8_isEar, Cond.initialized RX8, Cond.code yX8_isEar cX8_isEar 2 (some .boolean), Cond.methodLink RX8 51 yX8_in, Cond.static yX8_in, Cond.code yX8_in cX8_in 3 (some .boolean), Cond.methodLink RX8 147 yX8_hearAll, Cond.instanceMethod yX8_hearAll, Cond.selects RX8 yX8_hearAll yX8_hearAll, Cond.code yX8_hearAll cX8_hearAll 4 none, Cond.fieldLink RX8 130 "ConsonantIndexModel" "drawerMany" "I", Cond.fieldLink RX8 39 "ConsonantIndexModel" "allMany" "[I", Cond.fieldLink RX8 123 "ConsonantIndexModel" "codeMany" "I", Cond.fieldLink RX8 36 "ConsonantIndexModel" "allCodes" "[J", Cond.fieldLink RX8 32 "ConsonantIndexModel" "codes" "[J", Cond.fieldLink RX8 42 "ConsonantIndexModel" "drawers" "[J", Cond.methodLink RX8 99 yX8_takeName, Cond.instanceMethod yX8_takeName, Cond.selects RX8 yX8_takeName yX8_takeName, Cond.code yX8_takeName cX8_takeName 3 none]
def wsX8_quarrel_r2 : List Cond := [Cond.fieldLink RX8 75 "ConsonantIndexModel" "wordLength" "I", Cond.fieldLink RX8 29 "ConsonantIndexModel" "word" "[I", Cond.methodLink RX8 78 yX8_lengthOf, Cond.instanceMethod yX8_lengthOf, Cond.selects RX8 yX8_lengthOf yX8_lengthOf, Cond.code yX8_lengthOf cX8_lengthOf 2 (some .int), Cond.methodLink RX8 82 yX8_letterOf, Cond.instanceMethod yX8_letterOf, Cond.selects RX8 yX8_letterOf yX8_letterOf, Cond.code yX8_letterOf cX8_letterOf 3 (some .int), Cond.methodLink RX8 133 yX8_hearWord, Cond.instanceMethod yX8_hearWord, Cond.selects RX8 yX8_hearWord yX8_hearWord, Cond.code yX8_hearWord cX8_hearWord 7 none, Cond.methodLink RX8 126 yX8_codeBy, Cond.instanceMethod yX8_codeBy, Cond.selects RX8 yX8_codeBy yX8_codeBy, Cond.code yX8_codeBy cX8_codeBy 12 (some .long), Cond.constantLong RX8 119 (64), Cond.constantLong RX8 121 (1073741824), Cond.methodLink RX8 116 yX8_byHabit, Cond.instanceMethod yX8_byHabit, Cond.selects RX8 yX8_byHabit yX8_byHabit, Cond.code yX8_byHabit cX8_byHabit 5 (some .int)]
def wsX8_quarrel_r3 : List Cond := [Cond.methodLink RX8 109 yX8_hasHabit, Cond.instanceMethod yX8_hasHabit, Cond.selects RX8 yX8_hasHabit yX8_hasHabit, Cond.code yX8_hasHabit cX8_hasHabit 3 (some .boolean), Cond.methodLink RX8 106 yX8_at, Cond.instanceMethod yX8_at, Cond.selects RX8 yX8_at yX8_at, Cond.code yX8_at cX8_at 3 (some .int), Cond.methodLink RX8 113 yX8_isBehindOne, Cond.instanceMethod yX8_isBehindOne, Cond.selects RX8 yX8_isBehindOne yX8_isBehindOne, Cond.code yX8_isBehindOne cX8_isBehindOne 3 (some .boolean), Cond.methodLink RX8 136 yX8_drawerWith, Cond.instanceMethod yX8_drawerWith, Cond.selects RX8 yX8_drawerWith yX8_drawerWith, Cond.code yX8_drawerWith cX8_drawerWith 5 (some .int), Cond.methodLink RX8 150 yX8_likeOnes, Cond.instanceMethod yX8_likeOnes, Cond.selects RX8 yX8_likeOnes yX8_likeOnes, Cond.code yX8_likeOnes cX8_likeOnes 4 (some .int), Cond.methodLink RX8 144 yX8_haveCommon, Cond.instanceMethod yX8_haveCommon, Cond.selects RX8 yX8_haveCommon yX8_haveCommon, Cond.code yX8_haveCommon cX8_haveCommon 5 (some .boolean)]
def wsX8_quarrel_r4 : List Cond := [Cond.methodLink RX8 140 yX8_hasCode, Cond.instanceMethod yX8_hasCode, Cond.selects RX8 yX8_hasCode yX8_hasCode, Cond.code yX8_hasCode cX8_hasCode 6 (some .boolean), Cond.methodLink RX8 153 yX8_bits, Cond.static yX8_bits, Cond.code yX8_bits cX8_bits 3 (some .int)]
def wsX8_quarrel : List Cond := .code yX8_quarrel cX8_quarrel 5 (some .int) :: ((wsX8_quarrel_r1 ++ (wsX8_quarrel_r2 ++ (wsX8_quarrel_r3 ++ wsX8_quarrel_r4))) ++ wsX80)
def wsX8_deafest_r1 : List Cond := [Cond.fieldLink RX8 7 "ConsonantIndexModel" "z" "[I", Cond.methodLink RX8 202 yX8_pairs, Cond.instanceMethod yX8_pairs, Cond.selects RX8 yX8_pairs yX8_pairs, Cond.initialized RX8, Cond.code yX8_pairs cX8_pairs 4 (some .int), Cond.methodLink RX8 147 yX8_hearAll, Cond.instanceMethod yX8_hearAll, Cond.selects RX8 yX8_hearAll yX8_hearAll, Cond.code yX8_hearAll cX8_hearAll 4 none, Cond.fieldLink RX8 130 "ConsonantIndexModel" "drawerMany" "I", Cond.fieldLink RX8 39 "ConsonantIndexModel" "allMany" "[I", Cond.fieldLink RX8 123 "ConsonantIndexModel" "codeMany" "I", Cond.fieldLink RX8 36 "ConsonantIndexModel" "allCodes" "[J", Cond.fieldLink RX8 32 "ConsonantIndexModel" "codes" "[J", Cond.fieldLink RX8 42 "ConsonantIndexModel" "drawers" "[J", Cond.methodLink RX8 99 yX8_takeName, Cond.instanceMethod yX8_takeName, Cond.selects RX8 yX8_takeName yX8_takeName, Cond.code yX8_takeName cX8_takeName 3 none, Cond.fieldLink RX8 75 "ConsonantIndexModel" "wordLength" "I", Cond.fieldLink RX8 29 "ConsonantIndexModel" "word" "[I", Cond.methodLink RX8 78 yX8_lengthOf, Cond.instanceMethod yX8_lengthOf]
def wsX8_deafest_r2 : List Cond := [Cond.selects RX8 yX8_lengthOf yX8_lengthOf, Cond.code yX8_lengthOf cX8_lengthOf 2 (some .int), Cond.methodLink RX8 82 yX8_letterOf, Cond.instanceMethod yX8_letterOf, Cond.selects RX8 yX8_letterOf yX8_letterOf, Cond.code yX8_letterOf cX8_letterOf 3 (some .int), Cond.methodLink RX8 133 yX8_hearWord, Cond.instanceMethod yX8_hearWord, Cond.selects RX8 yX8_hearWord yX8_hearWord, Cond.code yX8_hearWord cX8_hearWord 7 none, Cond.methodLink RX8 126 yX8_codeBy, Cond.instanceMethod yX8_codeBy, Cond.selects RX8 yX8_codeBy yX8_codeBy, Cond.code yX8_codeBy cX8_codeBy 12 (some .long), Cond.constantLong RX8 119 (64), Cond.constantLong RX8 121 (1073741824), Cond.methodLink RX8 116 yX8_byHabit, Cond.instanceMethod yX8_byHabit, Cond.selects RX8 yX8_byHabit yX8_byHabit, Cond.code yX8_byHabit cX8_byHabit 5 (some .int), Cond.methodLink RX8 109 yX8_hasHabit, Cond.instanceMethod yX8_hasHabit, Cond.selects RX8 yX8_hasHabit yX8_hasHabit, Cond.code yX8_hasHabit cX8_hasHabit 3 (some .boolean)]
def wsX8_deafest_r3 : List Cond := [Cond.methodLink RX8 106 yX8_at, Cond.instanceMethod yX8_at, Cond.selects RX8 yX8_at yX8_at, Cond.code yX8_at cX8_at 3 (some .int), Cond.methodLink RX8 113 yX8_isBehindOne, Cond.instanceMethod yX8_isBehindOne, Cond.selects RX8 yX8_isBehindOne yX8_isBehindOne, Cond.code yX8_isBehindOne cX8_isBehindOne 3 (some .boolean), Cond.methodLink RX8 136 yX8_drawerWith, Cond.instanceMethod yX8_drawerWith, Cond.selects RX8 yX8_drawerWith yX8_drawerWith, Cond.code yX8_drawerWith cX8_drawerWith 5 (some .int), Cond.methodLink RX8 150 yX8_likeOnes, Cond.instanceMethod yX8_likeOnes, Cond.selects RX8 yX8_likeOnes yX8_likeOnes, Cond.code yX8_likeOnes cX8_likeOnes 4 (some .int), Cond.methodLink RX8 144 yX8_haveCommon, Cond.instanceMethod yX8_haveCommon, Cond.selects RX8 yX8_haveCommon yX8_haveCommon, Cond.code yX8_haveCommon cX8_haveCommon 5 (some .boolean), Cond.methodLink RX8 140 yX8_hasCode, Cond.instanceMethod yX8_hasCode, Cond.selects RX8 yX8_hasCode yX8_hasCode, Cond.code yX8_hasCode cX8_hasCode 6 (some .boolean)]
def wsX8_deafest_r4 : List Cond := [Cond.methodLink RX8 153 yX8_bits, Cond.static yX8_bits, Cond.code yX8_bits cX8_bits 3 (some .int)]
def wsX8_deafest : List Cond := .code yX8_deafest cX8_deafest 5 (some .int) :: ((wsX8_deafest_r1 ++ (wsX8_deafest_r2 ++ (wsX8_deafest_r3 ++ wsX8_deafest_r4))) ++ wsX80)
def wsJ9_max_7cf53 : List Cond := .code yJ9_max_7cf53 cJ9_max_7cf53 2 (some .int) :: ([])
def wsJ9_min_7cf53 : List Cond := .code yJ9_min_7cf53 cJ9_min_7cf53 2 (some .int) :: ([])
def wsL_law_r1 : List Cond := [Cond.classLink RL 7 RX7, Cond.instantiable RX7 10, Cond.initialized RX7, Cond.classLink RL 10 RX8, Cond.instantiable RX8 18, Cond.initialized RX8, Cond.constantLong RL 106 (4294967295), Cond.methodLink RL 9 yX7_init, Cond.instanceMethod yX7_init, Cond.code yX7_init cX7_init 2 none, Cond.methodLink RX7 1 objectInit, Cond.instanceMethod objectInit, Cond.code objectInit ⟨#[0xb1]⟩ 1 none, Cond.classLink RX7 7 RX5, Cond.instantiable RX5 6, Cond.initialized RX5, Cond.fieldLink RX7 10 "ConsonantIndex" "now" "LConsonantIndex$State;", Cond.fieldLink RX7 16 "ConsonantIndex" "past" "[LConsonantIndex$State;", Cond.fieldLink RX7 20 "ConsonantIndex" "changes" "I", Cond.fieldLink RX7 24 "ConsonantIndex" "slots" "[LConsonantIndex$State;", Cond.arrayClass .boolean, Cond.fieldLink RX7 27 "ConsonantIndex" "saved" "[Z", Cond.classLink RX7 31 RX4, Cond.instantiable RX4 2]
def wsL_law_r2 : List Cond := [Cond.initialized RX4, Cond.fieldLink RX7 34 "ConsonantIndex" "pad" "LConsonantIndex$Pad;", Cond.classLink RX7 38 RX1, Cond.instantiable RX1 7, Cond.initialized RX1, Cond.fieldLink RX7 41 "ConsonantIndex" "drawers" "LConsonantIndex$Drawers;", Cond.fieldLink RX7 45 "ConsonantIndex" "otherDrawers" "LConsonantIndex$Drawers;", Cond.classLink RX7 48 RX2, Cond.instantiable RX2 8, Cond.initialized RX2, Cond.fieldLink RX7 51 "ConsonantIndex" "supposed" "LConsonantIndex$Ear;", Cond.classLink RX7 55 RX3, Cond.instantiable RX3 2, Cond.initialized RX3, Cond.fieldLink RX7 58 "ConsonantIndex" "meter" "LConsonantIndex$Meter;", Cond.methodLink RX7 9 yX5_init, Cond.instanceMethod yX5_init, Cond.code yX5_init cX5_init 2 none, Cond.methodLink RX5 3 objectInit, Cond.fieldLink RX5 9 "ConsonantIndex$State" "codeLength" "I", Cond.fieldLink RX5 15 "ConsonantIndex$State" "nameLimit" "I", Cond.fieldLink RX5 18 "ConsonantIndex$State" "nameCount" "I", Cond.arrayClass .long, Cond.fieldLink RX5 21 "ConsonantIndex$State" "words" "[J"]
def wsL_law_r3 : List Cond := [Cond.fieldLink RX5 25 "ConsonantIndex$State" "earCount" "I", Cond.classLink RX5 28 RX2, Cond.fieldLink RX5 30 "ConsonantIndex$State" "ears" "[LConsonantIndex$Ear;", Cond.methodLink RX5 34 yX2_init, Cond.instanceMethod yX2_init, Cond.code yX2_init cX2_init 1 none, Cond.methodLink RX2 3 objectInit, Cond.arrayClass .int, Cond.fieldLink RX2 9 "ConsonantIndex$Ear" "firsts" "[I", Cond.fieldLink RX2 15 "ConsonantIndex$Ear" "seconds" "[I", Cond.fieldLink RX2 18 "ConsonantIndex$Ear" "intos" "[I", Cond.fieldLink RX2 21 "ConsonantIndex$Ear" "froms" "[I", Cond.fieldLink RX2 24 "ConsonantIndex$Ear" "movedFirsts" "[I", Cond.fieldLink RX2 27 "ConsonantIndex$Ear" "movedSeconds" "[I", Cond.methodLink RX2 30 yX2_beAsAtFirst, Cond.instanceMethod yX2_beAsAtFirst, Cond.selects RX2 yX2_beAsAtFirst yX2_beAsAtFirst, Cond.code yX2_beAsAtFirst cX2_beAsAtFirst 2 none, Cond.fieldLink RX2 33 "ConsonantIndex$Ear" "FIRSTS_AT_FIRST" "[I", Cond.fieldLink RX2 36 "ConsonantIndex$Ear" "habitSet" "I", Cond.fieldLink RX2 40 "ConsonantIndex$Ear" "mergers" "I", Cond.instanceMethod yX4_init, Cond.code yX4_init cX4_init 1 none, Cond.methodLink RX4 3 objectInit]
def wsL_law_r4 : List Cond := [Cond.arrayClass .char, Cond.fieldLink RX4 9 "ConsonantIndex$Pad" "characters" "[C", Cond.fieldLink RX4 15 "ConsonantIndex$Pad" "size" "I", Cond.instanceMethod yX1_init, Cond.code yX1_init cX1_init 1 none, Cond.methodLink RX1 3 objectInit, Cond.fieldLink RX1 9 "ConsonantIndex$Drawers" "codeCounts" "[I", Cond.fieldLink RX1 15 "ConsonantIndex$Drawers" "drawersOfNames" "[I", Cond.fieldLink RX1 18 "ConsonantIndex$Drawers" "codes" "[I", Cond.fieldLink RX1 21 "ConsonantIndex$Drawers" "names" "[I", Cond.fieldLink RX1 24 "ConsonantIndex$Drawers" "row" "[I", Cond.methodLink RX7 50 yX2_init, Cond.instanceMethod yX3_init, Cond.code yX3_init cX3_init 1 none, Cond.methodLink RX3 3 objectInit, Cond.fieldLink RX3 9 "ConsonantIndex$Meter" "row" "[I", Cond.fieldLink RX3 15 "ConsonantIndex$Meter" "distances" "[I", Cond.methodLink RL 12 yX8_init, Cond.instanceMethod yX8_init, Cond.code yX8_init cX8_init 1 none, Cond.methodLink RX8 1 objectInit, Cond.fieldLink RX8 7 "ConsonantIndexModel" "z" "[I", Cond.fieldLink RX8 13 "ConsonantIndexModel" "spare" "[I", Cond.fieldLink RX8 16 "ConsonantIndexModel" "past" "[I"]
def wsL_law_r5 : List Cond := [Cond.fieldLink RX8 19 "ConsonantIndexModel" "slots" "[I", Cond.fieldLink RX8 22 "ConsonantIndexModel" "isSaved" "[Z", Cond.fieldLink RX8 26 "ConsonantIndexModel" "pad" "[I", Cond.fieldLink RX8 29 "ConsonantIndexModel" "word" "[I", Cond.fieldLink RX8 32 "ConsonantIndexModel" "codes" "[J", Cond.fieldLink RX8 36 "ConsonantIndexModel" "allCodes" "[J", Cond.fieldLink RX8 39 "ConsonantIndexModel" "allMany" "[I", Cond.fieldLink RX8 42 "ConsonantIndexModel" "drawers" "[J", Cond.fieldLink RX8 45 "ConsonantIndexModel" "row" "[I", Cond.fieldLink RX8 48 "ConsonantIndexModel" "like" "[I", Cond.methodLink RL 13 yX7_set, Cond.instanceMethod yX7_set, Cond.selects RX7 yX7_set yX7_set, Cond.code yX7_set cX7_set 4 (some .int), Cond.fieldLink RX7 66 "ConsonantIndex$State" "codeLength" "I", Cond.fieldLink RX7 72 "ConsonantIndex$State" "nameLimit" "I", Cond.methodLink RX7 62 yX7_isWithin, Cond.static yX7_isWithin, Cond.code yX7_isWithin cX7_isWithin 3 (some .boolean), Cond.methodLink RX7 69 yX7_recordChange, Cond.instanceMethod yX7_recordChange, Cond.selects RX7 yX7_recordChange yX7_recordChange, Cond.code yX7_recordChange cX7_recordChange 3 none, Cond.methodLink RX7 248 yX5_beAs]
def wsL_law_r6 : List Cond := [Cond.instanceMethod yX5_beAs, Cond.selects RX5 yX5_beAs yX5_beAs, Cond.code yX5_beAs cX5_beAs 3 none, Cond.methodLink RX5 35 arraycopyName, Cond.native arraycopyName, Cond.static arraycopyName, Cond.initialized "java/lang/System", Cond.methodLink RX5 41 yX2_beAs, Cond.instanceMethod yX2_beAs, Cond.selects RX2 yX2_beAs yX2_beAs, Cond.code yX2_beAs cX2_beAs 2 none, Cond.methodLink RX2 43 arraycopyName, Cond.methodLink RL 17 yX8_set, Cond.instanceMethod yX8_set, Cond.selects RX8 yX8_set yX8_set, Cond.code yX8_set cX8_set 4 (some .int), Cond.methodLink RX8 51 yX8_in, Cond.static yX8_in, Cond.code yX8_in cX8_in 3 (some .boolean), Cond.methodLink RX8 63 yX8_record, Cond.instanceMethod yX8_record, Cond.selects RX8 yX8_record yX8_record, Cond.code yX8_record cX8_record 2 none, Cond.fieldLink RX8 55 "ConsonantIndexModel" "states" "I"]
def wsL_law_r7 : List Cond := [Cond.methodLink RX8 59 yX8_copyState, Cond.static yX8_copyState, Cond.code yX8_copyState cX8_copyState 5 none, Cond.methodLink RL 18 yX7_add, Cond.instanceMethod yX7_add, Cond.selects RX7 yX7_add yX7_add, Cond.code yX7_add cX7_add 3 (some .int), Cond.fieldLink RX7 87 "ConsonantIndex$State" "nameCount" "I", Cond.fieldLink RX7 90 "ConsonantIndex$State" "words" "[J", Cond.fieldLink RX7 94 "ConsonantIndex$Pad" "size" "I", Cond.methodLink RX7 75 yX4_firstFault, Cond.instanceMethod yX4_firstFault, Cond.selects RX4 yX4_firstFault yX4_firstFault, Cond.code yX4_firstFault cX4_firstFault 2 (some .int), Cond.methodLink RX7 79 yX4_asWord, Cond.instanceMethod yX4_asWord, Cond.selects RX4 yX4_asWord yX4_asWord, Cond.code yX4_asWord cX4_asWord 4 (some .long), Cond.methodLink RX4 25 yX6_with, Cond.static yX6_with, Cond.initialized RX6, Cond.code yX6_with cX6_with 4 (some .long), Cond.methodLink RX7 83 yX5_holds, Cond.instanceMethod yX5_holds]
def wsL_law_r8 : List Cond := [Cond.selects RX5 yX5_holds yX5_holds, Cond.code yX5_holds cX5_holds 4 (some .boolean), Cond.methodLink RL 22 yX8_add, Cond.instanceMethod yX8_add, Cond.selects RX8 yX8_add yX8_add, Cond.code yX8_add cX8_add 3 (some .int), Cond.fieldLink RX8 75 "ConsonantIndexModel" "wordLength" "I", Cond.fieldLink RX8 68 "ConsonantIndexModel" "typed" "I", Cond.methodLink RX8 71 yX8_faultOf, Cond.instanceMethod yX8_faultOf, Cond.selects RX8 yX8_faultOf yX8_faultOf, Cond.code yX8_faultOf cX8_faultOf 2 (some .int), Cond.methodLink RX8 86 yX8_takePad, Cond.instanceMethod yX8_takePad, Cond.selects RX8 yX8_takePad yX8_takePad, Cond.code yX8_takePad cX8_takePad 2 none, Cond.methodLink RX8 89 yX8_isWord, Cond.instanceMethod yX8_isWord, Cond.selects RX8 yX8_isWord yX8_isWord, Cond.code yX8_isWord cX8_isWord 4 (some .boolean), Cond.methodLink RX8 78 yX8_lengthOf, Cond.instanceMethod yX8_lengthOf, Cond.selects RX8 yX8_lengthOf yX8_lengthOf, Cond.code yX8_lengthOf cX8_lengthOf 2 (some .int)]
def wsL_law_r9 : List Cond := [Cond.methodLink RX8 82 yX8_letterOf, Cond.instanceMethod yX8_letterOf, Cond.selects RX8 yX8_letterOf yX8_letterOf, Cond.code yX8_letterOf cX8_letterOf 3 (some .int), Cond.methodLink RL 23 yX7_drop, Cond.instanceMethod yX7_drop, Cond.selects RX7 yX7_drop yX7_drop, Cond.code yX7_drop cX7_drop 2 (some .int), Cond.methodLink RX7 97 yX5_hasName, Cond.instanceMethod yX5_hasName, Cond.selects RX5 yX5_hasName yX5_hasName, Cond.code yX5_hasName cX5_hasName 2 (some .boolean), Cond.methodLink RX7 101 yX5_removeName, Cond.instanceMethod yX5_removeName, Cond.selects RX5 yX5_removeName yX5_removeName, Cond.code yX5_removeName cX5_removeName 3 none, Cond.methodLink RL 27 yX8_drop, Cond.instanceMethod yX8_drop, Cond.selects RX8 yX8_drop yX8_drop, Cond.code yX8_drop cX8_drop 3 (some .int), Cond.methodLink RX8 93 yX8_isName, Cond.instanceMethod yX8_isName, Cond.selects RX8 yX8_isName yX8_isName, Cond.code yX8_isName cX8_isName 2 (some .boolean)]
def wsL_law_r10 : List Cond := [Cond.methodLink RL 28 yX7_ear, Cond.instanceMethod yX7_ear, Cond.selects RX7 yX7_ear yX7_ear, Cond.code yX7_ear cX7_ear 4 (some .int), Cond.fieldLink RX7 109 "ConsonantIndex$State" "earCount" "I", Cond.fieldLink RX7 112 "ConsonantIndex$State" "ears" "[LConsonantIndex$Ear;", Cond.methodLink RX7 105 yX5_earAt, Cond.instanceMethod yX5_earAt, Cond.selects RX5 yX5_earAt yX5_earAt, Cond.code yX5_earAt cX5_earAt 2 (some (.object "ConsonantIndex$Ear")), Cond.methodLink RX7 116 yX2_beAsAtFirst, Cond.methodLink RX7 119 yX2_beAs, Cond.methodLink RL 31 yX8_ear, Cond.instanceMethod yX8_ear, Cond.selects RX8 yX8_ear yX8_ear, Cond.code yX8_ear cX8_ear 4 (some .int), Cond.methodLink RX8 156 yX8_isEar, Cond.instanceMethod yX8_isEar, Cond.selects RX8 yX8_isEar yX8_isEar, Cond.code yX8_isEar cX8_isEar 2 (some .boolean), Cond.methodLink RX8 106 yX8_at, Cond.instanceMethod yX8_at, Cond.selects RX8 yX8_at yX8_at, Cond.code yX8_at cX8_at 3 (some .int)]
def wsL_law_r11 : List Cond := [Cond.methodLink RX8 159 yX8_lay, Cond.instanceMethod yX8_lay, Cond.selects RX8 yX8_lay yX8_lay, Cond.code yX8_lay cX8_lay 4 none, Cond.methodLink RX8 163 yX8_firstKind, Cond.static yX8_firstKind, Cond.code yX8_firstKind cX8_firstKind 1 (some .int), Cond.methodLink RL 32 yX7_hear, Cond.instanceMethod yX7_hear, Cond.selects RX7 yX7_hear yX7_hear, Cond.code yX7_hear cX7_hear 6 (some .int), Cond.fieldLink RX7 131 "ConsonantIndex$Ear" "firsts" "[I", Cond.methodLink RX7 123 yX6_isLetter, Cond.static yX6_isLetter, Cond.code yX6_isLetter cX6_isLetter 1 (some .boolean), Cond.methodLink RX7 128 yX7_isClass, Cond.static yX7_isClass, Cond.code yX7_isClass cX7_isClass 1 (some .boolean), Cond.methodLink RX7 135 yX2_loseSameSecond, Cond.instanceMethod yX2_loseSameSecond, Cond.selects RX2 yX2_loseSameSecond yX2_loseSameSecond, Cond.code yX2_loseSameSecond cX2_loseSameSecond 2 none, Cond.methodLink RL 36 yX8_hear, Cond.instanceMethod yX8_hear]
def wsL_law_r12 : List Cond := [Cond.selects RX8 yX8_hear yX8_hear, Cond.code yX8_hear cX8_hear 5 (some .int), Cond.methodLink RX8 166 yX8_isLetter, Cond.static yX8_isLetter, Cond.code yX8_isLetter cX8_isLetter 1 (some .boolean), Cond.methodLink RX8 169 yX8_isKind, Cond.static yX8_isKind, Cond.code yX8_isKind cX8_isKind 1 (some .boolean), Cond.methodLink RX8 172 yX8_clean, Cond.instanceMethod yX8_clean, Cond.selects RX8 yX8_clean yX8_clean, Cond.code yX8_clean cX8_clean 3 none, Cond.methodLink RL 37 yX7_second, Cond.instanceMethod yX7_second, Cond.selects RX7 yX7_second yX7_second, Cond.code yX7_second cX7_second 6 (some .int), Cond.fieldLink RX7 138 "ConsonantIndex$Ear" "seconds" "[I", Cond.methodLink RL 40 yX8_second, Cond.instanceMethod yX8_second, Cond.selects RX8 yX8_second yX8_second, Cond.code yX8_second cX8_second 5 (some .int), Cond.methodLink RX8 175 yX8_secondOf, Cond.instanceMethod yX8_secondOf, Cond.selects RX8 yX8_secondOf yX8_secondOf]
def wsL_law_r13 : List Cond := [Cond.code yX8_secondOf cX8_secondOf 3 (some .int), Cond.methodLink RL 41 yX7_habits, Cond.instanceMethod yX7_habits, Cond.selects RX7 yX7_habits yX7_habits, Cond.code yX7_habits cX7_habits 5 (some .int), Cond.fieldLink RX7 141 "ConsonantIndex$Ear" "habitSet" "I", Cond.methodLink RL 44 yX8_habits, Cond.instanceMethod yX8_habits, Cond.selects RX8 yX8_habits yX8_habits, Cond.code yX8_habits cX8_habits 4 (some .int), Cond.methodLink RL 45 yX7_merge, Cond.instanceMethod yX7_merge, Cond.selects RX7 yX7_merge yX7_merge, Cond.code yX7_merge cX7_merge 5 (some .int), Cond.methodLink RX7 144 yX7_canMerge, Cond.static yX7_canMerge, Cond.code yX7_canMerge cX7_canMerge 2 (some .boolean), Cond.methodLink RX7 148 yX2_mergeClasses, Cond.instanceMethod yX2_mergeClasses, Cond.selects RX2 yX2_mergeClasses yX2_mergeClasses, Cond.code yX2_mergeClasses cX2_mergeClasses 7 none, Cond.methodLink RX2 49 yX2_loseSameSecond, Cond.methodLink RX2 53 yX2_remember, Cond.instanceMethod yX2_remember]
def wsL_law_r14 : List Cond := [Cond.selects RX2 yX2_remember yX2_remember, Cond.code yX2_remember cX2_remember 5 none, Cond.methodLink RX2 57 yX2_forgetOldest, Cond.instanceMethod yX2_forgetOldest, Cond.selects RX2 yX2_forgetOldest yX2_forgetOldest, Cond.code yX2_forgetOldest cX2_forgetOldest 1 none, Cond.methodLink RX7 152 yX2_lettersOf, Cond.instanceMethod yX2_lettersOf, Cond.selects RX2 yX2_lettersOf yX2_lettersOf, Cond.code yX2_lettersOf cX2_lettersOf 4 (some .int), Cond.methodLink RX7 156 yJ6_bitCount_0f7a4, Cond.static yJ6_bitCount_0f7a4, Cond.initialized RJ6, Cond.code yJ6_bitCount_0f7a4 cJ6_bitCount_0f7a4 1 (some .int), Cond.constant RJ6 265 (1431655765), Cond.constant RJ6 266 (858993459), Cond.constant RJ6 267 (252645135), Cond.methodLink RL 48 yX8_merge, Cond.instanceMethod yX8_merge, Cond.selects RX8 yX8_merge yX8_merge, Cond.code yX8_merge cX8_merge 4 (some .int), Cond.methodLink RX8 184 yX8_areKinds, Cond.static yX8_areKinds, Cond.code yX8_areKinds cX8_areKinds 2 (some .boolean)]
def wsL_law_r15 : List Cond := [Cond.methodLink RX8 187 yX8_mergeKinds, Cond.instanceMethod yX8_mergeKinds, Cond.selects RX8 yX8_mergeKinds yX8_mergeKinds, Cond.code yX8_mergeKinds cX8_mergeKinds 9 none, Cond.methodLink RX8 178 yX8_lettersOf, Cond.instanceMethod yX8_lettersOf, Cond.selects RX8 yX8_lettersOf yX8_lettersOf, Cond.code yX8_lettersOf cX8_lettersOf 5 (some .int), Cond.methodLink RX8 181 yX8_forgetOldest, Cond.instanceMethod yX8_forgetOldest, Cond.selects RX8 yX8_forgetOldest yX8_forgetOldest, Cond.code yX8_forgetOldest cX8_forgetOldest 3 none, Cond.methodLink RX8 153 yX8_bits, Cond.static yX8_bits, Cond.code yX8_bits cX8_bits 3 (some .int), Cond.methodLink RL 49 yX7_split, Cond.instanceMethod yX7_split, Cond.selects RX7 yX7_split yX7_split, Cond.code yX7_split cX7_split 3 (some .int), Cond.fieldLink RX7 161 "ConsonantIndex$Ear" "mergers" "I", Cond.methodLink RX7 164 yX2_splitLatest, Cond.instanceMethod yX2_splitLatest, Cond.selects RX2 yX2_splitLatest yX2_splitLatest, Cond.code yX2_splitLatest cX2_splitLatest 5 (some .int)]
def wsL_law_r16 : List Cond := [Cond.methodLink RL 52 yX8_split, Cond.instanceMethod yX8_split, Cond.selects RX8 yX8_split yX8_split, Cond.code yX8_split cX8_split 8 (some .int), Cond.methodLink RL 53 yX7_name, Cond.instanceMethod yX7_name, Cond.selects RX7 yX7_name yX7_name, Cond.code yX7_name cX7_name 6 (some .int), Cond.methodLink RX7 167 yX6_size, Cond.static yX6_size, Cond.code yX6_size cX6_size 3 (some .int), Cond.methodLink RX6 13 yX6_letterAt, Cond.static yX6_letterAt, Cond.code yX6_letterAt cX6_letterAt 3 (some .int), Cond.constantLong RX6 11 (31), Cond.methodLink RX7 170 yX6_letterAt, Cond.methodLink RX7 174 yX6_letterSet, Cond.static yX6_letterSet, Cond.code yX6_letterSet cX6_letterSet 5 (some .int), Cond.methodLink RX6 17 yX6_size, Cond.methodLink RL 56 yX8_name, Cond.instanceMethod yX8_name, Cond.selects RX8 yX8_name yX8_name, Cond.code yX8_name cX8_name 3 (some .int)]
def wsL_law_r17 : List Cond := [Cond.methodLink RX8 190 yX8_letterSet, Cond.instanceMethod yX8_letterSet, Cond.selects RX8 yX8_letterSet yX8_letterSet, Cond.code yX8_letterSet cX8_letterSet 4 (some .int), Cond.methodLink RL 57 yX7_of, Cond.instanceMethod yX7_of, Cond.selects RX7 yX7_of yX7_of, Cond.code yX7_of cX7_of 5 (some .int), Cond.methodLink RL 60 yX8_of, Cond.instanceMethod yX8_of, Cond.selects RX8 yX8_of yX8_of, Cond.code yX8_of cX8_of 5 (some .int), Cond.methodLink RL 61 yX7_ofEar, Cond.instanceMethod yX7_ofEar, Cond.selects RX7 yX7_ofEar yX7_ofEar, Cond.code yX7_ofEar cX7_ofEar 4 (some .int), Cond.fieldLink RX7 181 "ConsonantIndex$Drawers" "drawerCount" "I", Cond.methodLink RX7 177 yX1_fill, Cond.instanceMethod yX1_fill, Cond.selects RX1 yX1_fill yX1_fill, Cond.code yX1_fill cX1_fill 7 none, Cond.fieldLink RX1 27 "ConsonantIndex$State" "nameCount" "I", Cond.fieldLink RX1 33 "ConsonantIndex$Drawers" "nameCount" "I", Cond.fieldLink RX1 34 "ConsonantIndex$Drawers" "drawerCount" "I"]
def wsL_law_r18 : List Cond := [Cond.fieldLink RX1 37 "ConsonantIndex$State" "words" "[J", Cond.fieldLink RX1 41 "ConsonantIndex$State" "codeLength" "I", Cond.methodLink RX1 44 yX2_writeCodes, Cond.instanceMethod yX2_writeCodes, Cond.selects RX2 yX2_writeCodes yX2_writeCodes, Cond.code yX2_writeCodes cX2_writeCodes 11 (some .int), Cond.methodLink RX2 60 yX2_waysToHear, Cond.instanceMethod yX2_waysToHear, Cond.selects RX2 yX2_waysToHear yX2_waysToHear, Cond.code yX2_waysToHear cX2_waysToHear 6 (some .int), Cond.methodLink RX2 68 yX6_letterAt, Cond.methodLink RX2 74 yX6_isLetter, Cond.methodLink RX2 78 yX2_byHabit, Cond.instanceMethod yX2_byHabit, Cond.selects RX2 yX2_byHabit yX2_byHabit, Cond.code yX2_byHabit cX2_byHabit 6 (some .int), Cond.methodLink RX2 64 yX2_codeByWay, Cond.instanceMethod yX2_codeByWay, Cond.selects RX2 yX2_codeByWay yX2_codeByWay, Cond.code yX2_codeByWay cX2_codeByWay 13 (some .int), Cond.methodLink RX2 81 yX0_with, Cond.static yX0_with, Cond.initialized RX0, Cond.code yX0_with cX0_with 2 (some .int)]
def wsL_law_r19 : List Cond := [Cond.methodLink RX1 50 yX1_drawerFor, Cond.instanceMethod yX1_drawerFor, Cond.selects RX1 yX1_drawerFor yX1_drawerFor, Cond.code yX1_drawerFor cX1_drawerFor 3 (some .int), Cond.methodLink RX7 184 yX1_namesInFullest, Cond.instanceMethod yX1_namesInFullest, Cond.selects RX1 yX1_namesInFullest yX1_namesInFullest, Cond.code yX1_namesInFullest cX1_namesInFullest 3 (some .int), Cond.methodLink RX1 62 Lib.Math.max.name, Cond.static Lib.Math.max.name, Cond.initialized "java/lang/Math", Cond.code Lib.Math.max.name Lib.Math.max.code 2 (some .int), Cond.methodLink RX1 57 yJ6_bitCount_0f7a4, Cond.methodLink RX7 187 yX1_namesInSeveral, Cond.instanceMethod yX1_namesInSeveral, Cond.selects RX1 yX1_namesInSeveral yX1_namesInSeveral, Cond.code yX1_namesInSeveral cX1_namesInSeveral 3 (some .int), Cond.methodLink RX7 190 yX1_alikePairs, Cond.instanceMethod yX1_alikePairs, Cond.selects RX1 yX1_alikePairs yX1_alikePairs, Cond.code yX1_alikePairs cX1_alikePairs 3 (some .int), Cond.methodLink RX1 74 yX1_namesLike, Cond.instanceMethod yX1_namesLike, Cond.selects RX1 yX1_namesLike yX1_namesLike]
def wsL_law_r20 : List Cond := [Cond.code yX1_namesLike cX1_namesLike 5 (some .int), Cond.methodLink RX1 54 yX1_codesOf, Cond.instanceMethod yX1_codesOf, Cond.selects RX1 yX1_codesOf yX1_codesOf, Cond.code yX1_codesOf cX1_codesOf 2 (some .int), Cond.methodLink RX1 68 yX1_drawerOf, Cond.instanceMethod yX1_drawerOf, Cond.selects RX1 yX1_drawerOf yX1_drawerOf, Cond.code yX1_drawerOf cX1_drawerOf 3 (some .int), Cond.methodLink RX1 71 yX1_namesAt, Cond.instanceMethod yX1_namesAt, Cond.selects RX1 yX1_namesAt yX1_namesAt, Cond.code yX1_namesAt cX1_namesAt 2 (some .int), Cond.methodLink RX7 193 yX2_lettersWithSecond, Cond.instanceMethod yX2_lettersWithSecond, Cond.selects RX2 yX2_lettersWithSecond yX2_lettersWithSecond, Cond.code yX2_lettersWithSecond cX2_lettersWithSecond 3 (some .int), Cond.methodLink RL 64 yX8_ofEar, Cond.instanceMethod yX8_ofEar, Cond.selects RX8 yX8_ofEar yX8_ofEar, Cond.code yX8_ofEar cX8_ofEar 3 (some .int), Cond.fieldLink RX8 130 "ConsonantIndexModel" "drawerMany" "I", Cond.methodLink RX8 147 yX8_hearAll, Cond.instanceMethod yX8_hearAll]
def wsL_law_r21 : List Cond := [Cond.selects RX8 yX8_hearAll yX8_hearAll, Cond.code yX8_hearAll cX8_hearAll 4 none, Cond.fieldLink RX8 123 "ConsonantIndexModel" "codeMany" "I", Cond.methodLink RX8 99 yX8_takeName, Cond.instanceMethod yX8_takeName, Cond.selects RX8 yX8_takeName yX8_takeName, Cond.code yX8_takeName cX8_takeName 3 none, Cond.methodLink RX8 133 yX8_hearWord, Cond.instanceMethod yX8_hearWord, Cond.selects RX8 yX8_hearWord yX8_hearWord, Cond.code yX8_hearWord cX8_hearWord 7 none, Cond.methodLink RX8 126 yX8_codeBy, Cond.instanceMethod yX8_codeBy, Cond.selects RX8 yX8_codeBy yX8_codeBy, Cond.code yX8_codeBy cX8_codeBy 12 (some .long), Cond.constantLong RX8 119 (64), Cond.constantLong RX8 121 (1073741824), Cond.methodLink RX8 116 yX8_byHabit, Cond.instanceMethod yX8_byHabit, Cond.selects RX8 yX8_byHabit yX8_byHabit, Cond.code yX8_byHabit cX8_byHabit 5 (some .int), Cond.methodLink RX8 109 yX8_hasHabit, Cond.instanceMethod yX8_hasHabit, Cond.selects RX8 yX8_hasHabit yX8_hasHabit]
def wsL_law_r22 : List Cond := [Cond.code yX8_hasHabit cX8_hasHabit 3 (some .boolean), Cond.methodLink RX8 113 yX8_isBehindOne, Cond.instanceMethod yX8_isBehindOne, Cond.selects RX8 yX8_isBehindOne yX8_isBehindOne, Cond.code yX8_isBehindOne cX8_isBehindOne 3 (some .boolean), Cond.methodLink RX8 136 yX8_drawerWith, Cond.instanceMethod yX8_drawerWith, Cond.selects RX8 yX8_drawerWith yX8_drawerWith, Cond.code yX8_drawerWith cX8_drawerWith 5 (some .int), Cond.methodLink RX8 196 yX8_fullest, Cond.instanceMethod yX8_fullest, Cond.selects RX8 yX8_fullest yX8_fullest, Cond.code yX8_fullest cX8_fullest 4 (some .int), Cond.methodLink RX8 193 yX8_namesWith, Cond.instanceMethod yX8_namesWith, Cond.selects RX8 yX8_namesWith yX8_namesWith, Cond.code yX8_namesWith cX8_namesWith 5 (some .int), Cond.methodLink RX8 140 yX8_hasCode, Cond.instanceMethod yX8_hasCode, Cond.selects RX8 yX8_hasCode yX8_hasCode, Cond.code yX8_hasCode cX8_hasCode 6 (some .boolean), Cond.methodLink RX8 199 yX8_namesInTwo, Cond.instanceMethod yX8_namesInTwo, Cond.selects RX8 yX8_namesInTwo yX8_namesInTwo]
def wsL_law_r23 : List Cond := [Cond.code yX8_namesInTwo cX8_namesInTwo 3 (some .int), Cond.methodLink RX8 202 yX8_pairs, Cond.instanceMethod yX8_pairs, Cond.selects RX8 yX8_pairs yX8_pairs, Cond.code yX8_pairs cX8_pairs 4 (some .int), Cond.methodLink RX8 150 yX8_likeOnes, Cond.instanceMethod yX8_likeOnes, Cond.selects RX8 yX8_likeOnes yX8_likeOnes, Cond.code yX8_likeOnes cX8_likeOnes 4 (some .int), Cond.methodLink RX8 144 yX8_haveCommon, Cond.instanceMethod yX8_haveCommon, Cond.selects RX8 yX8_haveCommon yX8_haveCommon, Cond.code yX8_haveCommon cX8_haveCommon 5 (some .boolean), Cond.methodLink RX8 205 yX8_lettersWithSecond, Cond.instanceMethod yX8_lettersWithSecond, Cond.selects RX8 yX8_lettersWithSecond yX8_lettersWithSecond, Cond.code yX8_lettersWithSecond cX8_lettersWithSecond 4 (some .int), Cond.methodLink RL 65 yX7_code, Cond.instanceMethod yX7_code, Cond.selects RX7 yX7_code yX7_code, Cond.code yX7_code cX7_code 9 (some .int), Cond.methodLink RX7 196 yX1_codesOf, Cond.methodLink RX7 199 yX1_drawerOf, Cond.methodLink RX7 203 yX1_codeAt]
def wsL_law_r24 : List Cond := [Cond.instanceMethod yX1_codeAt, Cond.selects RX1 yX1_codeAt yX1_codeAt, Cond.code yX1_codeAt cX1_codeAt 2 (some .int), Cond.methodLink RX7 206 yX0_size, Cond.static yX0_size, Cond.code yX0_size cX0_size 2 (some .int), Cond.methodLink RX7 210 yX0_numberAt, Cond.static yX0_numberAt, Cond.code yX0_numberAt cX0_numberAt 3 (some .int), Cond.methodLink RX0 11 yX0_size, Cond.methodLink RL 69 yX8_code, Cond.instanceMethod yX8_code, Cond.selects RX8 yX8_code yX8_code, Cond.code yX8_code cX8_code 7 (some .int), Cond.methodLink RX8 210 yX8_lengthOfCode, Cond.static yX8_lengthOfCode, Cond.code yX8_lengthOfCode cX8_lengthOfCode 2 (some .int), Cond.methodLink RX8 213 yX8_numberOf, Cond.static yX8_numberOf, Cond.code yX8_numberOf cX8_numberOf 3 (some .int), Cond.constantLong RX8 208 (63), Cond.methodLink RL 70 yX7_drawer, Cond.instanceMethod yX7_drawer, Cond.selects RX7 yX7_drawer yX7_drawer]
def wsL_law_r25 : List Cond := [Cond.code yX7_drawer cX7_drawer 5 (some .int), Cond.methodLink RX7 213 yX1_namesAt, Cond.methodLink RX7 216 yX1_byCode, Cond.instanceMethod yX1_byCode, Cond.selects RX1 yX1_byCode yX1_byCode, Cond.code yX1_byCode cX1_byCode 5 (some .int), Cond.methodLink RL 73 yX8_drawer, Cond.instanceMethod yX8_drawer, Cond.selects RX8 yX8_drawer yX8_drawer, Cond.code yX8_drawer cX8_drawer 4 (some .int), Cond.methodLink RX8 217 yX8_codeAt, Cond.instanceMethod yX8_codeAt, Cond.selects RX8 yX8_codeAt yX8_codeAt, Cond.code yX8_codeAt cX8_codeAt 7 (some .long), Cond.methodLink RL 74 yX7_count, Cond.instanceMethod yX7_count, Cond.selects RX7 yX7_count yX7_count, Cond.code yX7_count cX7_count 2 (some .int), Cond.methodLink RX7 219 yX5_lettersInNames, Cond.instanceMethod yX5_lettersInNames, Cond.selects RX5 yX5_lettersInNames yX5_lettersInNames, Cond.code yX5_lettersInNames cX5_lettersInNames 3 (some .int), Cond.methodLink RX5 45 yX6_letterSet, Cond.methodLink RL 77 yX8_count]
def wsL_law_r26 : List Cond := [Cond.instanceMethod yX8_count, Cond.selects RX8 yX8_count yX8_count, Cond.code yX8_count cX8_count 4 (some .int), Cond.methodLink RL 78 yX7_alike, Cond.instanceMethod yX7_alike, Cond.selects RX7 yX7_alike yX7_alike, Cond.code yX7_alike cX7_alike 5 (some .int), Cond.methodLink RX7 222 yX1_namesLike, Cond.methodLink RL 81 yX8_alike, Cond.instanceMethod yX8_alike, Cond.selects RX8 yX8_alike yX8_alike, Cond.code yX8_alike cX8_alike 4 (some .int), Cond.methodLink RL 82 yX7_distance, Cond.instanceMethod yX7_distance, Cond.selects RX7 yX7_distance yX7_distance, Cond.code yX7_distance cX7_distance 3 (some .int), Cond.methodLink RX7 225 yX3_between, Cond.instanceMethod yX3_between, Cond.selects RX3 yX3_between yX3_between, Cond.code yX3_between cX3_between 12 (some .int), Cond.methodLink RX3 28 Lib.Math.min.name, Cond.static Lib.Math.min.name, Cond.code Lib.Math.min.name Lib.Math.min.code 2 (some .int), Cond.methodLink RX3 18 yX6_size]
def wsL_law_r27 : List Cond := [Cond.methodLink RX3 24 yX6_letterAt, Cond.methodLink RL 85 yX8_distance, Cond.instanceMethod yX8_distance, Cond.selects RX8 yX8_distance yX8_distance, Cond.code yX8_distance cX8_distance 3 (some .int), Cond.methodLink RX8 103 yX8_distanceTo, Cond.instanceMethod yX8_distanceTo, Cond.selects RX8 yX8_distanceTo yX8_distanceTo, Cond.code yX8_distanceTo cX8_distanceTo 7 (some .int), Cond.methodLink RX8 96 yX8_least, Cond.static yX8_least, Cond.code yX8_least cX8_least 2 (some .int), Cond.methodLink RL 86 yX7_find, Cond.instanceMethod yX7_find, Cond.selects RX7 yX7_find yX7_find, Cond.code yX7_find cX7_find 8 (some .int), Cond.methodLink RX7 229 yX1_namesHeardLike, Cond.instanceMethod yX1_namesHeardLike, Cond.selects RX1 yX1_namesHeardLike yX1_namesHeardLike, Cond.code yX1_namesHeardLike cX1_namesHeardLike 9 (some .int), Cond.methodLink RX7 233 yX3_ranked, Cond.instanceMethod yX3_ranked, Cond.selects RX3 yX3_ranked yX3_ranked, Cond.code yX3_ranked cX3_ranked 7 (some .int)]
def wsL_law_r28 : List Cond := [Cond.fieldLink RX3 34 "ConsonantIndex$State" "nameCount" "I", Cond.fieldLink RX3 40 "ConsonantIndex$State" "words" "[J", Cond.methodLink RX3 44 yX3_between, Cond.methodLink RX3 48 yX3_namesAhead, Cond.instanceMethod yX3_namesAhead, Cond.selects RX3 yX3_namesAhead yX3_namesAhead, Cond.code yX3_namesAhead cX3_namesAhead 6 (some .int), Cond.methodLink RL 89 yX8_find, Cond.instanceMethod yX8_find, Cond.selects RX8 yX8_find yX8_find, Cond.code yX8_find cX8_find 6 (some .int), Cond.methodLink RX8 221 yX8_isLikeWord, Cond.instanceMethod yX8_isLikeWord, Cond.selects RX8 yX8_isLikeWord yX8_isLikeWord, Cond.code yX8_isLikeWord cX8_isLikeWord 4 (some .boolean), Cond.methodLink RX8 224 yX8_aheadOf, Cond.instanceMethod yX8_aheadOf, Cond.selects RX8 yX8_aheadOf yX8_aheadOf, Cond.code yX8_aheadOf cX8_aheadOf 6 (some .int), Cond.methodLink RL 90 yX7_ifMerged, Cond.instanceMethod yX7_ifMerged, Cond.selects RX7 yX7_ifMerged yX7_ifMerged, Cond.code yX7_ifMerged cX7_ifMerged 6 (some .int), Cond.methodLink RX7 237 yX7_fillAsIfMerged]
def wsL_law_r29 : List Cond := [Cond.instanceMethod yX7_fillAsIfMerged, Cond.selects RX7 yX7_fillAsIfMerged yX7_fillAsIfMerged, Cond.code yX7_fillAsIfMerged cX7_fillAsIfMerged 4 none, Cond.methodLink RL 93 yX8_ifMerged, Cond.instanceMethod yX8_ifMerged, Cond.selects RX8 yX8_ifMerged yX8_ifMerged, Cond.code yX8_ifMerged cX8_ifMerged 5 (some .int), Cond.methodLink RX8 227 yX8_behindMerger, Cond.instanceMethod yX8_behindMerger, Cond.selects RX8 yX8_behindMerger yX8_behindMerger, Cond.code yX8_behindMerger cX8_behindMerger 6 (some .int), Cond.methodLink RL 94 yX7_bestMerger, Cond.instanceMethod yX7_bestMerger, Cond.selects RX7 yX7_bestMerger yX7_bestMerger, Cond.code yX7_bestMerger cX7_bestMerger 10 (some .int), Cond.methodLink RL 97 yX8_bestMerger, Cond.instanceMethod yX8_bestMerger, Cond.selects RX8 yX8_bestMerger yX8_bestMerger, Cond.code yX8_bestMerger cX8_bestMerger 11 (some .int), Cond.methodLink RL 98 yX7_quarrel, Cond.instanceMethod yX7_quarrel, Cond.selects RX7 yX7_quarrel yX7_quarrel, Cond.code yX7_quarrel cX7_quarrel 7 (some .int), Cond.methodLink RL 101 yX8_quarrel]
def wsL_law_r30 : List Cond := [Cond.instanceMethod yX8_quarrel, Cond.selects RX8 yX8_quarrel yX8_quarrel, Cond.code yX8_quarrel cX8_quarrel 5 (some .int), Cond.methodLink RL 102 yX7_deafest, Cond.instanceMethod yX7_deafest, Cond.selects RX7 yX7_deafest yX7_deafest, Cond.code yX7_deafest cX7_deafest 6 (some .int), Cond.methodLink RL 105 yX8_deafest, Cond.instanceMethod yX8_deafest, Cond.selects RX8 yX8_deafest yX8_deafest, Cond.code yX8_deafest cX8_deafest 5 (some .int), Cond.methodLink RL 108 yX7_put, Cond.instanceMethod yX7_put, Cond.selects RX7 yX7_put yX7_put, Cond.code yX7_put cX7_put 4 (some .int), Cond.methodLink RX7 241 yX4_charactersIn, Cond.static yX4_charactersIn, Cond.code yX4_charactersIn cX4_charactersIn 7 (some .int), Cond.constantLong RX4 19 (255), Cond.constantLong RX4 21 (33), Cond.constantLong RX4 23 (126), Cond.methodLink RX7 244 yX4_append, Cond.instanceMethod yX4_append, Cond.selects RX4 yX4_append yX4_append]
def wsL_law_r31 : List Cond := [Cond.code yX4_append cX4_append 5 none, Cond.methodLink RL 112 yX8_put, Cond.instanceMethod yX8_put, Cond.selects RX8 yX8_put yX8_put, Cond.code yX8_put cX8_put 7 (some .int), Cond.constantLong RX8 66 (255), Cond.methodLink RL 113 yX7_wipe, Cond.instanceMethod yX7_wipe, Cond.selects RX7 yX7_wipe yX7_wipe, Cond.code yX7_wipe cX7_wipe 2 (some .int), Cond.methodLink RL 116 yX8_wipe, Cond.instanceMethod yX8_wipe, Cond.selects RX8 yX8_wipe yX8_wipe, Cond.code yX8_wipe cX8_wipe 2 (some .int), Cond.methodLink RL 117 yX7_fault, Cond.instanceMethod yX7_fault, Cond.selects RX7 yX7_fault yX7_fault, Cond.code yX7_fault cX7_fault 1 (some .int), Cond.methodLink RL 120 yX8_fault, Cond.instanceMethod yX8_fault, Cond.selects RX8 yX8_fault yX8_fault, Cond.code yX8_fault cX8_fault 1 (some .int), Cond.methodLink RL 121 yX7_undo, Cond.instanceMethod yX7_undo]
def wsL_law_r32 : List Cond := [Cond.selects RX7 yX7_undo yX7_undo, Cond.code yX7_undo cX7_undo 1 (some .int), Cond.methodLink RL 124 yX8_undo, Cond.instanceMethod yX8_undo, Cond.selects RX8 yX8_undo yX8_undo, Cond.code yX8_undo cX8_undo 1 (some .int), Cond.methodLink RL 125 yX7_save, Cond.instanceMethod yX7_save, Cond.selects RX7 yX7_save yX7_save, Cond.code yX7_save cX7_save 2 (some .int), Cond.methodLink RL 128 yX8_save, Cond.instanceMethod yX8_save, Cond.selects RX8 yX8_save yX8_save, Cond.code yX8_save cX8_save 2 (some .int), Cond.methodLink RL 129 yX7_restore, Cond.instanceMethod yX7_restore, Cond.selects RX7 yX7_restore yX7_restore, Cond.code yX7_restore cX7_restore 2 (some .int), Cond.methodLink RL 132 yX8_restore, Cond.instanceMethod yX8_restore, Cond.selects RX8 yX8_restore yX8_restore, Cond.code yX8_restore cX8_restore 2 (some .int)]
def wsL_law : List Cond := (wsL_law_r1 ++ (wsL_law_r2 ++ (wsL_law_r3 ++ (wsL_law_r4 ++ (wsL_law_r5 ++ (wsL_law_r6 ++ (wsL_law_r7 ++ (wsL_law_r8 ++ (wsL_law_r9 ++ (wsL_law_r10 ++ (wsL_law_r11 ++ (wsL_law_r12 ++ (wsL_law_r13 ++ (wsL_law_r14 ++ (wsL_law_r15 ++ (wsL_law_r16 ++ (wsL_law_r17 ++ (wsL_law_r18 ++ (wsL_law_r19 ++ (wsL_law_r20 ++ (wsL_law_r21 ++ (wsL_law_r22 ++ (wsL_law_r23 ++ (wsL_law_r24 ++ (wsL_law_r25 ++ (wsL_law_r26 ++ (wsL_law_r27 ++ (wsL_law_r28 ++ (wsL_law_r29 ++ (wsL_law_r30 ++ (wsL_law_r31 ++ wsL_law_r32))))))))))))))))))))))))))))))) ++ wsX70 ++ wsX80 ++ wsX50 ++ wsX40 ++ wsX10 ++ wsX20 ++ wsX30 ++ ([] : List Cond)
set_option maxRecDepth 20000 in
theorem wsL_law_one : True := trivial
set_option maxRecDepth 20000 in
theorem in_wsL_law_r1 : ∀ w ∈ wsL_law_r1, w ∈ lw_tbl := fun w h => (goodIn_p wsL_law_r1 [56, 59] (by decide +kernel) (by decide +kernel) w h).1
set_option maxRecDepth 20000 in
theorem in_wsL_law_r2 : ∀ w ∈ wsL_law_r2, w ∈ lw_tbl := fun w h => (goodIn_p wsL_law_r2 [64] (by decide +kernel) (by decide +kernel) w h).1
set_option maxRecDepth 20000 in
theorem in_wsL_law_r3 : ∀ w ∈ wsL_law_r3, w ∈ lw_tbl := fun w h => (goodIn_p wsL_law_r3 [71, 76, 145] (by decide +kernel) (by decide +kernel) w h).1
set_option maxRecDepth 20000 in
theorem in_wsL_law_r4 : ∀ w ∈ wsL_law_r4, w ∈ lw_tbl := fun w h => (goodIn_p wsL_law_r4 [161, 192, 573] (by decide +kernel) (by decide +kernel) w h).1
set_option maxRecDepth 20000 in
theorem in_wsL_law_r5 : ∀ w ∈ wsL_law_r5, w ∈ lw_tbl := fun w h => (goodIn_p wsL_law_r5 [235, 238, 242] (by decide +kernel) (by decide +kernel) w h).1
set_option maxRecDepth 20000 in
theorem in_wsL_law_r6 : ∀ w ∈ wsL_law_r6, w ∈ lw_tbl := fun w h => (goodIn_p wsL_law_r6 [246, 253, 655, 643, 651] (by decide +kernel) (by decide +kernel) w h).1
set_option maxRecDepth 20000 in
theorem in_wsL_law_r7 : ∀ w ∈ wsL_law_r7, w ∈ lw_tbl := fun w h => (goodIn_p wsL_law_r7 [636, 258, 262, 266, 269] (by decide +kernel) (by decide +kernel) w h).1
set_option maxRecDepth 20000 in
theorem in_wsL_law_r8 : ∀ w ∈ wsL_law_r8, w ∈ lw_tbl := fun w h => (goodIn_p wsL_law_r8 [273, 676, 672, 680, 684, 688] (by decide +kernel) (by decide +kernel) w h).1
set_option maxRecDepth 20000 in
theorem in_wsL_law_r9 : ∀ w ∈ wsL_law_r9, w ∈ lw_tbl := fun w h => (goodIn_p wsL_law_r9 [692, 277, 281, 285, 696, 700] (by decide +kernel) (by decide +kernel) w h).1
set_option maxRecDepth 20000 in
theorem in_wsL_law_r10 : ∀ w ∈ wsL_law_r10, w ∈ lw_tbl := fun w h => (goodIn_p wsL_law_r10 [289, 293, 719, 723, 727] (by decide +kernel) (by decide +kernel) w h).1
set_option maxRecDepth 20000 in
theorem in_wsL_law_r11 : ∀ w ∈ wsL_law_r11, w ∈ lw_tbl := fun w h => (goodIn_p wsL_law_r11 [731, 734, 299, 302, 305, 309] (by decide +kernel) (by decide +kernel) w h).1
set_option maxRecDepth 20000 in
theorem in_wsL_law_r12 : ∀ w ∈ wsL_law_r12, w ∈ lw_tbl := fun w h => (goodIn_p wsL_law_r12 [738, 741, 744, 748, 313, 752] (by decide +kernel) (by decide +kernel) w h).1
set_option maxRecDepth 20000 in
theorem in_wsL_law_r13 : ∀ w ∈ wsL_law_r13, w ∈ lw_tbl := fun w h => (goodIn_p wsL_law_r13 [756, 317, 760, 321, 324, 328] (by decide +kernel) (by decide +kernel) w h).1
set_option maxRecDepth 20000 in
theorem in_wsL_law_r14 : ∀ w ∈ wsL_law_r14, w ∈ lw_tbl := fun w h => (goodIn_p wsL_law_r14 [333, 337, 341, 344, 764, 767] (by decide +kernel) (by decide +kernel) w h).1
set_option maxRecDepth 20000 in
theorem in_wsL_law_r15 : ∀ w ∈ wsL_law_r15, w ∈ lw_tbl := fun w h => (goodIn_p wsL_law_r15 [771, 775, 779, 782, 351, 355] (by decide +kernel) (by decide +kernel) w h).1
set_option maxRecDepth 20000 in
theorem in_wsL_law_r16 : ∀ w ∈ wsL_law_r16, w ∈ lw_tbl := fun w h => (goodIn_p wsL_law_r16 [786, 359, 362, 365, 370, 790] (by decide +kernel) (by decide +kernel) w h).1
set_option maxRecDepth 20000 in
theorem in_wsL_law_r17 : ∀ w ∈ wsL_law_r17, w ∈ lw_tbl := fun w h => (goodIn_p wsL_law_r17 [794, 375, 798, 379, 383] (by decide +kernel) (by decide +kernel) w h).1
set_option maxRecDepth 20000 in
theorem in_wsL_law_r18 : ∀ w ∈ wsL_law_r18, w ∈ lw_tbl := fun w h => (goodIn_p wsL_law_r18 [387, 391, 397, 401, 404] (by decide +kernel) (by decide +kernel) w h).1
set_option maxRecDepth 20000 in
theorem in_wsL_law_r19 : ∀ w ∈ wsL_law_r19, w ∈ lw_tbl := fun w h => (goodIn_p wsL_law_r19 [408, 412, 416, 420, 424] (by decide +kernel) (by decide +kernel) w h).1
set_option maxRecDepth 20000 in
theorem in_wsL_law_r20 : ∀ w ∈ wsL_law_r20, w ∈ lw_tbl := fun w h => (goodIn_p wsL_law_r20 [428, 432, 436, 440, 444, 802] (by decide +kernel) (by decide +kernel) w h).1
set_option maxRecDepth 20000 in
theorem in_wsL_law_r21 : ∀ w ∈ wsL_law_r21, w ∈ lw_tbl := fun w h => (goodIn_p wsL_law_r21 [806, 708, 810, 814, 818] (by decide +kernel) (by decide +kernel) w h).1
set_option maxRecDepth 20000 in
theorem in_wsL_law_r22 : ∀ w ∈ wsL_law_r22, w ∈ lw_tbl := fun w h => (goodIn_p wsL_law_r22 [822, 826, 832, 836, 840, 844] (by decide +kernel) (by decide +kernel) w h).1
set_option maxRecDepth 20000 in
theorem in_wsL_law_r23 : ∀ w ∈ wsL_law_r23, w ∈ lw_tbl := fun w h => (goodIn_p wsL_law_r23 [848, 852, 856, 860, 864, 448] (by decide +kernel) (by decide +kernel) w h).1
set_option maxRecDepth 20000 in
theorem in_wsL_law_r24 : ∀ w ∈ wsL_law_r24, w ∈ lw_tbl := fun w h => (goodIn_p wsL_law_r24 [454, 457, 460, 868, 871, 874] (by decide +kernel) (by decide +kernel) w h).1
set_option maxRecDepth 20000 in
theorem in_wsL_law_r25 : ∀ w ∈ wsL_law_r25, w ∈ lw_tbl := fun w h => (goodIn_p wsL_law_r25 [465, 470, 879, 883, 474, 478] (by decide +kernel) (by decide +kernel) w h).1
set_option maxRecDepth 20000 in
theorem in_wsL_law_r26 : ∀ w ∈ wsL_law_r26, w ∈ lw_tbl := fun w h => (goodIn_p wsL_law_r26 [887, 483, 891, 488, 492, 497] (by decide +kernel) (by decide +kernel) w h).1
set_option maxRecDepth 20000 in
theorem in_wsL_law_r27 : ∀ w ∈ wsL_law_r27, w ∈ lw_tbl := fun w h => (goodIn_p wsL_law_r27 [704, 712, 715, 501, 505, 509] (by decide +kernel) (by decide +kernel) w h).1
set_option maxRecDepth 20000 in
theorem in_wsL_law_r28 : ∀ w ∈ wsL_law_r28, w ∈ lw_tbl := fun w h => (goodIn_p wsL_law_r28 [514, 895, 899, 903, 518] (by decide +kernel) (by decide +kernel) w h).1
set_option maxRecDepth 20000 in
theorem in_wsL_law_r29 : ∀ w ∈ wsL_law_r29, w ∈ lw_tbl := fun w h => (goodIn_p wsL_law_r29 [522, 907, 911, 526, 915, 530] (by decide +kernel) (by decide +kernel) w h).1
set_option maxRecDepth 20000 in
theorem in_wsL_law_r30 : ∀ w ∈ wsL_law_r30, w ∈ lw_tbl := fun w h => (goodIn_p wsL_law_r30 [919, 534, 923, 538, 541] (by decide +kernel) (by decide +kernel) w h).1
set_option maxRecDepth 20000 in
theorem in_wsL_law_r31 : ∀ w ∈ wsL_law_r31, w ∈ lw_tbl := fun w h => (goodIn_p wsL_law_r31 [548, 659, 552, 664, 556, 668] (by decide +kernel) (by decide +kernel) w h).1
set_option maxRecDepth 20000 in
theorem in_wsL_law_r32 : ∀ w ∈ wsL_law_r32, w ∈ lw_tbl := fun w h => (goodIn_p wsL_law_r32 [560, 633, 564, 640, 568, 647] (by decide +kernel) (by decide +kernel) w h).1
theorem in_wsX70 : ∀ w ∈ wsX70, w ∈ lw_tbl := by decide +kernel
theorem in_wsX80 : ∀ w ∈ wsX80, w ∈ lw_tbl := by decide +kernel
theorem in_wsX50 : ∀ w ∈ wsX50, w ∈ lw_tbl := by decide +kernel
theorem in_wsX40 : ∀ w ∈ wsX40, w ∈ lw_tbl := by decide +kernel
theorem in_wsX10 : ∀ w ∈ wsX10, w ∈ lw_tbl := by decide +kernel
theorem in_wsX20 : ∀ w ∈ wsX20, w ∈ lw_tbl := by decide +kernel
theorem in_wsX30 : ∀ w ∈ wsX30, w ∈ lw_tbl := by decide +kernel
theorem wsL_law_in : ∀ w ∈ wsL_law, w ∈ lw_tbl := List.forall_mem_append.mpr ⟨List.forall_mem_append.mpr ⟨List.forall_mem_append.mpr ⟨List.forall_mem_append.mpr ⟨List.forall_mem_append.mpr ⟨List.forall_mem_append.mpr ⟨List.forall_mem_append.mpr ⟨List.forall_mem_append.mpr ⟨List.forall_mem_append.mpr ⟨in_wsL_law_r1, List.forall_mem_append.mpr ⟨in_wsL_law_r2, List.forall_mem_append.mpr ⟨in_wsL_law_r3, List.forall_mem_append.mpr ⟨in_wsL_law_r4, List.forall_mem_append.mpr ⟨in_wsL_law_r5, List.forall_mem_append.mpr ⟨in_wsL_law_r6, List.forall_mem_append.mpr ⟨in_wsL_law_r7, List.forall_mem_append.mpr ⟨in_wsL_law_r8, List.forall_mem_append.mpr ⟨in_wsL_law_r9, List.forall_mem_append.mpr ⟨in_wsL_law_r10, List.forall_mem_append.mpr ⟨in_wsL_law_r11, List.forall_mem_append.mpr ⟨in_wsL_law_r12, List.forall_mem_append.mpr ⟨in_wsL_law_r13, List.forall_mem_append.mpr ⟨in_wsL_law_r14, List.forall_mem_append.mpr ⟨in_wsL_law_r15, List.forall_mem_append.mpr ⟨in_wsL_law_r16, List.forall_mem_append.mpr ⟨in_wsL_law_r17, List.forall_mem_append.mpr ⟨in_wsL_law_r18, List.forall_mem_append.mpr ⟨in_wsL_law_r19, List.forall_mem_append.mpr ⟨in_wsL_law_r20, List.forall_mem_append.mpr ⟨in_wsL_law_r21, List.forall_mem_append.mpr ⟨in_wsL_law_r22, List.forall_mem_append.mpr ⟨in_wsL_law_r23, List.forall_mem_append.mpr ⟨in_wsL_law_r24, List.forall_mem_append.mpr ⟨in_wsL_law_r25, List.forall_mem_append.mpr ⟨in_wsL_law_r26, List.forall_mem_append.mpr ⟨in_wsL_law_r27, List.forall_mem_append.mpr ⟨in_wsL_law_r28, List.forall_mem_append.mpr ⟨in_wsL_law_r29, List.forall_mem_append.mpr ⟨in_wsL_law_r30, List.forall_mem_append.mpr ⟨in_wsL_law_r31, in_wsL_law_r32⟩⟩⟩⟩⟩⟩⟩⟩⟩⟩⟩⟩⟩⟩⟩⟩⟩⟩⟩⟩⟩⟩⟩⟩⟩⟩⟩⟩⟩⟩⟩, in_wsX70⟩, in_wsX80⟩, in_wsX50⟩, in_wsX40⟩, in_wsX10⟩, in_wsX20⟩, in_wsX30⟩, fun _ h => absurd h List.not_mem_nil⟩
theorem inX0 : ∀ w ∈ wsX00, w ∈ lw_tbl := by decide +kernel
theorem inlX1 : ∀ w ∈ wsX10, w ∈ wsL_law := fun _ h => List.mem_append_left _ (List.mem_append_left _ (List.mem_append_left _ (List.mem_append_right _ h)))
theorem inX1 : ∀ w ∈ wsX10, w ∈ lw_tbl := fun w h => wsL_law_in w (inlX1 w h)
theorem inlX2 : ∀ w ∈ wsX20, w ∈ wsL_law := fun _ h => List.mem_append_left _ (List.mem_append_left _ (List.mem_append_right _ h))
theorem inX2 : ∀ w ∈ wsX20, w ∈ lw_tbl := fun w h => wsL_law_in w (inlX2 w h)
theorem inlX3 : ∀ w ∈ wsX30, w ∈ wsL_law := fun _ h => List.mem_append_left _ (List.mem_append_right _ h)
theorem inX3 : ∀ w ∈ wsX30, w ∈ lw_tbl := fun w h => wsL_law_in w (inlX3 w h)
theorem inlX4 : ∀ w ∈ wsX40, w ∈ wsL_law := fun _ h => List.mem_append_left _ (List.mem_append_left _ (List.mem_append_left _ (List.mem_append_left _ (List.mem_append_right _ h))))
theorem inX4 : ∀ w ∈ wsX40, w ∈ lw_tbl := fun w h => wsL_law_in w (inlX4 w h)
theorem inlX5 : ∀ w ∈ wsX50, w ∈ wsL_law := fun _ h => List.mem_append_left _ (List.mem_append_left _ (List.mem_append_left _ (List.mem_append_left _ (List.mem_append_left _ (List.mem_append_right _ h)))))
theorem inX5 : ∀ w ∈ wsX50, w ∈ lw_tbl := fun w h => wsL_law_in w (inlX5 w h)
theorem inX6 : ∀ w ∈ wsX60, w ∈ lw_tbl := by decide +kernel
theorem inlX7 : ∀ w ∈ wsX70, w ∈ wsL_law := fun _ h => List.mem_append_left _ (List.mem_append_left _ (List.mem_append_left _ (List.mem_append_left _ (List.mem_append_left _ (List.mem_append_left _ (List.mem_append_left _ (List.mem_append_right _ h)))))))
theorem inX7 : ∀ w ∈ wsX70, w ∈ lw_tbl := fun w h => wsL_law_in w (inlX7 w h)
theorem inlX8 : ∀ w ∈ wsX80, w ∈ wsL_law := fun _ h => List.mem_append_left _ (List.mem_append_left _ (List.mem_append_left _ (List.mem_append_left _ (List.mem_append_left _ (List.mem_append_left _ (List.mem_append_right _ h))))))
theorem inX8 : ∀ w ∈ wsX80, w ∈ lw_tbl := fun w h => wsL_law_in w (inlX8 w h)
theorem inJ6 : ∀ w ∈ wsJ60, w ∈ lw_tbl := by decide +kernel
theorem inJ9 : ∀ w ∈ wsJ90, w ∈ lw_tbl := by decide +kernel
theorem inJ10 : ∀ w ∈ wsJ100, w ∈ lw_tbl := by decide +kernel
abbrev vwCl : List vw_C := [(RX1, TX1, 7), (RX2, TX2, 8), (RX3, TX3, 2), (RX4, TX4, 2), (RX5, TX5, 6), (RX7, TX7, 10), (RX8, TX8, 18)]
end
section
/-! THE ABSTRACT MACHINE: one world for every method; references are numbers of cells, 'ad' gives their addresses -/
abbrev Hp : Type := (Nat → Nat → Int32) × (Nat → Nat → Int64) × (Nat → Nat → Nat)
abbrev Gx : Type := Launch × (Nat → Nat) × va_G × (Nat → ClassId)
abbrev MI : Type := List Cond × ByteArray × String × Nat × Option FieldType × Room
abbrev Zt : Type := Nat × Nat × (List Frame → Array Value → State → State → Prop)
abbrev Lo : Type := List (Nat × Option Value)
/-- the cells: number, kind, length -/
def cellsEar (k : Nat) : List (Nat × Nat × Nat) := [(k, 1, 0), (k + 1, 8, 26), (k + 2, 8, 26), (k + 3, 8, 6), (k + 4, 8, 6), (k + 5, 8, 6), (k + 6, 8, 6)]
def cellsState (b : Nat) : List (Nat × Nat × Nat) := [(b, 4, 0), (b + 1, 9, 24), (b + 2, 11, 4)] ++ (List.range 4).flatMap (fun e => cellsEar (b + 10 * (e + 1)))
def tbl : List (Nat × Nat × Nat) := [(0, 5, 0), (1, 12, 6), (2, 12, 2), (3, 10, 2), (4, 3, 0), (5, 7, 80), (6, 0, 0), (7, 8, 24), (8, 8, 96), (9, 8, 96), (10, 8, 96), (11, 8, 4), (12, 0, 0), (13, 8, 24), (14, 8, 96), (15, 8, 96), (16, 8, 96), (17, 8, 4), (18, 2, 0), (19, 8, 11), (20, 8, 24)] ++ cellsEar 30 ++ [(40, 6, 0), (41, 8, 580), (42, 8, 580), (43, 8, 3480), (44, 8, 1160), (45, 10, 2), (46, 8, 80), (47, 8, 10), (48, 9, 4), (49, 9, 96), (50, 8, 24), (51, 9, 96), (52, 8, 11), (53, 8, 24)] ++ (List.range 9).flatMap (fun s => cellsState (100 * (s + 1)))
def LX : List Nat := tbl.map (fun t => t.1)
def kd (k : Nat) : Nat := match tbl.find? (fun t => Nat.beq t.1 k) with
  | some t => t.2.1
  | none => 99
def ln (k : Nat) : Nat := match tbl.find? (fun t => Nat.beq t.1 k) with
  | some t => t.2.2
  | none => 0
def isC (k c n : Nat) : Prop := (k, c, n) ∈ tbl
theorem tbl_ok : ∀ t ∈ tbl, kd t.1 = t.2.1 ∧ ln t.1 = t.2.2 := by decide +kernel
theorem LX_nodup : va_nd LX = true := by decide +kernel
theorem isC.kd {k c n : Nat} (h : isC k c n) : kd k = c := (tbl_ok _ h).1
theorem isC.ln {k c n : Nat} (h : isC k c n) : ln k = n := (tbl_ok _ h).2
theorem isC.mem {k c n : Nat} (h : isC k c n) : k ∈ LX := List.mem_map.mpr ⟨_, h, rfl⟩
theorem isC.at {k c n : Nat} (h : isC k c n) : ∃ q : Nat, LX[q]? = some k := List.getElem?_of_mem h.mem
def cv (g : Gx) (v : Value) : Value := match v with
  | .ref k => .ref (g.2.1 k)
  | w => w
theorem cv_cat (g : Gx) (v : Value) : (cv g v).category = v.category := by cases v <;> rfl
/-- an object's fields, by its kind -/
def fl (h : Hp) (k : Nat) (c : Nat) : List Value := match c with
  | 0 => [.int (h.1 k 0), .ref (k + 1), .ref (k + 2), .int (h.1 k 3), .ref (k + 3), .ref (k + 4), .ref (k + 5)]
  | 1 => [.ref (k + 1), .ref (k + 2), .int (h.1 k 2), .int (h.1 k 3), .ref (k + 3), .ref (k + 4), .ref (k + 5), .ref (k + 6)]
  | 2 => [.ref (k + 1), .ref (k + 2)]
  | 3 => [.ref (k + 1), .int (h.1 k 1)]
  | 4 => [.int (h.1 k 0), .int (h.1 k 1), .int (h.1 k 2), .ref (k + 1), .int (h.1 k 4), .ref (k + 2)]
  | 5 => [.ref 100, .ref 1, .int (h.1 k 2), .ref 2, .ref 3, .ref 4, .ref 6, .ref 12, .ref 30, .ref 18]
  | 6 => [.ref 41, .ref 42, .ref 43, .int (h.1 k 3), .ref 44, .ref 45, .ref 46, .int (h.1 k 7), .ref 47, .int (h.1 k 9), .ref 48, .int (h.1 k 11), .ref 49, .ref 50, .ref 51, .int (h.1 k 15), .ref 52, .ref 53]
  | _ => []
/-- an array's class, length and contents, by its kind -/
def ar (g : Gx) (h : Hp) (k : Nat) (c : Nat) : va_E := match c with
  | 7 => .inl (g.2.2.2 0, ln k, .inl (h.1 k))
  | 8 => .inl (g.2.2.2 1, ln k, .inl (h.1 k))
  | 9 => .inl (g.2.2.2 2, ln k, .inr (.inl (h.2.1 k)))
  | 10 => .inl (g.2.2.2 3, ln k, .inl (h.1 k))
  | 11 => .inl (g.2.2.2 4, ln k, .inr (.inr (.inr (.inr (fun j => some (g.2.1 (k + 8 + 10 * j)))))))
  | _ => .inl (g.2.2.2 5, ln k, .inr (.inr (.inr (.inr (fun j => some (g.2.1 (h.2.2 k j)))))))
def cellE (g : Gx) (h : Hp) (k : Nat) : va_E := if kd k < 7 then .inr (kd k, (fl h k (kd k)).map (cv g)) else ar g h k (kd k)
def wsOf (g : Gx) (h : Hp) : va_W := LX.map (fun k => (g.2.1 k, cellE g h k))
def tysOf (g : Gx) : List (ClassId × FieldType) := [(g.2.2.2 0, .char), (g.2.2.2 1, .int), (g.2.2.2 2, .long), (g.2.2.2 3, .boolean), (g.2.2.2 4, .object "ConsonantIndex$Ear"), (g.2.2.2 5, .object "ConsonantIndex$State")]
def AA (g : Gx) : Nat → Prop := fun q => ∃ k, k ∈ LX ∧ q = g.2.1 k
def ginj (g : Gx) : Prop := ∀ i, i ∈ LX → ∀ j, j ∈ LX → g.2.1 i = g.2.1 j → i = j
def firstK (j : Nat) : Int32 := ([0, 1, 2, 3, 0, 1, 2, 0, 0, 2, 2, 4, 5, 5, 0, 1, 2, 6, 2, 3, 0, 1, 0, 2, 0, 2] : List Int32).getD j 0
def SZ (g : Gx) (U : State) (H : Heap) : Prop := va_Z "ConsonantIndex$Ear" "FIRSTS_AT_FIRST" "[I" (.ref (g.2.1 60)) (AA g) U H ∧ va_T .int (g.2.1 60) 26 (fun j => .int (firstK j)) (AA g) U H
def setI (h : Hp) (k : Nat) (r : Nat → Int32) : Hp := (va_up h.1 k r, h.2.1, h.2.2)
def setJ (h : Hp) (k : Nat) (r : Nat → Int64) : Hp := (h.1, va_up h.2.1 k r, h.2.2)
def setP (h : Hp) (k : Nat) (r : Nat → Nat) : Hp := (h.1, h.2.1, va_up h.2.2 k r)
theorem fl_congr {h h' : Hp} {k : Nat} (e : h'.1 k = h.1 k) (c : Nat) : fl h' k c = fl h k c := by
  unfold fl
  rw [e]
theorem cellE_congr {g : Gx} {h h' : Hp} {k : Nat} (e1 : h'.1 k = h.1 k) (e2 : h'.2.1 k = h.2.1 k) (e3 : h'.2.2 k = h.2.2 k) : cellE g h' k = cellE g h k := by
  unfold cellE ar
  rw [fl_congr e1, e1, e2, e3]
theorem ws_get {g : Gx} {h : Hp} {k q : Nat} (hq : LX[q]? = some k) : (wsOf g h)[q]? = some (g.2.1 k, cellE g h k) := by
  simp [wsOf, hq]
theorem ws_set {g : Gx} {h h' : Hp} {k q : Nat} {e : va_E} (hq : LX[q]? = some k) (he : cellE g h' k = e) (ho : ∀ j, j ≠ k → cellE g h' j = cellE g h j) : (wsOf g h).set q (g.2.1 k, e) = wsOf g h' := by
  apply List.ext_getElem?
  intro i
  rw [List.getElem?_set]
  by_cases hi : q = i
  · subst hi
    have hl : q < (wsOf g h).length := by
      rw [wsOf, List.length_map]
      exact (List.getElem?_eq_some_iff.mp hq).1
    rw [if_pos rfl, if_pos hl, ws_get hq, he]
  · rw [if_neg hi]
    cases hx : LX[i]? with
    | none => simp [wsOf, hx]
    | some j =>
      rw [ws_get hx, ws_get hx, ho j]
      intro hjk
      subst hjk
      exact hi (by
        exact va_nd_inj LX LX_nodup q i _ hq hx)
theorem ws_D {g : Gx} (hg : ginj g) (h : Hp) : va_D (AA g) (wsOf g h) := by
  have key : ∀ (i : Nat) (p : Nat × va_E), (wsOf g h)[i]? = some p → ∃ k, LX[i]? = some k ∧ p.1 = g.2.1 k := by
    intro i p hp
    cases hx : LX[i]? with
    | none => simp [wsOf, hx] at hp
    | some j =>
      rw [ws_get hx] at hp
      cases hp
      exact ⟨j, rfl, rfl⟩
  refine ⟨fun i j p q hp hq hpq => ?_, fun k q hq => ?_⟩
  · obtain ⟨a, a1, a2⟩ := key i p hp
    obtain ⟨b, b1, b2⟩ := key j q hq
    have hab : a = b := hg a (List.mem_of_getElem? a1) b (List.mem_of_getElem? b1) (by rw [← a2, ← b2]; exact hpq)
    subst hab
    exact va_nd_inj LX LX_nodup i j _ a1 b1
  · obtain ⟨a, a1, a2⟩ := key k q hq
    exact ⟨a, List.mem_of_getElem? a1, a2⟩
/-- locals -/
def lget : Lo → Nat → Option Value
  | [], _ => none
  | q :: r, i => bif Nat.beq q.1 i then q.2 else lget r i
def okst (l : Lo) (i : Nat) : Bool := match i with
  | 0 => true
  | k + 1 => match lget l k with
    | some v => Nat.beq v.category 1
    | none => true
def la : Nat → List Value → Lo
  | _, [] => []
  | i, v :: vs => (i, some v) :: la (if v.category = 2 then i + 2 else i + 1) vs
def LM (g : Gx) (ls : Array Slot) (nL : Nat) (l : Lo) : Prop := ls.size = nL ∧ lv_wf ls ∧ ∀ i v, lget l i = some v → ls[i]? = some (.val (cv g v))
def cnc (g : Gx) (nL : Nat) (l : Lo) : List (Nat × Value) := (List.range nL).filterMap (fun j => (lget l j).map (fun v => (j, cv g v)))
theorem lget_self (l : Lo) (i : Nat) (v : Option Value) : lget ((i, v) :: l) i = v := by simp [lget]
theorem lget_ne (l : Lo) {i j : Nat} (v : Option Value) (h : i ≠ j) : lget ((i, v) :: l) j = lget l j := by
  have : Nat.beq i j = false := by
    cases hb : Nat.beq i j with
    | false => rfl
    | true => exact absurd (Nat.eq_of_beq_eq_true hb) h
  simp [lget, this]
theorem mem_cnc {g : Gx} {nL : Nat} {l : Lo} {q : Nat × Value} : q ∈ cnc g nL l ↔ q.1 < nL ∧ ∃ v, lget l q.1 = some v ∧ q.2 = cv g v := by
  unfold cnc
  rw [List.mem_filterMap]
  constructor
  · rintro ⟨j, hj, hq⟩
    cases hx : lget l j with
    | none => rw [hx] at hq; cases hq
    | some v =>
      rw [hx] at hq
      cases hq
      exact ⟨List.mem_range.mp hj, v, hx, rfl⟩
  · rintro ⟨h1, v, h2, h3⟩
    refine ⟨q.1, List.mem_range.mpr h1, ?_⟩
    rw [h2]
    show some (q.1, cv g v) = some q
    rw [← h3]
theorem LM.lt {g : Gx} {ls : Array Slot} {nL : Nat} {l : Lo} (h : LM g ls nL l) {i : Nat} {v : Value} (hi : lget l i = some v) : i < nL := by
  rw [← h.1]
  exact lv_lt (h.2.2 i v hi)
theorem LM.conc {g : Gx} {ls : Array Slot} {nL : Nat} {l : Lo} (h : LM g ls nL l) : lv_has ls nL (cnc g nL l) := by
  refine ⟨h.1, h.2.1, fun q hq => ?_⟩
  obtain ⟨-, v, h2, h3⟩ := mem_cnc.mp hq
  rw [h3]
  exact h.2.2 _ _ h2
theorem LM.st1 {g : Gx} {ls ls' : Array Slot} {nL i : Nat} {l : Lo} {v : Value} (h : LM g ls nL l) (hok : okst l i = true) (h' : lv_has ls' nL ((i, cv g v) :: (cnc g nL l).filter (fun q => !(q.1 == i) && !(q.1 + 1 == i && q.2.category == 2)))) : LM g ls' nL ((i, some v) :: l) := by
  refine ⟨h'.1, h'.2.1, fun j w hj => ?_⟩
  by_cases hij : i = j
  · subst hij
    rw [lget_self] at hj
    cases hj
    exact h'.2.2 _ List.mem_cons_self
  · rw [lget_ne _ _ hij] at hj
    refine h'.2.2 (j, cv g w) (List.mem_cons_of_mem _ (List.mem_filter.mpr ⟨mem_cnc.mpr ⟨h.lt hj, w, hj, rfl⟩, ?_⟩))
    have e1 : (j == i) = false := by simp; exact fun q => hij q.symm
    have e2 : (j + 1 == i && (cv g w).category == 2) = false := by
      by_cases hz : j + 1 = i
      · subst hz
        simp only [okst, hj] at hok
        have := Nat.eq_of_beq_eq_true hok
        rw [cv_cat, this]
        simp
      · have : (j + 1 == i) = false := by simp; exact hz
        rw [this]
        rfl
    show (!(j == i) && !(j + 1 == i && (cv g w).category == 2)) = true
    rw [e1, e2]
    rfl
theorem LM.st2 {g : Gx} {ls ls' : Array Slot} {nL i : Nat} {l : Lo} {v : Value} (h : LM g ls nL l) (hok : okst l i = true) (h' : lv_has ls' nL ((i, cv g v) :: (cnc g nL l).filter (fun q => !(q.1 == i) && (!(q.1 == i + 1) && !(q.1 + 1 == i && q.2.category == 2))))) : LM g ls' nL ((i, some v) :: (i + 1, none) :: l) := by
  refine ⟨h'.1, h'.2.1, fun j w hj => ?_⟩
  by_cases hij : i = j
  · subst hij
    rw [lget_self] at hj
    cases hj
    exact h'.2.2 _ List.mem_cons_self
  · rw [lget_ne _ _ hij] at hj
    by_cases hij2 : i + 1 = j
    · subst hij2
      rw [lget_self] at hj
      cases hj
    · rw [lget_ne _ _ hij2] at hj
      refine h'.2.2 (j, cv g w) (List.mem_cons_of_mem _ (List.mem_filter.mpr ⟨mem_cnc.mpr ⟨h.lt hj, w, hj, rfl⟩, ?_⟩))
      have e1 : (j == i) = false := by simp; exact fun q => hij q.symm
      have e3 : (j == i + 1) = false := by simp; exact fun q => hij2 q.symm
      have e2 : (j + 1 == i && (cv g w).category == 2) = false := by
        by_cases hz : j + 1 = i
        · subst hz
          simp only [okst, hj] at hok
          have := Nat.eq_of_beq_eq_true hok
          rw [cv_cat, this]
          simp
        · have : (j + 1 == i) = false := by simp; exact hz
          rw [this]
          rfl
      show (!(j == i) && (!(j == i + 1) && !(j + 1 == i && (cv g w).category == 2))) = true
      rw [e1, e2, e3]
      rfl
theorem la_args (g : Gx) (vs : List Value) : ∀ (s i : Nat) (v : Value), lget (la s vs) i = some v → (i, cv g v) ∈ lv_args s (vs.map (cv g)) := by
  induction vs with
  | nil => intro s i v h; cases h
  | cons a r ih =>
    intro s i v h
    show (i, cv g v) ∈ (s, cv g a) :: lv_args (if (cv g a).category = 2 then s + 2 else s + 1) (r.map (cv g))
    rw [cv_cat]
    by_cases hs : s = i
    · subst hs
      rw [la, lget_self] at h
      cases h
      exact List.mem_cons_self
    · rw [la, lget_ne _ _ hs] at h
      exact List.mem_cons_of_mem _ (ih _ _ _ h)
theorem lg_sl_len (g : Gx) (vs : List Value) : (lg_sl (vs.map (cv g))).length = (lg_sl vs).length := by
  induction vs with
  | nil => rfl
  | cons a r ih =>
    unfold lg_sl at ih ⊢
    simp only [List.map_cons, List.flatMap_cons, List.length_append, cv_cat, ih]
    split <;> rfl
/-- what stands at a method's frame -/
def FX (g : Gx) (M : MI) (p : Program) (s : State) (m : MethodId) (args : Array Value) (meth : Method) (c : Code) : Prop :=
  p.tables.exec = Jvm.exec ∧ c.code = M.2.1 ∧ c.maxLocals = M.2.2.2.1 ∧ meth.sig.returnType = M.2.2.2.2.1 ∧ meth.locks = false ∧ s.vm.findClass M.2.2.1 = some m.cls ∧ (∀ w ∈ M.1, w.before args s = true) ∧ va_K g.2.2.1 vwCl (tysOf g) s ∧ ginj g ∧ SZ g s s.heap
def WD (g : Gx) (h : Hp) (U : State) : Prop := va_P g.2.2.1 vwCl (wsOf g h) U.heap ∧ va_K g.2.2.1 vwCl (tysOf g) U ∧ SZ g U U.heap
def QC (g : Gx) (P : Option Value → Hp → Prop) : Array Value → State → Outcome → State → Prop := fun _ st oc t => (∃ (r : Option Value) (h' : Hp), oc = .returned (r.map (cv g)) ∧ P r h' ∧ va_P g.2.2.1 vwCl (wsOf g h') t.heap) ∧ va_F (AA g) st t
/-- a contract: called with these values in this world, it returns, with P of answer and world -/
def AC (g : Gx) (y : MethodName) (ws : List Cond) (rm : Room) (as : List Value) (h : Hp) (P : Option Value → Hp → Prop) : Prop :=
  ginj g → Met g.1 y ws rm (va_Pc (as.map (cv g)) (WD g h)) (QC g P) 0 0 (AA g)
/-- the machine at a place, with these locals, this stack, this world, comes to its end -/
def AW (g : Gx) (M : MI) (Z : Zt) (pc : Nat) (l : Lo) (st : List Value) (h : Hp) : Prop :=
  ∀ (p : Program) (e : Env) (s : State) (m : MethodId) (args : Array Value) (below : List Frame) (meth : Method) (c : Code) (H : Heap) (locs : List Loc) (ls : Array Slot),
    FX g M p s m args meth c → va_P g.2.2.1 vwCl (wsOf g h) H → va_S (AA g) s.heap H locs → LM g ls M.2.2.2.1 l →
    W p g.1 e M.2.2.2.2.2 s m args below meth c H locs Z.1 Z.2.1 (Z.2.2 below args s) (F0 m pc ls (st.map (cv g)))
def ZP (g : Gx) (P : Option Value → Hp → Prop) : Zt := (0, 0, fun below args s => MQ below (QC g P) args s 0 0 (AA g))
section AM
variable {g : Gx} {M : MI} {Z : Zt} {pc n tgt : Nat} {l : Lo} {st : List Value} {h : Hp}

theorem am_iadd {x y : Int32} (hd : decode M.2.1 pc = .ok (.iadd, 1)) (hn : pc + 1 = n) (kk : AW g M Z n l (.int (x + y) :: st) h) : AW g M Z pc l (.int y :: .int x :: st) h := by
  subst hn
  intro p e s m args below meth c H locs ls F hP hS hL
  exact lv_iadd F.1 F.2.1 hd (kk p e s m args below meth c H locs ls F hP hS hL)
theorem am_isub {x y : Int32} (hd : decode M.2.1 pc = .ok (.isub, 1)) (hn : pc + 1 = n) (kk : AW g M Z n l (.int (x - y) :: st) h) : AW g M Z pc l (.int y :: .int x :: st) h := by
  subst hn
  intro p e s m args below meth c H locs ls F hP hS hL
  exact lv_isub F.1 F.2.1 hd (kk p e s m args below meth c H locs ls F hP hS hL)
theorem am_imul {x y : Int32} (hd : decode M.2.1 pc = .ok (.imul, 1)) (hn : pc + 1 = n) (kk : AW g M Z n l (.int (x * y) :: st) h) : AW g M Z pc l (.int y :: .int x :: st) h := by
  subst hn
  intro p e s m args below meth c H locs ls F hP hS hL
  exact lv_imul F.1 F.2.1 hd (kk p e s m args below meth c H locs ls F hP hS hL)
theorem am_iand {x y : Int32} (hd : decode M.2.1 pc = .ok (.iand, 1)) (hn : pc + 1 = n) (kk : AW g M Z n l (.int (x &&& y) :: st) h) : AW g M Z pc l (.int y :: .int x :: st) h := by
  subst hn
  intro p e s m args below meth c H locs ls F hP hS hL
  exact lv_iand F.1 F.2.1 hd (kk p e s m args below meth c H locs ls F hP hS hL)
theorem am_ior {x y : Int32} (hd : decode M.2.1 pc = .ok (.ior, 1)) (hn : pc + 1 = n) (kk : AW g M Z n l (.int (x ||| y) :: st) h) : AW g M Z pc l (.int y :: .int x :: st) h := by
  subst hn
  intro p e s m args below meth c H locs ls F hP hS hL
  exact lv_ior F.1 F.2.1 hd (kk p e s m args below meth c H locs ls F hP hS hL)
theorem am_ixor {x y : Int32} (hd : decode M.2.1 pc = .ok (.ixor, 1)) (hn : pc + 1 = n) (kk : AW g M Z n l (.int (x ^^^ y) :: st) h) : AW g M Z pc l (.int y :: .int x :: st) h := by
  subst hn
  intro p e s m args below meth c H locs ls F hP hS hL
  exact lv_ixor F.1 F.2.1 hd (kk p e s m args below meth c H locs ls F hP hS hL)
theorem am_ishl {x y : Int32} (hd : decode M.2.1 pc = .ok (.ishl, 1)) (hn : pc + 1 = n) (kk : AW g M Z n l (.int (x <<< (y &&& 31)) :: st) h) : AW g M Z pc l (.int y :: .int x :: st) h := by
  subst hn
  intro p e s m args below meth c H locs ls F hP hS hL
  exact lv_ishl F.1 F.2.1 hd (kk p e s m args below meth c H locs ls F hP hS hL)
theorem am_ishr {x y : Int32} (hd : decode M.2.1 pc = .ok (.ishr, 1)) (hn : pc + 1 = n) (kk : AW g M Z n l (.int (x >>> (y &&& 31)) :: st) h) : AW g M Z pc l (.int y :: .int x :: st) h := by
  subst hn
  intro p e s m args below meth c H locs ls F hP hS hL
  exact lv_ishr F.1 F.2.1 hd (kk p e s m args below meth c H locs ls F hP hS hL)
theorem am_iushr {x y : Int32} (hd : decode M.2.1 pc = .ok (.iushr, 1)) (hn : pc + 1 = n) (kk : AW g M Z n l (.int ((x.toUInt32 >>> (y.toUInt32 &&& Int32.toUInt32 31)).toInt32) :: st) h) : AW g M Z pc l (.int y :: .int x :: st) h := by
  subst hn
  intro p e s m args below meth c H locs ls F hP hS hL
  exact lv_iushr F.1 F.2.1 hd rfl (kk p e s m args below meth c H locs ls F hP hS hL)
theorem am_idiv {x y : Int32} (hd : decode M.2.1 pc = .ok (.idiv, 1)) (hne : ¬ y = 0) (hn : pc + 1 = n) (kk : AW g M Z n l (.int (x / y) :: st) h) : AW g M Z pc l (.int y :: .int x :: st) h := by
  subst hn
  intro p e s m args below meth c H locs ls F hP hS hL
  exact lv_idiv F.1 F.2.1 hd hne (kk p e s m args below meth c H locs ls F hP hS hL)
theorem am_ladd {x y : Int64} (hd : decode M.2.1 pc = .ok (.ladd, 1)) (hn : pc + 1 = n) (kk : AW g M Z n l (.long (x + y) :: st) h) : AW g M Z pc l (.long y :: .long x :: st) h := by
  subst hn
  intro p e s m args below meth c H locs ls F hP hS hL
  exact lv_ladd F.1 F.2.1 hd (kk p e s m args below meth c H locs ls F hP hS hL)
theorem am_land {x y : Int64} (hd : decode M.2.1 pc = .ok (.land, 1)) (hn : pc + 1 = n) (kk : AW g M Z n l (.long (x &&& y) :: st) h) : AW g M Z pc l (.long y :: .long x :: st) h := by
  subst hn
  intro p e s m args below meth c H locs ls F hP hS hL
  exact lv_land F.1 F.2.1 hd (kk p e s m args below meth c H locs ls F hP hS hL)
theorem am_lor {x y : Int64} (hd : decode M.2.1 pc = .ok (.lor, 1)) (hn : pc + 1 = n) (kk : AW g M Z n l (.long (x ||| y) :: st) h) : AW g M Z pc l (.long y :: .long x :: st) h := by
  subst hn
  intro p e s m args below meth c H locs ls F hP hS hL
  exact lv_lor F.1 F.2.1 hd (kk p e s m args below meth c H locs ls F hP hS hL)
theorem am_lmul {x y : Int64} (hd : decode M.2.1 pc = .ok (.lmul, 1)) (hn : pc + 1 = n) (kk : AW g M Z n l (.long (x * y) :: st) h) : AW g M Z pc l (.long y :: .long x :: st) h := by
  subst hn
  intro p e s m args below meth c H locs ls F hP hS hL
  exact lv_lmul F.1 F.2.1 hd (kk p e s m args below meth c H locs ls F hP hS hL)
theorem am_ldiv {x y : Int64} (hd : decode M.2.1 pc = .ok (.ldiv, 1)) (hne : ¬ y = 0) (hn : pc + 1 = n) (kk : AW g M Z n l (.long (x / y) :: st) h) : AW g M Z pc l (.long y :: .long x :: st) h := by
  subst hn
  intro p e s m args below meth c H locs ls F hP hS hL
  exact lv_ldiv F.1 F.2.1 hd hne (kk p e s m args below meth c H locs ls F hP hS hL)
theorem am_lshl {x : Int64} {y : Int32} (hd : decode M.2.1 pc = .ok (.lshl, 1)) (hn : pc + 1 = n) (kk : AW g M Z n l (.long (x <<< (y.toInt64 &&& 63)) :: st) h) : AW g M Z pc l (.int y :: .long x :: st) h := by
  subst hn
  intro p e s m args below meth c H locs ls F hP hS hL
  exact lv_lshl F.1 F.2.1 hd rfl (kk p e s m args below meth c H locs ls F hP hS hL)
theorem am_lshr {x : Int64} {y : Int32} (hd : decode M.2.1 pc = .ok (.lshr, 1)) (hn : pc + 1 = n) (kk : AW g M Z n l (.long (x >>> (y.toInt64 &&& 63)) :: st) h) : AW g M Z pc l (.int y :: .long x :: st) h := by
  subst hn
  intro p e s m args below meth c H locs ls F hP hS hL
  exact lv_lshr F.1 F.2.1 hd rfl (kk p e s m args below meth c H locs ls F hP hS hL)
theorem am_lushr {x : Int64} {y : Int32} (hd : decode M.2.1 pc = .ok (.lushr, 1)) (hn : pc + 1 = n) (kk : AW g M Z n l (.long ((x.toUInt64 >>> (y.toInt64.toUInt64 &&& Int64.toUInt64 63)).toInt64) :: st) h) : AW g M Z pc l (.int y :: .long x :: st) h := by
  subst hn
  intro p e s m args below meth c H locs ls F hP hS hL
  exact lv_lushr F.1 F.2.1 hd rfl (kk p e s m args below meth c H locs ls F hP hS hL)
theorem am_lcmp {x y : Int64} (hd : decode M.2.1 pc = .ok (.lcmp, 1)) (hn : pc + 1 = n) (kk : AW g M Z n l (.int (lg_cmp x y) :: st) h) : AW g M Z pc l (.long y :: .long x :: st) h := by
  subst hn
  intro p e s m args below meth c H locs ls F hP hS hL
  exact W.lcmp F.1 F.2.1 hd (kk p e s m args below meth c H locs ls F hP hS hL)
theorem am_i2l {x : Int32} (hd : decode M.2.1 pc = .ok (.i2l, 1)) (hn : pc + 1 = n) (kk : AW g M Z n l (.long x.toInt64 :: st) h) : AW g M Z pc l (.int x :: st) h := by
  subst hn
  intro p e s m args below meth c H locs ls F hP hS hL
  exact lv_i2l F.1 F.2.1 hd rfl (kk p e s m args below meth c H locs ls F hP hS hL)
theorem am_l2i {x : Int64} (hd : decode M.2.1 pc = .ok (.l2i, 1)) (hn : pc + 1 = n) (kk : AW g M Z n l (.int x.toInt32 :: st) h) : AW g M Z pc l (.long x :: st) h := by
  subst hn
  intro p e s m args below meth c H locs ls F hP hS hL
  exact lv_l2i F.1 F.2.1 hd rfl (kk p e s m args below meth c H locs ls F hP hS hL)
theorem am_i2c {x : Int32} (hd : decode M.2.1 pc = .ok (.i2c, 1)) (hn : pc + 1 = n) (kk : AW g M Z n l (.int ((x.toUInt32 % 65536).toInt32) :: st) h) : AW g M Z pc l (.int x :: st) h := by
  subst hn
  intro p e s m args below meth c H locs ls F hP hS hL
  exact lv_i2c F.1 F.2.1 hd rfl (kk p e s m args below meth c H locs ls F hP hS hL)
theorem am_iconst {k : Int} {v : Int32} (hd : decode M.2.1 pc = .ok (.iconst k, 1)) (hv : Int32.ofInt k = v) (hn : pc + 1 = n) (kk : AW g M Z n l (.int v :: st) h) : AW g M Z pc l ( st) h := by
  subst hn
  intro p e s m args below meth c H locs ls F hP hS hL
  exact lv_iconst F.1 F.2.1 hd hv (kk p e s m args below meth c H locs ls F hP hS hL)
theorem am_bipush {k : Int} {v : Int32} (hd : decode M.2.1 pc = .ok (.bipush k, 2)) (hv : (Int8.ofInt k).toInt32 = v) (hn : pc + 2 = n) (kk : AW g M Z n l (.int v :: st) h) : AW g M Z pc l ( st) h := by
  subst hn
  intro p e s m args below meth c H locs ls F hP hS hL
  exact lv_bipush F.1 F.2.1 hd hv (kk p e s m args below meth c H locs ls F hP hS hL)
theorem am_sipush {k : Int} {v : Int32} (hd : decode M.2.1 pc = .ok (.sipush k, 3)) (hv : (Int16.ofInt k).toInt32 = v) (hn : pc + 3 = n) (kk : AW g M Z n l (.int v :: st) h) : AW g M Z pc l ( st) h := by
  subst hn
  intro p e s m args below meth c H locs ls F hP hS hL
  exact lv_sipush F.1 F.2.1 hd hv (kk p e s m args below meth c H locs ls F hP hS hL)
theorem am_lconst {k : Fin 2} {v : Int64} (hd : decode M.2.1 pc = .ok (.lconst k, 1)) (hv : Int64.ofNat (k : Nat) = v) (hn : pc + 1 = n) (kk : AW g M Z n l (.long v :: st) h) : AW g M Z pc l ( st) h := by
  subst hn
  intro p e s m args below meth c H locs ls F hP hS hL
  exact lv_lconst F.1 F.2.1 hd hv (kk p e s m args below meth c H locs ls F hP hS hL)
theorem am_null  (hd : decode M.2.1 pc = .ok (.aconst_null, 1)) (hn : pc + 1 = n) (kk : AW g M Z n l (.null :: st) h) : AW g M Z pc l ( st) h := by
  subst hn
  intro p e s m args below meth c H locs ls F hP hS hL
  exact lv_null F.1 F.2.1 hd (kk p e s m args below meth c H locs ls F hP hS hL)
theorem am_dup {v : Value} (hd : decode M.2.1 pc = .ok (.dup, 1)) (hv : v.category = 1) (hn : pc + 1 = n) (kk : AW g M Z n l (v :: v :: st) h) : AW g M Z pc l (v :: st) h := by
  subst hn
  intro p e s m args below meth c H locs ls F hP hS hL
  exact lv_dup F.1 F.2.1 hd (by rw [cv_cat]; exact hv) (kk p e s m args below meth c H locs ls F hP hS hL)
theorem am_dup2 {v w : Value} (hd : decode M.2.1 pc = .ok (.dup2, 1)) (hv : v.category = 1) (hw : w.category = 1) (hn : pc + 1 = n) (kk : AW g M Z n l (v :: w :: v :: w :: st) h) : AW g M Z pc l (v :: w :: st) h := by
  subst hn
  intro p e s m args below meth c H locs ls F hP hS hL
  exact lv_dup2_11 F.1 F.2.1 hd (by rw [cv_cat]; exact hv) (by rw [cv_cat]; exact hw) (kk p e s m args below meth c H locs ls F hP hS hL)
theorem am_ldc2 {index : Nat} {v : Int64} (hd : decode M.2.1 pc = .ok (.ldc2_w index, 3)) (hw : Cond.constantLong M.2.2.1 index v ∈ M.1) (hn : pc + 3 = n) (kk : AW g M Z n l (.long v :: st) h) : AW g M Z pc l st h := by
  subst hn
  intro p e s m args below meth c H locs ls F hP hS hL
  exact lv_ldc2 F.1 F.2.1 F.2.2.2.2.2.1 (F.2.2.2.2.2.2.1 _ hw) hd (kk p e s m args below meth c H locs ls F hP hS hL)
theorem am_ldcw {index : Nat} {v : Int32} (hd : decode M.2.1 pc = .ok (.ldc_w index, 3)) (hw : Cond.constant M.2.2.1 index v ∈ M.1) (hn : pc + 3 = n) (kk : AW g M Z n l (.int v :: st) h) : AW g M Z pc l st h := by
  subst hn
  intro p e s m args below meth c H locs ls F hP hS hL
  exact lv_ldcw F.1 F.2.1 F.2.2.2.2.2.1 (F.2.2.2.2.2.2.1 _ hw) hd (kk p e s m args below meth c H locs ls F hP hS hL)
theorem am_goto {off : Int} (hd : decode M.2.1 pc = .ok (.goto off, 3)) (ht : (pc : Int) + off = (tgt : Int)) (kk : AW g M Z tgt l st h) : AW g M Z pc l st h := by
  intro p e s m args below meth c H locs ls F hP hS hL
  exact lv_goto F.1 F.2.1 hd ht (kk p e s m args below meth c H locs ls F hP hS hL)
theorem am_if_eq {x : Int32} {off : Int} (hd : decode M.2.1 pc = .ok (.ifCond .eq off, 3)) (ht : (pc : Int) + off = (tgt : Int)) (hn : pc + 3 = n) (kt : x = 0 → AW g M Z tgt l st h) (kf : ¬ x = 0 → AW g M Z n l st h) : AW g M Z pc l (.int x :: st) h := by
  subst hn
  intro p e s m args below meth c H locs ls F hP hS hL
  exact lv_if_eq F.1 F.2.1 hd ht (fun q => kt q p e s m args below meth c H locs ls F hP hS hL) (fun q => kf q p e s m args below meth c H locs ls F hP hS hL)
theorem am_if_ne {x : Int32} {off : Int} (hd : decode M.2.1 pc = .ok (.ifCond .ne off, 3)) (ht : (pc : Int) + off = (tgt : Int)) (hn : pc + 3 = n) (kt : ¬ x = 0 → AW g M Z tgt l st h) (kf : x = 0 → AW g M Z n l st h) : AW g M Z pc l (.int x :: st) h := by
  subst hn
  intro p e s m args below meth c H locs ls F hP hS hL
  exact lv_if_ne F.1 F.2.1 hd ht (fun q => kt q p e s m args below meth c H locs ls F hP hS hL) (fun q => kf q p e s m args below meth c H locs ls F hP hS hL)
theorem am_if_lt {x : Int32} {off : Int} (hd : decode M.2.1 pc = .ok (.ifCond .lt off, 3)) (ht : (pc : Int) + off = (tgt : Int)) (hn : pc + 3 = n) (kt : x < 0 → AW g M Z tgt l st h) (kf : ¬ x < 0 → AW g M Z n l st h) : AW g M Z pc l (.int x :: st) h := by
  subst hn
  intro p e s m args below meth c H locs ls F hP hS hL
  exact lv_if_lt F.1 F.2.1 hd ht (fun q => kt q p e s m args below meth c H locs ls F hP hS hL) (fun q => kf q p e s m args below meth c H locs ls F hP hS hL)
theorem am_if_ge {x : Int32} {off : Int} (hd : decode M.2.1 pc = .ok (.ifCond .ge off, 3)) (ht : (pc : Int) + off = (tgt : Int)) (hn : pc + 3 = n) (kt : 0 ≤ x → AW g M Z tgt l st h) (kf : ¬ 0 ≤ x → AW g M Z n l st h) : AW g M Z pc l (.int x :: st) h := by
  subst hn
  intro p e s m args below meth c H locs ls F hP hS hL
  exact lv_if_ge F.1 F.2.1 hd ht (fun q => kt q p e s m args below meth c H locs ls F hP hS hL) (fun q => kf q p e s m args below meth c H locs ls F hP hS hL)
theorem am_if_gt {x : Int32} {off : Int} (hd : decode M.2.1 pc = .ok (.ifCond .gt off, 3)) (ht : (pc : Int) + off = (tgt : Int)) (hn : pc + 3 = n) (kt : 0 < x → AW g M Z tgt l st h) (kf : ¬ 0 < x → AW g M Z n l st h) : AW g M Z pc l (.int x :: st) h := by
  subst hn
  intro p e s m args below meth c H locs ls F hP hS hL
  exact lv_if_gt F.1 F.2.1 hd ht (fun q => kt q p e s m args below meth c H locs ls F hP hS hL) (fun q => kf q p e s m args below meth c H locs ls F hP hS hL)
theorem am_if_le {x : Int32} {off : Int} (hd : decode M.2.1 pc = .ok (.ifCond .le off, 3)) (ht : (pc : Int) + off = (tgt : Int)) (hn : pc + 3 = n) (kt : x ≤ 0 → AW g M Z tgt l st h) (kf : ¬ x ≤ 0 → AW g M Z n l st h) : AW g M Z pc l (.int x :: st) h := by
  subst hn
  intro p e s m args below meth c H locs ls F hP hS hL
  exact lv_if_le F.1 F.2.1 hd ht (fun q => kt q p e s m args below meth c H locs ls F hP hS hL) (fun q => kf q p e s m args below meth c H locs ls F hP hS hL)
theorem am_icmp_eq {x y : Int32} {off : Int} (hd : decode M.2.1 pc = .ok (.if_icmp .eq off, 3)) (ht : (pc : Int) + off = (tgt : Int)) (hn : pc + 3 = n) (kt : x = y → AW g M Z tgt l st h) (kf : ¬ x = y → AW g M Z n l st h) : AW g M Z pc l (.int y :: .int x :: st) h := by
  subst hn
  intro p e s m args below meth c H locs ls F hP hS hL
  exact lv_icmp_eq F.1 F.2.1 hd ht (fun q => kt q p e s m args below meth c H locs ls F hP hS hL) (fun q => kf q p e s m args below meth c H locs ls F hP hS hL)
theorem am_icmp_ne {x y : Int32} {off : Int} (hd : decode M.2.1 pc = .ok (.if_icmp .ne off, 3)) (ht : (pc : Int) + off = (tgt : Int)) (hn : pc + 3 = n) (kt : ¬ x = y → AW g M Z tgt l st h) (kf : x = y → AW g M Z n l st h) : AW g M Z pc l (.int y :: .int x :: st) h := by
  subst hn
  intro p e s m args below meth c H locs ls F hP hS hL
  exact lv_icmp_ne F.1 F.2.1 hd ht (fun q => kt q p e s m args below meth c H locs ls F hP hS hL) (fun q => kf q p e s m args below meth c H locs ls F hP hS hL)
theorem am_icmp_lt {x y : Int32} {off : Int} (hd : decode M.2.1 pc = .ok (.if_icmp .lt off, 3)) (ht : (pc : Int) + off = (tgt : Int)) (hn : pc + 3 = n) (kt : x < y → AW g M Z tgt l st h) (kf : ¬ x < y → AW g M Z n l st h) : AW g M Z pc l (.int y :: .int x :: st) h := by
  subst hn
  intro p e s m args below meth c H locs ls F hP hS hL
  exact lv_icmp_lt F.1 F.2.1 hd ht (fun q => kt q p e s m args below meth c H locs ls F hP hS hL) (fun q => kf q p e s m args below meth c H locs ls F hP hS hL)
theorem am_icmp_ge {x y : Int32} {off : Int} (hd : decode M.2.1 pc = .ok (.if_icmp .ge off, 3)) (ht : (pc : Int) + off = (tgt : Int)) (hn : pc + 3 = n) (kt : y ≤ x → AW g M Z tgt l st h) (kf : ¬ y ≤ x → AW g M Z n l st h) : AW g M Z pc l (.int y :: .int x :: st) h := by
  subst hn
  intro p e s m args below meth c H locs ls F hP hS hL
  exact lv_icmp_ge F.1 F.2.1 hd ht (fun q => kt q p e s m args below meth c H locs ls F hP hS hL) (fun q => kf q p e s m args below meth c H locs ls F hP hS hL)
theorem am_icmp_gt {x y : Int32} {off : Int} (hd : decode M.2.1 pc = .ok (.if_icmp .gt off, 3)) (ht : (pc : Int) + off = (tgt : Int)) (hn : pc + 3 = n) (kt : y < x → AW g M Z tgt l st h) (kf : ¬ y < x → AW g M Z n l st h) : AW g M Z pc l (.int y :: .int x :: st) h := by
  subst hn
  intro p e s m args below meth c H locs ls F hP hS hL
  exact lv_icmp_gt F.1 F.2.1 hd ht (fun q => kt q p e s m args below meth c H locs ls F hP hS hL) (fun q => kf q p e s m args below meth c H locs ls F hP hS hL)
theorem am_icmp_le {x y : Int32} {off : Int} (hd : decode M.2.1 pc = .ok (.if_icmp .le off, 3)) (ht : (pc : Int) + off = (tgt : Int)) (hn : pc + 3 = n) (kt : x ≤ y → AW g M Z tgt l st h) (kf : ¬ x ≤ y → AW g M Z n l st h) : AW g M Z pc l (.int y :: .int x :: st) h := by
  subst hn
  intro p e s m args below meth c H locs ls F hP hS hL
  exact lv_icmp_le F.1 F.2.1 hd ht (fun q => kt q p e s m args below meth c H locs ls F hP hS hL) (fun q => kf q p e s m args below meth c H locs ls F hP hS hL)
theorem am_ifnonnull {k : Nat} {off : Int} (hd : decode M.2.1 pc = .ok (.ifnonnull off, 3)) (ht : (pc : Int) + off = (tgt : Int)) (kk : AW g M Z tgt l st h) : AW g M Z pc l (.ref k :: st) h := by
  intro p e s m args below meth c H locs ls F hP hS hL
  exact lv_ifnonnull F.1 F.2.1 hd ht (kk p e s m args below meth c H locs ls F hP hS hL)
theorem am_ifnonnullN {off : Int} (hd : decode M.2.1 pc = .ok (.ifnonnull off, 3)) (hn : pc + 3 = n) (kk : AW g M Z n l st h) : AW g M Z pc l (.null :: st) h := by
  subst hn
  intro p e s m args below meth c H locs ls F hP hS hL
  exact lv_ifnonnullN F.1 F.2.1 hd (kk p e s m args below meth c H locs ls F hP hS hL)
theorem am_ifnull {k : Nat} {off : Int} (hd : decode M.2.1 pc = .ok (.ifnull off, 3)) (hn : pc + 3 = n) (kk : AW g M Z n l st h) : AW g M Z pc l (.ref k :: st) h := by
  subst hn
  intro p e s m args below meth c H locs ls F hP hS hL
  exact lv_ifnull F.1 F.2.1 hd (kk p e s m args below meth c H locs ls F hP hS hL)
theorem am_ifnullN {off : Int} (hd : decode M.2.1 pc = .ok (.ifnull off, 3)) (ht : (pc : Int) + off = (tgt : Int)) (kk : AW g M Z tgt l st h) : AW g M Z pc l (.null :: st) h := by
  intro p e s m args below meth c H locs ls F hP hS hL
  exact lv_ifnullN F.1 F.2.1 hd ht (kk p e s m args below meth c H locs ls F hP hS hL)
theorem am_tableIn {dflt lo hi : Int} {offs : Array Int} {len : Nat} {x : Int32} {off : Int} (hd : decode M.2.1 pc = .ok (.tableswitch dflt lo hi offs, len)) (h1 : ¬ x.toInt < lo) (h2 : ¬ hi < x.toInt) (ho : offs[(x.toInt - lo).toNat]? = some off) (ht : (pc : Int) + off = (tgt : Int)) (kk : AW g M Z tgt l st h) : AW g M Z pc l (.int x :: st) h := by
  intro p e s m args below meth c H locs ls F hP hS hL
  exact lv_tableIn F.1 F.2.1 hd h1 h2 ho ht (kk p e s m args below meth c H locs ls F hP hS hL)
theorem am_tableOut {dflt lo hi : Int} {offs : Array Int} {len : Nat} {x : Int32} (hd : decode M.2.1 pc = .ok (.tableswitch dflt lo hi offs, len)) (h1 : x.toInt < lo ∨ hi < x.toInt) (ht : (pc : Int) + dflt = (tgt : Int)) (kk : AW g M Z tgt l st h) : AW g M Z pc l (.int x :: st) h := by
  intro p e s m args below meth c H locs ls F hP hS hL
  exact lv_tableOut F.1 F.2.1 hd h1 ht (kk p e s m args below meth c H locs ls F hP hS hL)
theorem am_lookup {dflt : Int} {ps : Array (Int × Int)} {len : Nat} {x : Int32} {off : Int} (hd : decode M.2.1 pc = .ok (.lookupswitch dflt ps, len)) (hp : (ps.toList.zip (ps.toList.drop 1)).all (fun (a, next) => a.1 < next.1) = true) (ho : Op.lookupswitch.offset ps.toList dflt x.toInt = off) (ht : (pc : Int) + off = (tgt : Int)) (kk : AW g M Z tgt l st h) : AW g M Z pc l (.int x :: st) h := by
  intro p e s m args below meth c H locs ls F hP hS hL
  exact lv_lookup F.1 F.2.1 hd hp ho ht (kk p e s m args below meth c H locs ls F hP hS hL)
theorem am_iload {i : Nat} {x : Int32} (hd : decode M.2.1 pc = .ok (.iload i, 2)) (hl : lget l i = some (.int x)) (hn : pc + 2 = n) (kk : AW g M Z n l (.int x :: st) h) : AW g M Z pc l st h := by
  subst hn
  intro p e s m args below meth c H locs ls F hP hS hL
  exact lv_iload F.1 F.2.1 hd (hL.2.2 _ _ hl) (kk p e s m args below meth c H locs ls F hP hS hL)
theorem am_iload_n {i : Nat} {k : Fin 4} {x : Int32} (hd : decode M.2.1 pc = .ok (.iload_n k, 1)) (hi : (k : Nat) = i) (hl : lget l i = some (.int x)) (hn : pc + 1 = n) (kk : AW g M Z n l (.int x :: st) h) : AW g M Z pc l st h := by
  subst hn
  intro p e s m args below meth c H locs ls F hP hS hL
  exact lv_iload_n F.1 F.2.1 hd hi (hL.2.2 _ _ hl) (kk p e s m args below meth c H locs ls F hP hS hL)
theorem am_lload {i : Nat} {x : Int64} (hd : decode M.2.1 pc = .ok (.lload i, 2)) (hl : lget l i = some (.long x)) (hn : pc + 2 = n) (kk : AW g M Z n l (.long x :: st) h) : AW g M Z pc l st h := by
  subst hn
  intro p e s m args below meth c H locs ls F hP hS hL
  exact lv_lload F.1 F.2.1 hd (hL.2.2 _ _ hl) (kk p e s m args below meth c H locs ls F hP hS hL)
theorem am_lload_n {i : Nat} {k : Fin 4} {x : Int64} (hd : decode M.2.1 pc = .ok (.lload_n k, 1)) (hi : (k : Nat) = i) (hl : lget l i = some (.long x)) (hn : pc + 1 = n) (kk : AW g M Z n l (.long x :: st) h) : AW g M Z pc l st h := by
  subst hn
  intro p e s m args below meth c H locs ls F hP hS hL
  exact lv_lload_n F.1 F.2.1 hd hi (hL.2.2 _ _ hl) (kk p e s m args below meth c H locs ls F hP hS hL)
theorem am_aload {i : Nat} {x : Nat} (hd : decode M.2.1 pc = .ok (.aload i, 2)) (hl : lget l i = some (.ref x)) (hn : pc + 2 = n) (kk : AW g M Z n l (.ref x :: st) h) : AW g M Z pc l st h := by
  subst hn
  intro p e s m args below meth c H locs ls F hP hS hL
  exact lv_aload F.1 F.2.1 hd (hL.2.2 _ _ hl) (kk p e s m args below meth c H locs ls F hP hS hL)
theorem am_aload_n {i : Nat} {k : Fin 4} {x : Nat} (hd : decode M.2.1 pc = .ok (.aload_n k, 1)) (hi : (k : Nat) = i) (hl : lget l i = some (.ref x)) (hn : pc + 1 = n) (kk : AW g M Z n l (.ref x :: st) h) : AW g M Z pc l st h := by
  subst hn
  intro p e s m args below meth c H locs ls F hP hS hL
  exact lv_aload_n F.1 F.2.1 hd hi (hL.2.2 _ _ hl) (kk p e s m args below meth c H locs ls F hP hS hL)
theorem am_istore {i : Nat} {x : Int32} (hd : decode M.2.1 pc = .ok (.istore i, 2)) (hi2 : i < M.2.2.2.1) (hok : okst l i = true) (hn : pc + 2 = n) (kk : AW g M Z n ((i, some (.int x)) :: l) st h) : AW g M Z pc l (.int x :: st) h := by
  subst hn
  intro p e s m args below meth c H locs ls F hP hS hL
  exact lv_istore F.1 F.2.1 hd hL.conc hi2 rfl (fun ls' hl' => kk p e s m args below meth c H locs ls' F hP hS (hL.st1 (v := .int x) hok hl'))
theorem am_istore_n {i : Nat} {k : Fin 4} {x : Int32} (hd : decode M.2.1 pc = .ok (.istore_n k, 1)) (hi : (k : Nat) = i) (hi2 : i < M.2.2.2.1) (hok : okst l i = true) (hn : pc + 1 = n) (kk : AW g M Z n ((i, some (.int x)) :: l) st h) : AW g M Z pc l (.int x :: st) h := by
  subst hn
  intro p e s m args below meth c H locs ls F hP hS hL
  exact lv_istore_n F.1 F.2.1 hd hi hL.conc hi2 rfl (fun ls' hl' => kk p e s m args below meth c H locs ls' F hP hS (hL.st1 (v := .int x) hok hl'))
theorem am_lstore {i : Nat} {x : Int64} (hd : decode M.2.1 pc = .ok (.lstore i, 2)) (hi2 : i + 1 < M.2.2.2.1) (hok : okst l i = true) (hn : pc + 2 = n) (kk : AW g M Z n ((i, some (.long x)) :: (i + 1, none) :: l) st h) : AW g M Z pc l (.long x :: st) h := by
  subst hn
  intro p e s m args below meth c H locs ls F hP hS hL
  exact lv_lstore F.1 F.2.1 hd hL.conc hi2 rfl (fun ls' hl' => kk p e s m args below meth c H locs ls' F hP hS (hL.st2 (v := .long x) hok hl'))
theorem am_lstore_n {i : Nat} {k : Fin 4} {x : Int64} (hd : decode M.2.1 pc = .ok (.lstore_n k, 1)) (hi : (k : Nat) = i) (hi2 : i + 1 < M.2.2.2.1) (hok : okst l i = true) (hn : pc + 1 = n) (kk : AW g M Z n ((i, some (.long x)) :: (i + 1, none) :: l) st h) : AW g M Z pc l (.long x :: st) h := by
  subst hn
  intro p e s m args below meth c H locs ls F hP hS hL
  exact lv_lstore_n F.1 F.2.1 hd hi hL.conc hi2 rfl (fun ls' hl' => kk p e s m args below meth c H locs ls' F hP hS (hL.st2 (v := .long x) hok hl'))
theorem am_astore {i : Nat} {x : Nat} (hd : decode M.2.1 pc = .ok (.astore i, 2)) (hi2 : i < M.2.2.2.1) (hok : okst l i = true) (hn : pc + 2 = n) (kk : AW g M Z n ((i, some (.ref x)) :: l) st h) : AW g M Z pc l (.ref x :: st) h := by
  subst hn
  intro p e s m args below meth c H locs ls F hP hS hL
  exact lv_astore F.1 F.2.1 hd hL.conc hi2 rfl (fun ls' hl' => kk p e s m args below meth c H locs ls' F hP hS (hL.st1 (v := .ref x) hok hl'))
theorem am_astore_n {i : Nat} {k : Fin 4} {x : Nat} (hd : decode M.2.1 pc = .ok (.astore_n k, 1)) (hi : (k : Nat) = i) (hi2 : i < M.2.2.2.1) (hok : okst l i = true) (hn : pc + 1 = n) (kk : AW g M Z n ((i, some (.ref x)) :: l) st h) : AW g M Z pc l (.ref x :: st) h := by
  subst hn
  intro p e s m args below meth c H locs ls F hP hS hL
  exact lv_astore_n F.1 F.2.1 hd hi hL.conc hi2 rfl (fun ls' hl' => kk p e s m args below meth c H locs ls' F hP hS (hL.st1 (v := .ref x) hok hl'))
theorem am_iinc {i : Nat} {a : Int} {x v : Int32} (hd : decode M.2.1 pc = .ok (.iinc i a, 3)) (hl : lget l i = some (.int x)) (hv : x + Int32.ofInt a = v) (hok : okst l i = true) (hn : pc + 3 = n) (kk : AW g M Z n ((i, some (.int v)) :: l) st h) : AW g M Z pc l st h := by
  subst hn
  intro p e s m args below meth c H locs ls F hP hS hL
  obtain ⟨q, hq⟩ := List.getElem?_of_mem ((mem_cnc (g := g) (nL := M.2.2.2.1) (l := l) (q := (i, Value.int x))).mpr ⟨hL.lt hl, _, hl, rfl⟩)
  exact lv_iinc (v := v) F.1 F.2.1 hd hL.conc hq hv (hL.lt hl) rfl (fun ls' hl' => kk p e s m args below meth c H locs ls' F hP hS (hL.st1 (v := .int v) hok hl'))
/-- fewer locals, in any order -/
theorem am_loc (l' : Lo) (hl : l'.map (fun q => lget l q.1) = l'.map (fun q => q.2)) (kk : AW g M Z pc l' st h) : AW g M Z pc l st h := by
  intro p e s m args below meth c H locs ls F hP hS hL
  refine kk p e s m args below meth c H locs ls F hP hS ⟨hL.1, hL.2.1, fun i v hi => hL.2.2 i v ?_⟩
  have key : ∀ (l' : Lo), l'.map (fun q => lget l q.1) = l'.map (fun q => q.2) → lget l' i = some v → lget l i = some v := by
    intro l'
    induction l' with
    | nil => intro _ h; cases h
    | cons a r ih =>
      intro hm hi
      simp only [List.map_cons, List.cons.injEq] at hm
      by_cases hz : a.1 = i
      · have e : lget (a :: r) i = a.2 := by rw [← hz]; exact lget_self r a.1 a.2
        rw [e] at hi
        rw [← hz, hm.1, hi]
      · have e : lget (a :: r) i = lget r i := lget_ne r a.2 hz
        rw [e] at hi
        exact ih hm.2 hi
  exact key l' hl hi
/-- the same with another name for the world, the stack, the place -/
theorem am_eq {pc' : Nat} {l' : Lo} {st' : List Value} {h' : Hp} (e1 : pc' = pc) (e2 : l' = l) (e3 : st' = st) (e4 : h' = h) (kk : AW g M Z pc' l' st' h') : AW g M Z pc l st h := by
  subst e1; subst e2; subst e3; subst e4
  exact kk
/-- fields -/
theorem am_get {own C : String} {T : u_T} {N c j k idx : Nat} {v : Value} (hd : decode M.2.1 pc = .ok (.getfield idx, 3)) (hc : isC k c 0) (hc7 : c < 7) (hcl : vwCl[c]? = some (C, T, N)) (hj : j < N) (hown : M.2.2.1 = own) (hw : Cond.fieldLink own idx (T j).1 (T j).2.1 (T j).2.2.1 ∈ M.1) (hin : ∀ w ∈ u_ws C T N, w ∈ M.1) (hv : (fl h k c)[j]? = some v) (hn : pc + 3 = n) (kk : AW g M Z n l (v :: st) h) : AW g M Z pc l (.ref k :: st) h := by
  subst hn
  subst hown
  intro p e s m args below meth c' H locs ls F hP hS hL
  obtain ⟨q, hq⟩ := hc.at
  have he := ws_get (g := g) (h := h) hq
  have hE : cellE g h k = .inr (c, (fl h k c).map (cv g)) := by
    unfold cellE
    rw [hc.kd, if_pos hc7]
  rw [hE] at he
  exact va_get (ref := (T j).1) F.1 F.2.1 F.2.2.2.2.2.2.1 hin F.2.2.2.2.2.1 F.2.2.2.2.2.2.2.1 hP q he hcl j hj (F.2.2.2.2.2.2.1 _ hw) (fun _ z => z) (v := cv g v) (by rw [List.getElem?_map, hv]; rfl) hd (kk p e s m args below meth c' H locs ls F hP hS hL)
theorem am_put {own C : String} {T : u_T} {ty0 : Nat → FieldType} {N c j k idx : Nat} {x : Int32} (hd : decode M.2.1 pc = .ok (.putfield idx, 3)) (hc : isC k c 0) (hc7 : c < 7) (hcl : vwCl[c]? = some (C, T, N)) (hj : j < N) (hown : M.2.2.1 = own) (hty : ∀ k, k < N → parseFieldDescriptor (T k).2.2.1 = some (ty0 k)) (hnm : ∀ a, a < N → ∀ b, b < N → a ≠ b → (T a).2.1 ≠ (T b).2.1) (hfin : (T j).2.2.2 = false) (hpd : parseFieldDescriptor (T j).2.2.1 = some .int) (hw : Cond.fieldLink own idx (T j).1 (T j).2.1 (T j).2.2.1 ∈ M.1) (hin : ∀ w ∈ u_ws C T N, w ∈ M.1) (hlen : j < (fl h k c).length) (hset : ∀ (h : Hp) (x : Int32), fl (setI h k (upd (h.1 k) j x)) k c = (fl h k c).set j (.int x)) (hn : pc + 3 = n) (kk : AW g M Z n l st (setI h k (upd (h.1 k) j x))) : AW g M Z pc l (.int x :: .ref k :: st) h := by
  subst hn
  subst hown
  intro p e s m args below meth c' H locs ls F hP hS hL
  obtain ⟨q, hq⟩ := hc.at
  have he := ws_get (g := g) (h := h) hq
  have hE : ∀ h : Hp, cellE g h k = .inr (c, (fl h k c).map (cv g)) := by
    intro h
    unfold cellE
    rw [hc.kd, if_pos hc7]
  rw [hE] at he
  have hws : (wsOf g h).set q (g.2.1 k, .inr (c, ((fl h k c).map (cv g)).set j (.int x))) = wsOf g (setI h k (upd (h.1 k) j x)) := by
    refine ws_set hq ?_ (fun i hi => cellE_congr (va_up_ne _ _ hi) rfl rfl)
    rw [hE, hset, List.map_set]
    rfl
  refine va_put (ref := (T j).1) F.1 F.2.1 F.2.2.2.2.2.2.1 hin ty0 hty hnm F.2.2.2.2.2.1 F.2.2.2.2.2.2.2.1 hP (ws_D F.2.2.2.2.2.2.2.2.1 h) hS q he hcl j hj (F.2.2.2.2.2.2.1 _ hw) (fun _ z => z) hfin hpd (v := .int x) rfl rfl (by rw [List.length_map]; exact hlen) hd (fun H1 locs1 hP1 _ hS1 => ?_)
  rw [hws] at hP1
  exact kk p e s m args below meth c' H1 locs1 ls F hP1 hS1 hL
/-- arrays -/
theorem arr_at (g : Gx) (h : Hp) {k c n : Nat} (hc : isC k c n) (h7 : ¬ c < 7) : cellE g h k = ar g h k c := by
  unfold cellE
  rw [hc.kd, if_neg h7]
theorem am_iald {k N : Nat} {i : Int32} (hd : decode M.2.1 pc = .ok (.iaload, 1)) (hc : isC k 8 N) (hin : vp_in i N) (hn : pc + 1 = n) (kk : AW g M Z n l (.int (h.1 k i.toNatClampNeg) :: st) h) : AW g M Z pc l (.int i :: .ref k :: st) h := by
  subst hn
  intro p e s m args below meth c' H locs ls F hP hS hL
  obtain ⟨q, hq⟩ := hc.at
  have he := ws_get (g := g) (h := h) hq
  rw [arr_at g h hc (by omega)] at he
  exact va_iald F.1 F.2.1 F.2.2.2.2.2.2.2.1 hP q 1 he rfl (by rw [hc.ln]; exact hin) hd (kk p e s m args below meth c' H locs ls F hP hS hL)
theorem am_cald {k N : Nat} {i : Int32} (hd : decode M.2.1 pc = .ok (.caload, 1)) (hc : isC k 7 N) (hin : vp_in i N) (hn : pc + 1 = n) (kk : AW g M Z n l (.int (h.1 k i.toNatClampNeg) :: st) h) : AW g M Z pc l (.int i :: .ref k :: st) h := by
  subst hn
  intro p e s m args below meth c' H locs ls F hP hS hL
  obtain ⟨q, hq⟩ := hc.at
  have he := ws_get (g := g) (h := h) hq
  rw [arr_at g h hc (by omega)] at he
  exact va_cald F.1 F.2.1 F.2.2.2.2.2.2.2.1 hP q 0 he rfl (by rw [hc.ln]; exact hin) hd (kk p e s m args below meth c' H locs ls F hP hS hL)
theorem am_zald {k N : Nat} {i : Int32} (hd : decode M.2.1 pc = .ok (.baload, 1)) (hc : isC k 10 N) (hin : vp_in i N) (hn : pc + 1 = n) (kk : AW g M Z n l (.int (h.1 k i.toNatClampNeg) :: st) h) : AW g M Z pc l (.int i :: .ref k :: st) h := by
  subst hn
  intro p e s m args below meth c' H locs ls F hP hS hL
  obtain ⟨q, hq⟩ := hc.at
  have he := ws_get (g := g) (h := h) hq
  rw [arr_at g h hc (by omega)] at he
  exact va_zald F.1 F.2.1 F.2.2.2.2.2.2.2.1 hP q 3 he rfl (by rw [hc.ln]; exact hin) hd (kk p e s m args below meth c' H locs ls F hP hS hL)
theorem am_lald {k N : Nat} {i : Int32} (hd : decode M.2.1 pc = .ok (.laload, 1)) (hc : isC k 9 N) (hin : vp_in i N) (hn : pc + 1 = n) (kk : AW g M Z n l (.long (h.2.1 k i.toNatClampNeg) :: st) h) : AW g M Z pc l (.int i :: .ref k :: st) h := by
  subst hn
  intro p e s m args below meth c' H locs ls F hP hS hL
  obtain ⟨q, hq⟩ := hc.at
  have he := ws_get (g := g) (h := h) hq
  rw [arr_at g h hc (by omega)] at he
  exact va_lald F.1 F.2.1 F.2.2.2.2.2.2.2.1 hP q 2 he rfl (by rw [hc.ln]; exact hin) hd (kk p e s m args below meth c' H locs ls F hP hS hL)
theorem am_aldE {k N : Nat} {i : Int32} (hd : decode M.2.1 pc = .ok (.aaload, 1)) (hc : isC k 11 N) (hin : vp_in i N) (hn : pc + 1 = n) (kk : AW g M Z n l (.ref (k + 8 + 10 * i.toNatClampNeg) :: st) h) : AW g M Z pc l (.int i :: .ref k :: st) h := by
  subst hn
  intro p e s m args below meth c' H locs ls F hP hS hL
  obtain ⟨q, hq⟩ := hc.at
  have he := ws_get (g := g) (h := h) hq
  rw [arr_at g h hc (by omega)] at he
  exact va_aldq F.1 F.2.1 F.2.2.2.2.2.2.2.1 hP q 4 he rfl (by rw [hc.ln]; exact hin) hd (kk p e s m args below meth c' H locs ls F hP hS hL)
theorem am_aldS {k N : Nat} {i : Int32} (hd : decode M.2.1 pc = .ok (.aaload, 1)) (hc : isC k 12 N) (hin : vp_in i N) (hn : pc + 1 = n) (kk : AW g M Z n l (.ref (h.2.2 k i.toNatClampNeg) :: st) h) : AW g M Z pc l (.int i :: .ref k :: st) h := by
  subst hn
  intro p e s m args below meth c' H locs ls F hP hS hL
  obtain ⟨q, hq⟩ := hc.at
  have he := ws_get (g := g) (h := h) hq
  rw [arr_at g h hc (by omega)] at he
  exact va_aldq F.1 F.2.1 F.2.2.2.2.2.2.2.1 hP q 5 he rfl (by rw [hc.ln]; exact hin) hd (kk p e s m args below meth c' H locs ls F hP hS hL)
theorem am_iast {k N : Nat} {i : Int32} {x : Int32} (hd : decode M.2.1 pc = .ok (.iastore, 1)) (hc : isC k 8 N) (hin : vp_in i N) (hn : pc + 1 = n) (kk : AW g M Z n l st (setI h k (upd (h.1 k) i.toNatClampNeg x))) : AW g M Z pc l (.int x :: .int i :: .ref k :: st) h := by
  subst hn
  intro p e s m args below meth c' H locs ls F hP hS hL
  obtain ⟨q, hq⟩ := hc.at
  have he := ws_get (g := g) (h := h) hq
  rw [arr_at g h hc (by omega)] at he
  refine va_iast F.1 F.2.1 F.2.2.2.2.2.2.2.1 hP (ws_D F.2.2.2.2.2.2.2.2.1 h) hS q 1 he rfl (by rw [hc.ln]; exact hin) hd (fun H1 locs1 hP1 _ hS1 => ?_)
  have hws := ws_set (g := g) (h := h) (h' := setI h k (upd (h.1 k) i.toNatClampNeg x)) hq rfl (fun j hj => cellE_congr (va_up_ne _ _ hj) rfl rfl)
  rw [arr_at g _ hc (by omega)] at hws
  simp only [ar, setI, setJ, va_up_self] at hws
  rw [hws] at hP1
  exact kk p e s m args below meth c' H1 locs1 ls F hP1 hS1 hL
theorem am_cast {k N : Nat} {i : Int32} {x : Int32} (hd : decode M.2.1 pc = .ok (.castore, 1)) (hc : isC k 7 N) (hin : vp_in i N) (hn : pc + 1 = n) (kk : AW g M Z n l st (setI h k (upd (h.1 k) i.toNatClampNeg (vp_nar .char x)))) : AW g M Z pc l (.int x :: .int i :: .ref k :: st) h := by
  subst hn
  intro p e s m args below meth c' H locs ls F hP hS hL
  obtain ⟨q, hq⟩ := hc.at
  have he := ws_get (g := g) (h := h) hq
  rw [arr_at g h hc (by omega)] at he
  refine va_cast F.1 F.2.1 F.2.2.2.2.2.2.2.1 hP (ws_D F.2.2.2.2.2.2.2.2.1 h) hS q 0 he rfl (by rw [hc.ln]; exact hin) hd (fun H1 locs1 hP1 _ hS1 => ?_)
  have hws := ws_set (g := g) (h := h) (h' := setI h k (upd (h.1 k) i.toNatClampNeg (vp_nar .char x))) hq rfl (fun j hj => cellE_congr (va_up_ne _ _ hj) rfl rfl)
  rw [arr_at g _ hc (by omega)] at hws
  simp only [ar, setI, setJ, va_up_self] at hws
  rw [hws] at hP1
  exact kk p e s m args below meth c' H1 locs1 ls F hP1 hS1 hL
theorem am_zast {k N : Nat} {i : Int32} {x : Int32} (hd : decode M.2.1 pc = .ok (.bastore, 1)) (hc : isC k 10 N) (hin : vp_in i N) (hn : pc + 1 = n) (kk : AW g M Z n l st (setI h k (upd (h.1 k) i.toNatClampNeg (vp_nar .boolean x)))) : AW g M Z pc l (.int x :: .int i :: .ref k :: st) h := by
  subst hn
  intro p e s m args below meth c' H locs ls F hP hS hL
  obtain ⟨q, hq⟩ := hc.at
  have he := ws_get (g := g) (h := h) hq
  rw [arr_at g h hc (by omega)] at he
  refine va_zast F.1 F.2.1 F.2.2.2.2.2.2.2.1 hP (ws_D F.2.2.2.2.2.2.2.2.1 h) hS q 3 he rfl (by rw [hc.ln]; exact hin) hd (fun H1 locs1 hP1 _ hS1 => ?_)
  have hws := ws_set (g := g) (h := h) (h' := setI h k (upd (h.1 k) i.toNatClampNeg (vp_nar .boolean x))) hq rfl (fun j hj => cellE_congr (va_up_ne _ _ hj) rfl rfl)
  rw [arr_at g _ hc (by omega)] at hws
  simp only [ar, setI, setJ, va_up_self] at hws
  rw [hws] at hP1
  exact kk p e s m args below meth c' H1 locs1 ls F hP1 hS1 hL
theorem am_last {k N : Nat} {i : Int32} {x : Int64} (hd : decode M.2.1 pc = .ok (.lastore, 1)) (hc : isC k 9 N) (hin : vp_in i N) (hn : pc + 1 = n) (kk : AW g M Z n l st (setJ h k (vp_updL (h.2.1 k) i.toNatClampNeg x))) : AW g M Z pc l (.long x :: .int i :: .ref k :: st) h := by
  subst hn
  intro p e s m args below meth c' H locs ls F hP hS hL
  obtain ⟨q, hq⟩ := hc.at
  have he := ws_get (g := g) (h := h) hq
  rw [arr_at g h hc (by omega)] at he
  refine va_last F.1 F.2.1 F.2.2.2.2.2.2.2.1 hP (ws_D F.2.2.2.2.2.2.2.2.1 h) hS q 2 he rfl (by rw [hc.ln]; exact hin) hd (fun H1 locs1 hP1 _ hS1 => ?_)
  have hws := ws_set (g := g) (h := h) (h' := setJ h k (vp_updL (h.2.1 k) i.toNatClampNeg x)) hq rfl (fun j hj => cellE_congr rfl (va_up_ne _ _ hj) rfl)
  rw [arr_at g _ hc (by omega)] at hws
  simp only [ar, setI, setJ, va_up_self] at hws
  rw [hws] at hP1
  exact kk p e s m args below meth c' H1 locs1 ls F hP1 hS1 hL
theorem am_astS {k N v : Nat} {i : Int32} (hd : decode M.2.1 pc = .ok (.aastore, 1)) (hc : isC k 12 N) (hv : isC v 4 0) (hin : vp_in i N) (hn : pc + 1 = n) (kk : AW g M Z n l st (setP h k (va_up (h.2.2 k) i.toNatClampNeg v))) : AW g M Z pc l (.ref v :: .int i :: .ref k :: st) h := by
  subst hn
  intro p e s m args below meth c' H locs ls F hP hS hL
  obtain ⟨q, hq⟩ := hc.at
  obtain ⟨qv, hqv⟩ := hv.at
  have he := ws_get (g := g) (h := h) hq
  have hev := ws_get (g := g) (h := h) hqv
  rw [arr_at g h hc (by omega)] at he
  have hE : cellE g h v = .inr (4, (fl h v 4).map (cv g)) := by
    unfold cellE
    rw [hv.kd, if_pos (by omega)]
  rw [hE] at hev
  refine va_astq F.1 F.2.1 F.2.2.2.2.2.2.2.1 hP (ws_D F.2.2.2.2.2.2.2.2.1 h) hS q 5 qv 4 (r := (RX5, TX5, 6)) he rfl hev rfl (by rw [hc.ln]; exact hin) hd (fun H1 locs1 hP1 _ hS1 => ?_)
  have hws := ws_set (g := g) (h := h) (h' := setP h k (va_up (h.2.2 k) i.toNatClampNeg v)) hq rfl (fun j hj => cellE_congr rfl rfl (va_up_ne _ _ hj))
  rw [arr_at g _ hc (by omega)] at hws
  simp only [ar, setP, va_up_self] at hws
  have hf : (fun j => some (g.2.1 (va_up (h.2.2 k) i.toNatClampNeg v j))) = va_up (fun j => some (g.2.1 (h.2.2 k j))) i.toNatClampNeg (some (g.2.1 v)) := by
    funext j
    by_cases hj : j = i.toNatClampNeg
    · subst hj
      simp [va_up_self]
    · simp [va_up_ne _ _ hj]
  rw [hf] at hws
  rw [hws] at hP1
  exact kk p e s m args below meth c' H1 locs1 ls F hP1 hS1 hL
theorem am_alen {k c N : Nat} {v : Int32} (hd : decode M.2.1 pc = .ok (.arraylength, 1)) (hc : isC k c N) (h7 : c = 7 ∨ c = 8 ∨ c = 9 ∨ c = 10 ∨ c = 11 ∨ c = 12) (hv : Int32.ofNat N = v) (hn : pc + 1 = n) (kk : AW g M Z n l (.int v :: st) h) : AW g M Z pc l (.ref k :: st) h := by
  subst hn
  intro p e s m args below meth c' H locs ls F hP hS hL
  obtain ⟨q, hq⟩ := hc.at
  have he := ws_get (g := g) (h := h) hq
  rw [arr_at g h hc (by omega)] at he
  have K := kk p e s m args below meth c' H locs ls F hP hS hL
  rcases h7 with rfl | rfl | rfl | rfl | rfl | rfl
  · exact va_alen F.1 F.2.1 F.2.2.2.2.2.2.2.1 hP q 0 he rfl (by show Int32.ofNat (ln k) = v; rw [hc.ln]; exact hv) hd K
  · exact va_alen F.1 F.2.1 F.2.2.2.2.2.2.2.1 hP q 1 he rfl (by show Int32.ofNat (ln k) = v; rw [hc.ln]; exact hv) hd K
  · exact va_alen F.1 F.2.1 F.2.2.2.2.2.2.2.1 hP q 2 he rfl (by show Int32.ofNat (ln k) = v; rw [hc.ln]; exact hv) hd K
  · exact va_alen F.1 F.2.1 F.2.2.2.2.2.2.2.1 hP q 3 he rfl (by show Int32.ofNat (ln k) = v; rw [hc.ln]; exact hv) hd K
  · exact va_alen F.1 F.2.1 F.2.2.2.2.2.2.2.1 hP q 4 he rfl (by show Int32.ofNat (ln k) = v; rw [hc.ln]; exact hv) hd K
  · exact va_alen F.1 F.2.1 F.2.2.2.2.2.2.2.1 hP q 5 he rfl (by show Int32.ofNat (ln k) = v; rw [hc.ln]; exact hv) hd K
/-- the static array -/
theorem am_gets {idx : Nat} (hd : decode M.2.1 pc = .ok (.getstatic idx, 3)) (hw : Cond.fieldLink M.2.2.1 idx "ConsonantIndex$Ear" "FIRSTS_AT_FIRST" "[I" ∈ M.1) (hn : pc + 3 = n) (kk : AW g M Z n l (.ref 60 :: st) h) : AW g M Z pc l st h := by
  subst hn
  intro p e s m args below meth c' H locs ls F hP hS hL
  exact va_gets F.1 F.2.1 F.2.2.2.2.2.2.2.2.2.1 hS F.2.2.2.2.2.1 (F.2.2.2.2.2.2.1 _ hw) (fun _ z => z) hd (kk p e s m args below meth c' H locs ls F hP hS hL)
theorem am_ti {i : Int32} (hd : decode M.2.1 pc = .ok (.iaload, 1)) (hin : vp_in i 26) (hn : pc + 1 = n) (kk : AW g M Z n l (.int (firstK i.toNatClampNeg) :: st) h) : AW g M Z pc l (.int i :: .ref 60 :: st) h := by
  subst hn
  intro p e s m args below meth c' H locs ls F hP hS hL
  exact va_ti F.1 F.2.1 F.2.2.2.2.2.2.2.2.2.2 hS hin rfl hd (kk p e s m args below meth c' H locs ls F hP hS hL)
/-- ends -/
theorem am_hq {P : Option Value → Hp → Prop} {r : Option Value} {s : State} {H : Heap} {locs : List Loc} {args : Array Value} (hp : P r h) (hP : va_P g.2.2.1 vwCl (wsOf g h) H) (hS : va_S (AA g) s.heap H locs) : ∀ t : State, t.heap = H → s.WarmedH t.vm → QC g P args s (.returned (r.map (cv g))) t :=
  fun t ht _ => ⟨⟨r, h, rfl, hp, by rw [ht]; exact hP⟩, hS.F ht⟩
theorem am_iret {P : Option Value → Hp → Prop} {ty : FieldType} {x : Int32} (hd : decode M.2.1 pc = .ok (.ireturn, 1)) (hr : M.2.2.2.2.1 = some ty) (hnw : narrow ty (.int x) = .int x) (hp : P (some (.int x)) h) : AW g M (ZP g P) pc l [.int x] h := by
  intro p e s m args below meth c' H locs ls F hP hS hL
  exact W.zret F.1 F.2.1 (F.2.2.2.1.trans hr) hnw (am_hq hp hP hS) hS.2.2 hd F.2.2.2.2.1
theorem am_lret {P : Option Value → Hp → Prop} {x : Int64} (hd : decode M.2.1 pc = .ok (.lreturn, 1)) (hr : M.2.2.2.2.1 = some .long) (hp : P (some (.long x)) h) : AW g M (ZP g P) pc l [.long x] h := by
  intro p e s m args below meth c' H locs ls F hP hS hL
  exact W.lret F.1 F.2.1 (F.2.2.2.1.trans hr) (am_hq hp hP hS) hS.2.2 hd F.2.2.2.2.1
theorem am_vret {P : Option Value → Hp → Prop} (hd : decode M.2.1 pc = .ok (.return_, 1)) (hr : M.2.2.2.2.1 = none) (hp : P none h) : AW g M (ZP g P) pc l [] h := by
  intro p e s m args below meth c' H locs ls F hP hS hL
  exact W.vret F.1 F.2.1 (F.2.2.2.1.trans hr) (am_hq hp hP hS) hS.2.2 hd F.2.2.2.2.1
theorem am_aret {P : Option Value → Hp → Prop} {k : Nat} {C : String} (hd : decode M.2.1 pc = .ok (.areturn, 1)) (hr : M.2.2.2.2.1 = some (.object C)) (hp : P (some (.ref k)) h) : AW g M (ZP g P) pc l [.ref k] h := by
  intro p e s m args below meth c' H locs ls F hP hS hL
  exact W.aret F.1 F.2.1 (F.2.2.2.1.trans hr) (Or.inl ⟨_, rfl⟩) (Or.inr ⟨_, rfl⟩) (am_hq hp hP hS) hS.2.2 hd F.2.2.2.2.1
theorem am_aretN {P : Option Value → Hp → Prop} {C : String} (hd : decode M.2.1 pc = .ok (.areturn, 1)) (hr : M.2.2.2.2.1 = some (.object C)) (hp : P (some .null) h) : AW g M (ZP g P) pc l [.null] h := by
  intro p e s m args below meth c' H locs ls F hP hS hL
  exact W.aret F.1 F.2.1 (F.2.2.2.1.trans hr) (Or.inl ⟨_, rfl⟩) (Or.inl rfl) (am_hq hp hP hS) hS.2.2 hd F.2.2.2.2.1
end AM
/-- a contract out of its body -/
theorem AC.of {g : Gx} {y : MethodName} {ws ws' : List Cond} {rm : Room} {cc : ByteArray} {maxL : Nat} {ret : Option FieldType} {as : List Value} {h : Hp} {P : Option Value → Hp → Prop} (hy : plainName y.cls = true) (hw : ws = Cond.code y cc maxL ret :: ws') (hlen : (lg_sl as).length ≤ maxL)
    (body : AW g (ws, cc, y.cls, maxL, ret, rm) (ZP g P) 0 (la 0 as) [] h) : AC g y ws rm as h P := by
  intro hg
  refine Met.ofW (cc := cc) (maxL := maxL) (ret := ret) hy hw ?_
  intro p e s m args below meth c s₁ B hml hv
  obtain ⟨rfl, hP, hK, hZ⟩ := hv
  have hts := atoms_spec (ws := ws) B.pre
  have hown : s.vm.findClass y.cls = some m.cls := findClass_of_methodNamed B.named
  have hl := lv_entry (as.map (cv g)) (n := maxL) (by rw [lg_sl_len]; exact hlen)
  rw [lg_entry_eq]
  generalize (lg_sl (as.map (cv g)) ++ List.replicate (maxL - (lg_sl (as.map (cv g))).length) Slot.unset).toArray = ls at hl ⊢
  exact body p e s m _ below meth c s.heap [] ls ⟨B.exec, B.bytes, hml, B.returns, B.notSynchronized, hown, hts, hK, hg, hZ⟩ hP va_S.rf ⟨hl.1, hl.2.1, fun i v hi => hl.2.2 _ (la_args g as 0 i v hi)⟩
end
section
/-! CALLS in the abstract machine -/
theorem AC.cond {g : Gx} {U : State} {h : Hp} (gg : JFrame) (mk : MethodId) (a : Array Value) (q : WD g h U) : WD g h (U.calling gg mk a) :=
  ⟨q.1, va_K.moved (u := U) (U := U.calling gg mk a) (Vm.Alike.refl U.vm) q.2.1, va_Z.moved (u := U) (U := U.calling gg mk a) (Vm.Alike.refl U.vm) q.2.2.1, va_T.moved (u := U) (U := U.calling gg mk a) (Vm.Alike.refl U.vm) q.2.2.2⟩
section AMC
variable {g : Gx} {M : MI} {Z : Zt} {pc n tgt : Nat} {l : Lo} {st : List Value} {h : Hp}
theorem am_fb {as : List Value} : FrameBlind (va_Pc (as.map (cv g)) (WD g h)) := fun a U gg mk q => ⟨q.1, AC.cond gg mk a q.2⟩
theorem am_wd {p : Program} {s : State} {m : MethodId} {args : Array Value} {meth : Method} {c : Code} {H : Heap} {locs : List Loc} (F : FX g M p s m args meth c) (hP : va_P g.2.2.1 vwCl (wsOf g h) H) (hS : va_S (AA g) s.heap H locs) (U : State) (hU : U.heap = H) (hW : s.WarmedH U.vm) : WD g h U := by
  have hq : ∀ a : Nat, a < s.heap.size → ¬ AA g a → H[a]? = s.heap[a]? := fun a h1 h2 => hS.2.1 a h1 h2
  refine ⟨by rw [hU]; exact hP, va_K.moved hW.alike F.2.2.2.2.2.2.2.1, ?_, ?_⟩
  · rw [hU]
    exact va_Z.moved hW.alike (va_Z.kept F.2.2.2.2.2.2.2.2.2.1 hq)
  · rw [hU]
    exact va_T.moved hW.alike (va_T.kept F.2.2.2.2.2.2.2.2.2.2 hq)
theorem am_of_run {P : Option Value → Hp → Prop} {p : Program} {e : Env} {s : State} {m : MethodId} {args a : Array Value} {below : List Frame} {meth : Method} {c : Code} {H : Heap} {locs : List Loc} {ls : Array Slot} {st0 : List Value}
    (hr : va_Run p g.1 e M.2.2.2.2.2 s m args below meth c H locs Z.1 Z.2.1 0 0 (F0 m pc ls st0) (st.map (cv g)) (QC g P a) (AA g)) (F : FX g M p s m args meth c) (hS : va_S (AA g) s.heap H locs) (hL : LM g ls M.2.2.2.1 l)
    (kk : ∀ (r : Option Value) (h' : Hp), P r h' → AW g M Z (pc + 3) l (r.toList ++ st) h') :
    W p g.1 e M.2.2.2.2.2 s m args below meth c H locs Z.1 Z.2.1 (Z.2.2 below args s) (F0 m pc ls st0) := by
  intro T hT X
  obtain ⟨v, st₀, t, T', L, h0, X', hLL, e1, e2, ⟨⟨r, h', hv, hp, hP'⟩, hF⟩, hst⟩ := hr T hT X
  cases hv
  have hz : H.size ≤ t.heap.size := by rw [← h0]; exact hF.1
  have hk : ∀ q : Nat, q < H.size → ¬ AA g q → t.heap[q]? = H[q]? := by
    intro q h1 h2
    rw [← h0]
    exact hF.2 q (by rw [h0]; exact h1) h2
  have hS' : va_S (AA g) s.heap T'.heap (locs ++ L) := by
    rw [e1]
    refine ⟨Nat.le_trans hS.1 hz, fun q h1 h2 => ?_, fun q hq => ?_⟩
    · rw [hk q (Nat.lt_of_lt_of_le h1 hS.1) h2]
      exact hS.2.1 q h1 h2
    · rcases List.mem_append.mp hq with z | z
      · exact hS.2.2 q z
      · exact hLL q z
  obtain ⟨t2, a1, b1⟩ := kk r h' hp p e s m args below meth c T'.heap (locs ++ L) ls F (by rw [e1]; exact hP') hS' hL T' rfl X'
  refine ⟨t2, hst t2 ?_, b1⟩
  have es : (r.map (cv g)).toList ++ st.map (cv g) = (r.toList ++ st).map (cv g) := by cases r <;> simp
  rw [es]
  exact a1
theorem am_callV {y : MethodName} {C own : String} {T : u_T} {N ci b index nA maxL : Nat} {bytes : ByteArray} {ret : Option FieldType} {ws ws' : List Cond} {rm : Room} {As : List Value} {P : Option Value → Hp → Prop} {st0 : List Value}
    (hd : decode M.2.1 pc = .ok (.invokevirtual index, 3)) (hown : M.2.2.1 = own) (hT : GoodIn M.1 (wsV own index C y ws)) (hw : ws = Cond.code y bytes maxL ret :: ws') (hcl : vwCl[ci]? = some (C, T, N)) (h7 : ci < 7)
    (hdd : y.cls = C ∧ y.cls ≠ "java/lang/invoke/MethodHandle" ∧ y.cls ≠ "java/lang/invoke/VarHandle" ∧ (parseMethodDescriptor y.desc).map (fun d => d.parameters.length) = some nA)
    (hrm : rm.cells = 0 ∧ rm.slots = 0) (hR : rm.frames + 1 ≤ M.2.2.2.2.2.frames ∧ 8 + (maxL + 11) + rm.locals ≤ M.2.2.2.2.2.locals) (hcs : Z.1 ≤ M.2.2.2.2.2.cells ∧ Z.2.1 ≤ M.2.2.2.2.2.slots)
    (hA : AC g y ws rm (.ref b :: As) h P) (hnA : As.length = nA) (hst : st0 = As.reverse ++ .ref b :: st) (hcat : (st.map fun v => v.category).sum ≤ 8) (hc : isC b ci 0) (hn : pc + 3 = n)
    (kk : ∀ (r : Option Value) (h' : Hp), P r h' → AW g M Z n l (r.toList ++ st) h') : AW g M Z pc l st0 h := by
  subst hn
  subst hown
  subst hst
  intro p e s m args below meth c H locs ls F hP hS hL
  obtain ⟨q, hq⟩ := hc.at
  have he := ws_get (g := g) (h := h) hq
  have hE : cellE g h b = .inr (ci, (fl h b ci).map (cv g)) := by
    unfold cellE
    rw [hc.kd, if_pos h7]
  rw [hE] at he
  have hcat' : ((st.map (cv g)).map fun v => v.category).sum ≤ 8 := by
    rw [List.map_map, show ((fun v : Value => v.category) ∘ cv g) = (fun v => v.category) from funext (fun v => cv_cat g v)]
    exact hcat
  have hr := va_runV (l := g.1) (e := e) (R := M.2.2.2.2.2) (s := s) (below := below) (meth := meth) (H := H) (locs := locs) (cells := Z.1) (slots := Z.2.1) (As := As.map (cv g)) (rest := st.map (cv g)) (b := g.2.1 b) (g := F0 m pc ls ((As.reverse ++ .ref b :: st).map (cv g))) (Ts := M.1) (own := M.2.2.1) (nL := M.2.2.2.1) (index := index)
    ⟨F.1, F.2.1, F.2.2.1, F.2.2.2.2.2.1, F.2.2.2.2.2.2.1⟩ (hA F.2.2.2.2.2.2.2.2.1) (cwV nA F.2.2.2.2.2.2.1 hT hw hrm.1 hrm.2 hdd hR)
    ⟨am_fb (as := .ref b :: As), va_recv F.2.2.2.2.2.2.2.1 hP hcl he, fun U hU hW => ⟨rfl, am_wd F hP hS U hU hW⟩⟩ rfl (by rw [List.length_map]; exact hnA) hL.1 (by simp [cv]) (lv_room hcat') hd ⟨by simpa using hcs.1, by simpa using hcs.2⟩
  exact am_of_run hr F hS hL kk
theorem am_callS {y : MethodName} {own : String} {index nA maxL : Nat} {bytes : ByteArray} {ret : Option FieldType} {ws ws' : List Cond} {rm : Room} {As : List Value} {P : Option Value → Hp → Prop} {st0 : List Value}
    (hd : decode M.2.1 pc = .ok (.invokestatic index, 3)) (hown : M.2.2.1 = own) (hT : GoodIn M.1 (va_wsS own index y ws)) (hw : ws = Cond.code y bytes maxL ret :: ws')
    (hdd : y.cls ≠ "java/lang/invoke/MethodHandle" ∧ y.cls ≠ "java/lang/invoke/VarHandle" ∧ (parseMethodDescriptor y.desc).map (fun d => d.parameters.length) = some nA)
    (hrm : rm.cells = 0 ∧ rm.slots = 0) (hR : rm.frames + 1 ≤ M.2.2.2.2.2.frames ∧ 8 + (maxL + 11) + rm.locals ≤ M.2.2.2.2.2.locals) (hcs : Z.1 ≤ M.2.2.2.2.2.cells ∧ Z.2.1 ≤ M.2.2.2.2.2.slots)
    (hA : AC g y ws rm As h P) (hnA : As.length = nA) (hst : st0 = As.reverse ++ st) (hcat : (st.map fun v => v.category).sum ≤ 8) (hn : pc + 3 = n)
    (kk : ∀ (r : Option Value) (h' : Hp), P r h' → AW g M Z n l (r.toList ++ st) h') : AW g M Z pc l st0 h := by
  subst hn
  subst hown
  subst hst
  intro p e s m args below meth c H locs ls F hP hS hL
  have hcat' : ((st.map (cv g)).map fun v => v.category).sum ≤ 8 := by
    rw [List.map_map, show ((fun v : Value => v.category) ∘ cv g) = (fun v => v.category) from funext (fun v => cv_cat g v)]
    exact hcat
  have hr := va_runS (l := g.1) (e := e) (R := M.2.2.2.2.2) (s := s) (below := below) (meth := meth) (H := H) (locs := locs) (cells := Z.1) (slots := Z.2.1) (As := As.map (cv g)) (rest := st.map (cv g)) (g := F0 m pc ls ((As.reverse ++ st).map (cv g))) (Ts := M.1) (own := M.2.2.1) (nL := M.2.2.2.1) (index := index)
    ⟨F.1, F.2.1, F.2.2.1, F.2.2.2.2.2.1, F.2.2.2.2.2.2.1⟩ (hA F.2.2.2.2.2.2.2.2.1) (va_cwS nA F.2.2.2.2.2.2.1 hT hw hrm.1 hrm.2 hdd hR)
    ⟨am_fb, fun U hU hW => ⟨rfl, am_wd F hP hS U hU hW⟩⟩ rfl (by rw [List.length_map]; exact hnA) hL.1 (by simp) (lv_room hcat') hd ⟨by simpa using hcs.1, by simpa using hcs.2⟩
  exact am_of_run hr F hS hL kk
theorem am_mmax {x y : Int32} {index : Nat} (hd : decode M.2.1 pc = .ok (.invokestatic index, 3)) (h1 : Cond.methodLink M.2.2.1 index Lib.Math.max.name ∈ M.1) (h2 : Cond.static Lib.Math.max.name ∈ M.1) (h3 : Cond.initialized "java/lang/Math" ∈ M.1) (h4 : Cond.code Lib.Math.max.name Lib.Math.max.code 2 (some .int) ∈ M.1) (hf : 1 ≤ M.2.2.2.2.2.frames) (hlo : (st.map fun v => v.category).sum + 13 ≤ M.2.2.2.2.2.locals) (hcs : Z.1 ≤ M.2.2.2.2.2.cells ∧ Z.2.1 ≤ M.2.2.2.2.2.slots) (hn : pc + 3 = n)
    (kk : AW g M Z n l (.int (if x < y then y else x) :: st) h) : AW g M Z pc l (.int y :: .int x :: st) h := by
  subst hn
  intro p e s m args below meth c H locs ls F hP hS hL
  have hcat' : ((st.map (cv g)).map fun v => v.category).sum + 13 ≤ M.2.2.2.2.2.locals := by
    rw [List.map_map, show ((fun v : Value => v.category) ∘ cv g) = (fun v => v.category) from funext (fun v => cv_cat g v)]
    exact hlo
  have hw := F.2.2.2.2.2.2.1
  exact va_mmax F.1 F.2.1 (F.2.2.1.trans hL.1.symm) F.2.2.2.2.2.1 (hw _ h1) (hw _ h2) (hw _ h3) (hw _ h4) hf hcat' hcs.1 hcs.2 hd (kk p e s m args below meth c H locs ls F hP hS hL)
theorem am_mmin {x y : Int32} {index : Nat} (hd : decode M.2.1 pc = .ok (.invokestatic index, 3)) (h1 : Cond.methodLink M.2.2.1 index Lib.Math.min.name ∈ M.1) (h2 : Cond.static Lib.Math.min.name ∈ M.1) (h3 : Cond.initialized "java/lang/Math" ∈ M.1) (h4 : Cond.code Lib.Math.min.name Lib.Math.min.code 2 (some .int) ∈ M.1) (hf : 1 ≤ M.2.2.2.2.2.frames) (hlo : (st.map fun v => v.category).sum + 13 ≤ M.2.2.2.2.2.locals) (hcs : Z.1 ≤ M.2.2.2.2.2.cells ∧ Z.2.1 ≤ M.2.2.2.2.2.slots) (hn : pc + 3 = n)
    (kk : AW g M Z n l (.int (if y < x then y else x) :: st) h) : AW g M Z pc l (.int y :: .int x :: st) h := by
  subst hn
  intro p e s m args below meth c H locs ls F hP hS hL
  have hcat' : ((st.map (cv g)).map fun v => v.category).sum + 13 ≤ M.2.2.2.2.2.locals := by
    rw [List.map_map, show ((fun v : Value => v.category) ∘ cv g) = (fun v => v.category) from funext (fun v => cv_cat g v)]
    exact hlo
  have hw := F.2.2.2.2.2.2.1
  exact va_mmin F.1 F.2.1 (F.2.2.1.trans hL.1.symm) F.2.2.2.2.2.1 (hw _ h1) (hw _ h2) (hw _ h3) (hw _ h4) hf hcat' hcs.1 hcs.2 hd (kk p e s m args below meth c H locs ls F hP hS hL)
theorem am_copyi {k0 k1 n0 n1 index : Nat} {sp dp z : Int32} (hd : decode M.2.1 pc = .ok (.invokestatic index, 3)) (h1 : Cond.methodLink M.2.2.1 index arraycopyName ∈ M.1) (h2 : Cond.native arraycopyName ∈ M.1) (h3 : Cond.static arraycopyName ∈ M.1) (h4 : Cond.initialized "java/lang/System" ∈ M.1) (hf : 1 ≤ M.2.2.2.2.2.frames) (hlo : (st.map fun v => v.category).sum + (nativeFrameWords "java/lang/System" "arraycopy" 5 + 11) ≤ M.2.2.2.2.2.locals)
    (hc0 : isC k0 8 n0) (hc1 : isC k1 8 n1) (a1 : ¬ sp < 0) (a2 : ¬ dp < 0) (a3 : ¬ z < 0) (a4 : sp.toNatClampNeg + z.toNatClampNeg ≤ n0) (a5 : dp.toNatClampNeg + z.toNatClampNeg ≤ n1) (hn : pc + 3 = n)
    (kk : AW g M Z n l st (setI h k1 (va_cpy (h.1 k0) (h.1 k1) sp.toNatClampNeg dp.toNatClampNeg z.toNatClampNeg))) : AW g M Z pc l (.int z :: .int dp :: .ref k1 :: .int sp :: .ref k0 :: st) h := by
  subst hn
  intro p e s m args below meth c H locs ls F hP hS hL
  obtain ⟨q0, hq0⟩ := hc0.at
  obtain ⟨q1, hq1⟩ := hc1.at
  have he0 := ws_get (g := g) (h := h) hq0
  have he1 := ws_get (g := g) (h := h) hq1
  rw [arr_at g h hc0 (by omega)] at he0
  rw [arr_at g h hc1 (by omega)] at he1
  have hcat' : ((st.map (cv g)).map fun v => v.category).sum + (nativeFrameWords "java/lang/System" "arraycopy" 5 + 11) ≤ M.2.2.2.2.2.locals := by
    rw [List.map_map, show ((fun v : Value => v.category) ∘ cv g) = (fun v => v.category) from funext (fun v => cv_cat g v)]
    exact hlo
  have hw := F.2.2.2.2.2.2.1
  refine va_copyi F.1 F.2.1 (F.2.2.1.trans hL.1.symm) F.2.2.2.2.2.1 (hw _ h1) (hw _ h2) (hw _ h3) (hw _ h4) F.2.2.2.2.2.2.2.1 hP (ws_D F.2.2.2.2.2.2.2.2.1 h) hS q0 q1 1 1 he0 he1 rfl rfl rfl a1 a2 a3 (by rw [hc0.ln]; exact a4) (by rw [hc1.ln]; exact a5) (fun _ _ => rfl) hf hcat' hd (fun H1 locs1 hP1 _ hS1 => ?_)
  have hws := ws_set (g := g) (h := h) (h' := setI h k1 (va_cpy (h.1 k0) (h.1 k1) sp.toNatClampNeg dp.toNatClampNeg z.toNatClampNeg)) hq1 rfl (fun j hj => cellE_congr (va_up_ne _ _ hj) rfl rfl)
  rw [arr_at g _ hc1 (by omega)] at hws
  simp only [ar, setI, va_up_self] at hws
  rw [hws] at hP1
  exact kk p e s m args below meth c H1 locs1 ls F hP1 hS1 hL
theorem am_copyl {k0 k1 n0 n1 index : Nat} {sp dp z : Int32} (hd : decode M.2.1 pc = .ok (.invokestatic index, 3)) (h1 : Cond.methodLink M.2.2.1 index arraycopyName ∈ M.1) (h2 : Cond.native arraycopyName ∈ M.1) (h3 : Cond.static arraycopyName ∈ M.1) (h4 : Cond.initialized "java/lang/System" ∈ M.1) (hf : 1 ≤ M.2.2.2.2.2.frames) (hlo : (st.map fun v => v.category).sum + (nativeFrameWords "java/lang/System" "arraycopy" 5 + 11) ≤ M.2.2.2.2.2.locals)
    (hc0 : isC k0 9 n0) (hc1 : isC k1 9 n1) (a1 : ¬ sp < 0) (a2 : ¬ dp < 0) (a3 : ¬ z < 0) (a4 : sp.toNatClampNeg + z.toNatClampNeg ≤ n0) (a5 : dp.toNatClampNeg + z.toNatClampNeg ≤ n1) (hn : pc + 3 = n)
    (kk : AW g M Z n l st (setJ h k1 (va_cpy (h.2.1 k0) (h.2.1 k1) sp.toNatClampNeg dp.toNatClampNeg z.toNatClampNeg))) : AW g M Z pc l (.int z :: .int dp :: .ref k1 :: .int sp :: .ref k0 :: st) h := by
  subst hn
  intro p e s m args below meth c H locs ls F hP hS hL
  obtain ⟨q0, hq0⟩ := hc0.at
  obtain ⟨q1, hq1⟩ := hc1.at
  have he0 := ws_get (g := g) (h := h) hq0
  have he1 := ws_get (g := g) (h := h) hq1
  rw [arr_at g h hc0 (by omega)] at he0
  rw [arr_at g h hc1 (by omega)] at he1
  have hcat' : ((st.map (cv g)).map fun v => v.category).sum + (nativeFrameWords "java/lang/System" "arraycopy" 5 + 11) ≤ M.2.2.2.2.2.locals := by
    rw [List.map_map, show ((fun v : Value => v.category) ∘ cv g) = (fun v => v.category) from funext (fun v => cv_cat g v)]
    exact hlo
  have hw := F.2.2.2.2.2.2.1
  refine va_copyl F.1 F.2.1 (F.2.2.1.trans hL.1.symm) F.2.2.2.2.2.1 (hw _ h1) (hw _ h2) (hw _ h3) (hw _ h4) F.2.2.2.2.2.2.2.1 hP (ws_D F.2.2.2.2.2.2.2.2.1 h) hS q0 q1 2 2 he0 he1 rfl rfl rfl a1 a2 a3 (by rw [hc0.ln]; exact a4) (by rw [hc1.ln]; exact a5) (fun _ _ => rfl) hf hcat' hd (fun H1 locs1 hP1 _ hS1 => ?_)
  have hws := ws_set (g := g) (h := h) (h' := setJ h k1 (va_cpy (h.2.1 k0) (h.2.1 k1) sp.toNatClampNeg dp.toNatClampNeg z.toNatClampNeg)) hq1 rfl (fun j hj => cellE_congr rfl (va_up_ne _ _ hj) rfl)
  rw [arr_at g _ hc1 (by omega)] at hws
  simp only [ar, setJ, va_up_self] at hws
  rw [hws] at hP1
  exact kk p e s m args below meth c H1 locs1 ls F hP1 hS1 hL
theorem am_iinc1 {i : Nat} {x : Int32} (hd : decode M.2.1 pc = .ok (.iinc i 1, 3)) (hl : lget l i = some (.int x)) (hok : okst l i = true) (hn : pc + 3 = n) (kk : AW g M Z n ((i, some (.int (x + 1))) :: l) st h) : AW g M Z pc l st h := am_iinc hd hl rfl hok hn kk
theorem am_iincN {i j : Nat} (hd : decode M.2.1 pc = .ok (.iinc i 1, 3)) (hl : lget l i = some (.int (nI j))) (hok : okst l i = true) (hn : pc + 3 = n) (kk : AW g M Z n ((i, some (.int (nI (j + 1)))) :: l) st h) : AW g M Z pc l st h := am_iinc hd hl (nI_1 j) hok hn kk
end AMC
end
