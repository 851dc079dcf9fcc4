section
-- ===== PART A: goes FIRST, ahead of the names: the tables' words, and 'selects' of the private methods out of them =====
/-- a private method of a class that the tables say can be made, by its rows of tables_1 -/
def lw_okq (q : MethodName × Nat) : Prop := (q.1.cls ≠ "java/lang/invoke/MethodHandle" ∧ q.1.cls ≠ "java/lang/invoke/VarHandle") ∧ Cond.instantiable q.1.cls q.2 ∈ tables_1 ∧ Cond.privateMethod q.1 ∈ tables_1 ∧ Cond.instanceMethod q.1 ∈ tables_1
theorem lw_p0 : lw_okq (⟨"CarOrders", "forgetOrders", "()V"⟩, 11) := ⟨⟨by decide +kernel, by decide +kernel⟩, List.mem_of_getElem? (i := 16) (by decide +kernel), List.mem_of_getElem? (i := 291) (by decide +kernel), List.mem_of_getElem? (i := 292) (by decide +kernel)⟩
theorem lw_p1 : lw_okq (⟨"CarOrders$Row", "trailWith", "(I)I"⟩, 6) := ⟨⟨by decide +kernel, by decide +kernel⟩, List.mem_of_getElem? (i := 74) (by decide +kernel), List.mem_of_getElem? (i := 377) (by decide +kernel), List.mem_of_getElem? (i := 378) (by decide +kernel)⟩
theorem lw_p2 : lw_okq (⟨"CarOrders", "classAt", "([II)I"⟩, 11) := ⟨⟨by decide +kernel, by decide +kernel⟩, List.mem_of_getElem? (i := 16) (by decide +kernel), List.mem_of_getElem? (i := 483) (by decide +kernel), List.mem_of_getElem? (i := 484) (by decide +kernel)⟩
theorem lw_p3 : lw_okq (⟨"CarOrders", "walkPad", "()I"⟩, 11) := ⟨⟨by decide +kernel, by decide +kernel⟩, List.mem_of_getElem? (i := 16) (by decide +kernel), List.mem_of_getElem? (i := 543) (by decide +kernel), List.mem_of_getElem? (i := 544) (by decide +kernel)⟩
theorem lw_p4 : lw_okq (⟨"CarOrders$Siding", "walk", "(III)V"⟩, 3) := ⟨⟨by decide +kernel, by decide +kernel⟩, List.mem_of_getElem? (i := 233) (by decide +kernel), List.mem_of_getElem? (i := 578) (by decide +kernel), List.mem_of_getElem? (i := 579) (by decide +kernel)⟩
theorem lw_p5 : lw_okq (⟨"CarOrders", "imageOf", "(I)LCarOrders$Plan;"⟩, 11) := ⟨⟨by decide +kernel, by decide +kernel⟩, List.mem_of_getElem? (i := 16) (by decide +kernel), List.mem_of_getElem? (i := 590) (by decide +kernel), List.mem_of_getElem? (i := 591) (by decide +kernel)⟩
theorem lw_p6 : lw_okq (⟨"CarOrders", "padIsOrder", "()Z"⟩, 11) := ⟨⟨by decide +kernel, by decide +kernel⟩, List.mem_of_getElem? (i := 16) (by decide +kernel), List.mem_of_getElem? (i := 611) (by decide +kernel), List.mem_of_getElem? (i := 612) (by decide +kernel)⟩
theorem lw_p7 : lw_okq (⟨"CarOrdersModel", "cars", "()I"⟩, 16) := ⟨⟨by decide +kernel, by decide +kernel⟩, List.mem_of_getElem? (i := 615) (by decide +kernel), List.mem_of_getElem? (i := 692) (by decide +kernel), List.mem_of_getElem? (i := 693) (by decide +kernel)⟩
theorem lw_p8 : lw_okq (⟨"CarOrdersModel", "wanted", "(I)I"⟩, 16) := ⟨⟨by decide +kernel, by decide +kernel⟩, List.mem_of_getElem? (i := 615) (by decide +kernel), List.mem_of_getElem? (i := 704) (by decide +kernel), List.mem_of_getElem? (i := 705) (by decide +kernel)⟩
theorem lw_p9 : lw_okq (⟨"CarOrdersModel", "has", "(II)Z"⟩, 16) := ⟨⟨by decide +kernel, by decide +kernel⟩, List.mem_of_getElem? (i := 615) (by decide +kernel), List.mem_of_getElem? (i := 708) (by decide +kernel), List.mem_of_getElem? (i := 709) (by decide +kernel)⟩
theorem lw_p10 : lw_okq (⟨"CarOrdersModel", "room", "(I)I"⟩, 16) := ⟨⟨by decide +kernel, by decide +kernel⟩, List.mem_of_getElem? (i := 615) (by decide +kernel), List.mem_of_getElem? (i := 712) (by decide +kernel), List.mem_of_getElem? (i := 713) (by decide +kernel)⟩
theorem lw_p11 : lw_okq (⟨"CarOrdersModel", "goFits", "()V"⟩, 16) := ⟨⟨by decide +kernel, by decide +kernel⟩, List.mem_of_getElem? (i := 615) (by decide +kernel), List.mem_of_getElem? (i := 727) (by decide +kernel), List.mem_of_getElem? (i := 728) (by decide +kernel)⟩
theorem lw_p12 : lw_okq (⟨"CarOrdersModel", "firstOrder", "()V"⟩, 16) := ⟨⟨by decide +kernel, by decide +kernel⟩, List.mem_of_getElem? (i := 615) (by decide +kernel), List.mem_of_getElem? (i := 731) (by decide +kernel), List.mem_of_getElem? (i := 732) (by decide +kernel)⟩
theorem lw_p13 : lw_okq (⟨"CarOrdersModel", "breaks", "()I"⟩, 16) := ⟨⟨by decide +kernel, by decide +kernel⟩, List.mem_of_getElem? (i := 615) (by decide +kernel), List.mem_of_getElem? (i := 735) (by decide +kernel), List.mem_of_getElem? (i := 736) (by decide +kernel)⟩
theorem lw_p14 : lw_okq (⟨"CarOrdersModel", "breaksAt", "(I)I"⟩, 16) := ⟨⟨by decide +kernel, by decide +kernel⟩, List.mem_of_getElem? (i := 615) (by decide +kernel), List.mem_of_getElem? (i := 739) (by decide +kernel), List.mem_of_getElem? (i := 740) (by decide +kernel)⟩
theorem lw_p15 : lw_okq (⟨"CarOrdersModel", "isBreak", "(II)Z"⟩, 16) := ⟨⟨by decide +kernel, by decide +kernel⟩, List.mem_of_getElem? (i := 615) (by decide +kernel), List.mem_of_getElem? (i := 743) (by decide +kernel), List.mem_of_getElem? (i := 744) (by decide +kernel)⟩
def lw_privs_1 : List (MethodName × Nat) := [(⟨"CarOrders", "forgetOrders", "()V"⟩, 11), (⟨"CarOrders$Row", "trailWith", "(I)I"⟩, 6), (⟨"CarOrders", "classAt", "([II)I"⟩, 11), (⟨"CarOrders", "walkPad", "()I"⟩, 11), (⟨"CarOrders$Siding", "walk", "(III)V"⟩, 3), (⟨"CarOrders", "imageOf", "(I)LCarOrders$Plan;"⟩, 11), (⟨"CarOrders", "padIsOrder", "()Z"⟩, 11), (⟨"CarOrdersModel", "cars", "()I"⟩, 16), (⟨"CarOrdersModel", "wanted", "(I)I"⟩, 16), (⟨"CarOrdersModel", "has", "(II)Z"⟩, 16), (⟨"CarOrdersModel", "room", "(I)I"⟩, 16), (⟨"CarOrdersModel", "goFits", "()V"⟩, 16), (⟨"CarOrdersModel", "firstOrder", "()V"⟩, 16), (⟨"CarOrdersModel", "breaks", "()I"⟩, 16), (⟨"CarOrdersModel", "breaksAt", "(I)I"⟩, 16), (⟨"CarOrdersModel", "isBreak", "(II)Z"⟩, 16)]
theorem lw_r1 : ∀ q ∈ lw_privs_1, lw_okq q := List.forall_mem_cons.mpr ⟨lw_p0, List.forall_mem_cons.mpr ⟨lw_p1, List.forall_mem_cons.mpr ⟨lw_p2, List.forall_mem_cons.mpr ⟨lw_p3, List.forall_mem_cons.mpr ⟨lw_p4, List.forall_mem_cons.mpr ⟨lw_p5, List.forall_mem_cons.mpr ⟨lw_p6, List.forall_mem_cons.mpr ⟨lw_p7, List.forall_mem_cons.mpr ⟨lw_p8, List.forall_mem_cons.mpr ⟨lw_p9, List.forall_mem_cons.mpr ⟨lw_p10, List.forall_mem_cons.mpr ⟨lw_p11, List.forall_mem_cons.mpr ⟨lw_p12, List.forall_mem_cons.mpr ⟨lw_p13, List.forall_mem_cons.mpr ⟨lw_p14, List.forall_mem_cons.mpr ⟨lw_p15, fun _ h => absurd h List.not_mem_nil⟩⟩⟩⟩⟩⟩⟩⟩⟩⟩⟩⟩⟩⟩⟩⟩
theorem lw_p16 : lw_okq (⟨"CarOrdersModel", "keepBest", "()V"⟩, 16) := ⟨⟨by decide +kernel, by decide +kernel⟩, List.mem_of_getElem? (i := 615) (by decide +kernel), List.mem_of_getElem? (i := 747) (by decide +kernel), List.mem_of_getElem? (i := 748) (by decide +kernel)⟩
theorem lw_p17 : lw_okq (⟨"CarOrdersModel", "nextOrder", "()Z"⟩, 16) := ⟨⟨by decide +kernel, by decide +kernel⟩, List.mem_of_getElem? (i := 615) (by decide +kernel), List.mem_of_getElem? (i := 751) (by decide +kernel), List.mem_of_getElem? (i := 752) (by decide +kernel)⟩
theorem lw_p18 : lw_okq (⟨"CarOrdersModel", "swap", "(II)V"⟩, 16) := ⟨⟨by decide +kernel, by decide +kernel⟩, List.mem_of_getElem? (i := 615) (by decide +kernel), List.mem_of_getElem? (i := 755) (by decide +kernel), List.mem_of_getElem? (i := 756) (by decide +kernel)⟩
theorem lw_p19 : lw_okq (⟨"CarOrdersModel", "told", "(I)I"⟩, 16) := ⟨⟨by decide +kernel, by decide +kernel⟩, List.mem_of_getElem? (i := 615) (by decide +kernel), List.mem_of_getElem? (i := 759) (by decide +kernel), List.mem_of_getElem? (i := 760) (by decide +kernel)⟩
theorem lw_p20 : lw_okq (⟨"CarOrdersModel", "goLeast", "()V"⟩, 16) := ⟨⟨by decide +kernel, by decide +kernel⟩, List.mem_of_getElem? (i := 615) (by decide +kernel), List.mem_of_getElem? (i := 771) (by decide +kernel), List.mem_of_getElem? (i := 772) (by decide +kernel)⟩
theorem lw_p21 : lw_okq (⟨"CarOrdersModel", "goRule", "()V"⟩, 16) := ⟨⟨by decide +kernel, by decide +kernel⟩, List.mem_of_getElem? (i := 615) (by decide +kernel), List.mem_of_getElem? (i := 783) (by decide +kernel), List.mem_of_getElem? (i := 784) (by decide +kernel)⟩
theorem lw_p22 : lw_okq (⟨"CarOrdersModel", "taken", "(I)I"⟩, 16) := ⟨⟨by decide +kernel, by decide +kernel⟩, List.mem_of_getElem? (i := 615) (by decide +kernel), List.mem_of_getElem? (i := 787) (by decide +kernel), List.mem_of_getElem? (i := 788) (by decide +kernel)⟩
theorem lw_p23 : lw_okq (⟨"CarOrdersModel", "layLeft", "(I)V"⟩, 16) := ⟨⟨by decide +kernel, by decide +kernel⟩, List.mem_of_getElem? (i := 615) (by decide +kernel), List.mem_of_getElem? (i := 791) (by decide +kernel), List.mem_of_getElem? (i := 792) (by decide +kernel)⟩
theorem lw_p24 : lw_okq (⟨"CarOrdersModel", "isBetter", "(IIII)Z"⟩, 16) := ⟨⟨by decide +kernel, by decide +kernel⟩, List.mem_of_getElem? (i := 615) (by decide +kernel), List.mem_of_getElem? (i := 795) (by decide +kernel), List.mem_of_getElem? (i := 796) (by decide +kernel)⟩
theorem lw_p25 : lw_okq (⟨"CarOrdersModel", "off", "()I"⟩, 16) := ⟨⟨by decide +kernel, by decide +kernel⟩, List.mem_of_getElem? (i := 615) (by decide +kernel), List.mem_of_getElem? (i := 806) (by decide +kernel), List.mem_of_getElem? (i := 807) (by decide +kernel)⟩
theorem lw_p26 : lw_okq (⟨"CarOrdersModel", "isOpen", "()Z"⟩, 16) := ⟨⟨by decide +kernel, by decide +kernel⟩, List.mem_of_getElem? (i := 615) (by decide +kernel), List.mem_of_getElem? (i := 822) (by decide +kernel), List.mem_of_getElem? (i := 823) (by decide +kernel)⟩
theorem lw_p27 : lw_okq (⟨"CarOrdersModel", "layPad", "()V"⟩, 16) := ⟨⟨by decide +kernel, by decide +kernel⟩, List.mem_of_getElem? (i := 615) (by decide +kernel), List.mem_of_getElem? (i := 826) (by decide +kernel), List.mem_of_getElem? (i := 827) (by decide +kernel)⟩
theorem lw_p28 : lw_okq (⟨"CarOrdersModel", "firstBreak", "()I"⟩, 16) := ⟨⟨by decide +kernel, by decide +kernel⟩, List.mem_of_getElem? (i := 615) (by decide +kernel), List.mem_of_getElem? (i := 830) (by decide +kernel), List.mem_of_getElem? (i := 831) (by decide +kernel)⟩
theorem lw_p29 : lw_okq (⟨"CarOrdersModel", "isOrder", "()Z"⟩, 16) := ⟨⟨by decide +kernel, by decide +kernel⟩, List.mem_of_getElem? (i := 615) (by decide +kernel), List.mem_of_getElem? (i := 834) (by decide +kernel), List.mem_of_getElem? (i := 835) (by decide +kernel)⟩
theorem lw_p30 : lw_okq (⟨"CarOrdersModel", "onPad", "(I)I"⟩, 16) := ⟨⟨by decide +kernel, by decide +kernel⟩, List.mem_of_getElem? (i := 615) (by decide +kernel), List.mem_of_getElem? (i := 838) (by decide +kernel), List.mem_of_getElem? (i := 839) (by decide +kernel)⟩
theorem lw_p31 : lw_okq (⟨"CarOrdersModel", "isAsTold", "()Z"⟩, 16) := ⟨⟨by decide +kernel, by decide +kernel⟩, List.mem_of_getElem? (i := 615) (by decide +kernel), List.mem_of_getElem? (i := 846) (by decide +kernel), List.mem_of_getElem? (i := 847) (by decide +kernel)⟩
def lw_privs_2 : List (MethodName × Nat) := [(⟨"CarOrdersModel", "keepBest", "()V"⟩, 16), (⟨"CarOrdersModel", "nextOrder", "()Z"⟩, 16), (⟨"CarOrdersModel", "swap", "(II)V"⟩, 16), (⟨"CarOrdersModel", "told", "(I)I"⟩, 16), (⟨"CarOrdersModel", "goLeast", "()V"⟩, 16), (⟨"CarOrdersModel", "goRule", "()V"⟩, 16), (⟨"CarOrdersModel", "taken", "(I)I"⟩, 16), (⟨"CarOrdersModel", "layLeft", "(I)V"⟩, 16), (⟨"CarOrdersModel", "isBetter", "(IIII)Z"⟩, 16), (⟨"CarOrdersModel", "off", "()I"⟩, 16), (⟨"CarOrdersModel", "isOpen", "()Z"⟩, 16), (⟨"CarOrdersModel", "layPad", "()V"⟩, 16), (⟨"CarOrdersModel", "firstBreak", "()I"⟩, 16), (⟨"CarOrdersModel", "isOrder", "()Z"⟩, 16), (⟨"CarOrdersModel", "onPad", "(I)I"⟩, 16), (⟨"CarOrdersModel", "isAsTold", "()Z"⟩, 16)]
theorem lw_r2 : ∀ q ∈ lw_privs_2, lw_okq q := List.forall_mem_cons.mpr ⟨lw_p16, List.forall_mem_cons.mpr ⟨lw_p17, List.forall_mem_cons.mpr ⟨lw_p18, List.forall_mem_cons.mpr ⟨lw_p19, List.forall_mem_cons.mpr ⟨lw_p20, List.forall_mem_cons.mpr ⟨lw_p21, List.forall_mem_cons.mpr ⟨lw_p22, List.forall_mem_cons.mpr ⟨lw_p23, List.forall_mem_cons.mpr ⟨lw_p24, List.forall_mem_cons.mpr ⟨lw_p25, List.forall_mem_cons.mpr ⟨lw_p26, List.forall_mem_cons.mpr ⟨lw_p27, List.forall_mem_cons.mpr ⟨lw_p28, List.forall_mem_cons.mpr ⟨lw_p29, List.forall_mem_cons.mpr ⟨lw_p30, List.forall_mem_cons.mpr ⟨lw_p31, fun _ h => absurd h List.not_mem_nil⟩⟩⟩⟩⟩⟩⟩⟩⟩⟩⟩⟩⟩⟩⟩⟩
theorem lw_p32 : lw_okq (⟨"CarOrdersModel", "goOn", "(II)Z"⟩, 16) := ⟨⟨by decide +kernel, by decide +kernel⟩, List.mem_of_getElem? (i := 615) (by decide +kernel), List.mem_of_getElem? (i := 854) (by decide +kernel), List.mem_of_getElem? (i := 855) (by decide +kernel)⟩
theorem lw_p33 : lw_okq (⟨"CarOrdersModel", "demanded", "()I"⟩, 16) := ⟨⟨by decide +kernel, by decide +kernel⟩, List.mem_of_getElem? (i := 615) (by decide +kernel), List.mem_of_getElem? (i := 870) (by decide +kernel), List.mem_of_getElem? (i := 871) (by decide +kernel)⟩
def lw_privs_3 : List (MethodName × Nat) := [(⟨"CarOrdersModel", "goOn", "(II)Z"⟩, 16), (⟨"CarOrdersModel", "demanded", "()I"⟩, 16)]
theorem lw_r3 : ∀ q ∈ lw_privs_3, lw_okq q := List.forall_mem_cons.mpr ⟨lw_p32, List.forall_mem_cons.mpr ⟨lw_p33, fun _ h => absurd h List.not_mem_nil⟩⟩
def lw_privs : List (MethodName × Nat) := lw_privs_1 ++ (lw_privs_2 ++ (lw_privs_3))
def lw_tbl : List Cond := k2_sels lw_privs ++ tables_1
theorem lw_privs_ok : ∀ q ∈ lw_privs, lw_okq q := by
  show ∀ q ∈ lw_privs_1 ++ (lw_privs_2 ++ (lw_privs_3)), lw_okq q
  exact List.forall_mem_append.mpr ⟨lw_r1, List.forall_mem_append.mpr ⟨lw_r2, lw_r3⟩⟩
end
section
/-! ===== BEGIN words of one list among another's, by their places ===== -/
theorem goodIn_r {big : List Cond} (ws : List Cond) (ps : List Nat) (hp : ws = ps.filterMap (fun i => big[i]?)) (h : ws.all goodWord = true) : GoodIn big ws := by
  intro w hw
  have h1 := List.all_eq_true.mp h w hw
  rw [hp] at hw
  obtain ⟨i, -, hi⟩ := List.mem_filterMap.mp hw
  have hm : w ∈ big := by first | exact List.mem_of_getElem? hi | exact List.getElem?_mem hi
  exact ⟨hm, good_of_word h1⟩
theorem goodIn_app {big a b : List Cond} (ha : GoodIn big a) (hb : GoodIn big b) : GoodIn big (a ++ b) := fun w h => (List.mem_append.mp h).elim (ha w) (hb w)
theorem goodIn_ca {big a b : List Cond} {c : Cond} (ha : GoodIn big (c :: a)) (hb : GoodIn big b) : GoodIn big (c :: (a ++ b)) := fun w h => (List.mem_cons.mp h).elim (fun e => ha w (List.mem_cons.mpr (Or.inl e))) (fun h => (List.mem_append.mp h).elim (fun h => ha w (List.mem_cons.mpr (Or.inr h))) (hb w))
theorem goodIn_sub {big ws : List Cond} (hm : ∀ w ∈ ws, w ∈ big) (h : ws.all goodWord = true) : GoodIn big ws := fun w hw => ⟨hm w hw, good_of_word (List.all_eq_true.mp h w hw)⟩
/-! ===== END ===== -/

/-! ===== BEGIN printed: names, fields, word lists, decode rows ===== -/
def RX0 : String := "CarOrders$Fewest"
def TX0 : u_T := fun k => match k with
  | 0 => ("CarOrders$Walk", "plan", "LCarOrders$Plan;", true)
  | 1 => ("CarOrders$Walk", "row", "LCarOrders$Row;", true)
  | 2 => ("CarOrders$Walk", "cars", "I", false)
  | 3 => ("CarOrders$Walk", "known", "Z", false)
  | 4 => ("CarOrders$Fewest", "first", "[I", true)
  | 5 => ("CarOrders$Fewest", "least", "I", false)
  | _ => ("CarOrders$Fewest", "all", "I", false)
def tyX0 : Nat → FieldType := fun k => match k with
  | 0 => .object "CarOrders$Plan"
  | 1 => .object "CarOrders$Row"
  | 2 => .int
  | 3 => .boolean
  | 4 => .array .int
  | 5 => .int
  | _ => .int
abbrev wsX00 : List Cond := u_ws RX0 TX0 7
theorem nmX0 : ∀ a, a < 7 → ∀ b, b < 7 → a ≠ b → (TX0 a).2.1 ≠ (TX0 b).2.1 := by decide +kernel
theorem tyX0_ok : ∀ k, k < 7 → parseFieldDescriptor (TX0 k).2.2.1 = some (tyX0 k) := by decide +kernel
abbrev cX0_init : ByteArray := prog_2_method_1_code
def yX0_init : MethodName := ⟨RX0, "<init>", "(LCarOrders$Plan;LCarOrders$Row;)V"⟩
abbrev cX0_begin : ByteArray := prog_2_method_2_code
def yX0_begin : MethodName := ⟨RX0, "begin", "()V"⟩
abbrev cX0_matters : ByteArray := prog_2_method_3_code
def yX0_matters : MethodName := ⟨RX0, "matters", "(I)Z"⟩
abbrev cX0_note : ByteArray := prog_2_method_4_code
def yX0_note : MethodName := ⟨RX0, "note", "()V"⟩
def RX1 : String := "CarOrders$Filling"
def TX1 : u_T := fun k => match k with
  | 0 => ("CarOrders$Walk", "plan", "LCarOrders$Plan;", true)
  | 1 => ("CarOrders$Walk", "row", "LCarOrders$Row;", true)
  | 2 => ("CarOrders$Walk", "cars", "I", false)
  | 3 => ("CarOrders$Walk", "known", "Z", false)
  | 4 => ("CarOrders$Filling", "pad", "LCarOrders$Pad;", true)
  | 5 => ("CarOrders$Filling", "first", "[I", true)
  | _ => ("CarOrders$Filling", "all", "I", false)
def tyX1 : Nat → FieldType := fun k => match k with
  | 0 => .object "CarOrders$Plan"
  | 1 => .object "CarOrders$Row"
  | 2 => .int
  | 3 => .boolean
  | 4 => .object "CarOrders$Pad"
  | 5 => .array .int
  | _ => .int
abbrev wsX10 : List Cond := u_ws RX1 TX1 7
theorem nmX1 : ∀ a, a < 7 → ∀ b, b < 7 → a ≠ b → (TX1 a).2.1 ≠ (TX1 b).2.1 := by decide +kernel
theorem tyX1_ok : ∀ k, k < 7 → parseFieldDescriptor (TX1 k).2.2.1 = some (tyX1 k) := by decide +kernel
abbrev cX1_init : ByteArray := prog_3_method_1_code
def yX1_init : MethodName := ⟨RX1, "<init>", "(LCarOrders$Plan;LCarOrders$Row;LCarOrders$Pad;)V"⟩
abbrev cX1_begin : ByteArray := prog_3_method_2_code
def yX1_begin : MethodName := ⟨RX1, "begin", "()V"⟩
abbrev cX1_matters : ByteArray := prog_3_method_3_code
def yX1_matters : MethodName := ⟨RX1, "matters", "(I)Z"⟩
abbrev cX1_note : ByteArray := prog_3_method_4_code
def yX1_note : MethodName := ⟨RX1, "note", "()V"⟩
def RX2 : String := "CarOrders$Fitting"
def TX2 : u_T := fun k => match k with
  | 0 => ("CarOrders$Walk", "plan", "LCarOrders$Plan;", true)
  | 1 => ("CarOrders$Walk", "row", "LCarOrders$Row;", true)
  | 2 => ("CarOrders$Walk", "cars", "I", false)
  | 3 => ("CarOrders$Walk", "known", "Z", false)
  | 4 => ("CarOrders$Fitting", "first", "[I", true)
  | 5 => ("CarOrders$Fitting", "firstNear", "[I", true)
  | 6 => ("CarOrders$Fitting", "sets", "[I", true)
  | 7 => ("CarOrders$Fitting", "ruled", "[I", true)
  | 8 => ("CarOrders$Fitting", "off", "[I", true)
  | 9 => ("CarOrders$Fitting", "all", "I", false)
  | _ => ("CarOrders$Fitting", "near", "I", false)
def tyX2 : Nat → FieldType := fun k => match k with
  | 0 => .object "CarOrders$Plan"
  | 1 => .object "CarOrders$Row"
  | 2 => .int
  | 3 => .boolean
  | 4 => .array .int
  | 5 => .array .int
  | 6 => .array .int
  | 7 => .array .int
  | 8 => .array .int
  | 9 => .int
  | _ => .int
abbrev wsX20 : List Cond := u_ws RX2 TX2 11
theorem nmX2 : ∀ a, a < 11 → ∀ b, b < 11 → a ≠ b → (TX2 a).2.1 ≠ (TX2 b).2.1 := by decide +kernel
theorem tyX2_ok : ∀ k, k < 11 → parseFieldDescriptor (TX2 k).2.2.1 = some (tyX2 k) := by decide +kernel
abbrev cX2_init : ByteArray := prog_4_method_1_code
def yX2_init : MethodName := ⟨RX2, "<init>", "(LCarOrders$Plan;LCarOrders$Row;)V"⟩
abbrev cX2_begin : ByteArray := prog_4_method_2_code
def yX2_begin : MethodName := ⟨RX2, "begin", "()V"⟩
abbrev cX2_matters : ByteArray := prog_4_method_3_code
def yX2_matters : MethodName := ⟨RX2, "matters", "(I)Z"⟩
abbrev cX2_note : ByteArray := prog_4_method_4_code
def yX2_note : MethodName := ⟨RX2, "note", "()V"⟩
def RX3 : String := "CarOrders$Most"
def TX3 : u_T := fun k => match k with
  | 0 => ("CarOrders$Walk", "plan", "LCarOrders$Plan;", true)
  | 1 => ("CarOrders$Walk", "row", "LCarOrders$Row;", true)
  | 2 => ("CarOrders$Walk", "cars", "I", false)
  | 3 => ("CarOrders$Walk", "known", "Z", false)
  | 4 => ("CarOrders$Most", "most", "I", false)
  | _ => ("CarOrders$Most", "toCome", "[I", true)
def tyX3 : Nat → FieldType := fun k => match k with
  | 0 => .object "CarOrders$Plan"
  | 1 => .object "CarOrders$Row"
  | 2 => .int
  | 3 => .boolean
  | 4 => .int
  | _ => .array .int
abbrev wsX30 : List Cond := u_ws RX3 TX3 6
theorem nmX3 : ∀ a, a < 6 → ∀ b, b < 6 → a ≠ b → (TX3 a).2.1 ≠ (TX3 b).2.1 := by decide +kernel
theorem tyX3_ok : ∀ k, k < 6 → parseFieldDescriptor (TX3 k).2.2.1 = some (tyX3 k) := by decide +kernel
abbrev cX3_init : ByteArray := prog_5_method_1_code
def yX3_init : MethodName := ⟨RX3, "<init>", "(LCarOrders$Plan;LCarOrders$Row;)V"⟩
abbrev cX3_begin : ByteArray := prog_5_method_2_code
def yX3_begin : MethodName := ⟨RX3, "begin", "()V"⟩
abbrev cX3_matters : ByteArray := prog_5_method_3_code
def yX3_matters : MethodName := ⟨RX3, "matters", "(I)Z"⟩
abbrev cX3_note : ByteArray := prog_5_method_4_code
def yX3_note : MethodName := ⟨RX3, "note", "()V"⟩
def RX4 : String := "CarOrders$Pad"
def TX4 : u_T := fun k => match k with
  | 0 => ("CarOrders$Pad", "signs", "[I", true)
  | _ => ("CarOrders$Pad", "length", "I", false)
def tyX4 : Nat → FieldType := fun k => match k with
  | 0 => .array .int
  | _ => .int
abbrev wsX40 : List Cond := u_ws RX4 TX4 2
theorem nmX4 : ∀ a, a < 2 → ∀ b, b < 2 → a ≠ b → (TX4 a).2.1 ≠ (TX4 b).2.1 := by decide +kernel
theorem tyX4_ok : ∀ k, k < 2 → parseFieldDescriptor (TX4 k).2.2.1 = some (tyX4 k) := by decide +kernel
abbrev cX4_init : ByteArray := prog_6_method_1_code
def yX4_init : MethodName := ⟨RX4, "<init>", "()V"⟩
abbrev cX4_add : ByteArray := prog_6_method_2_code
def yX4_add : MethodName := ⟨RX4, "add", "(I)V"⟩
abbrev cX4_signAt : ByteArray := prog_6_method_3_code
def yX4_signAt : MethodName := ⟨RX4, "signAt", "(I)I"⟩
abbrev cX4_hasAny : ByteArray := prog_6_method_4_code
def yX4_hasAny : MethodName := ⟨RX4, "hasAny", "()Z"⟩
abbrev cX4_allows : ByteArray := prog_6_method_5_code
def yX4_allows : MethodName := ⟨RX4, "allows", "(II)Z"⟩
def RX5 : String := "CarOrders$Plan"
def TX5 : u_T := fun k => match k with
  | 0 => ("CarOrders$Plan", "may", "[I", true)
  | 1 => ("CarOrders$Plan", "of", "[I", true)
  | 2 => ("CarOrders$Plan", "windows", "[I", true)
  | 3 => ("CarOrders$Plan", "sets", "[I", true)
  | _ => ("CarOrders$Plan", "demands", "[I", true)
def tyX5 : Nat → FieldType := fun k => match k with
  | 0 => .array .int
  | 1 => .array .int
  | 2 => .array .int
  | 3 => .array .int
  | _ => .array .int
abbrev wsX50 : List Cond := u_ws RX5 TX5 5
theorem nmX5 : ∀ a, a < 5 → ∀ b, b < 5 → a ≠ b → (TX5 a).2.1 ≠ (TX5 b).2.1 := by decide +kernel
theorem tyX5_ok : ∀ k, k < 5 → parseFieldDescriptor (TX5 k).2.2.1 = some (tyX5 k) := by decide +kernel
abbrev cX5_init : ByteArray := prog_7_method_1_code
def yX5_init : MethodName := ⟨RX5, "<init>", "()V"⟩
abbrev cX5_setOption : ByteArray := prog_7_method_2_code
def yX5_setOption : MethodName := ⟨RX5, "setOption", "(III)V"⟩
abbrev cX5_copyFrom : ByteArray := prog_7_method_3_code
def yX5_copyFrom : MethodName := ⟨RX5, "copyFrom", "(LCarOrders$Plan;)V"⟩
abbrev cX5_cars : ByteArray := prog_7_method_4_code
def yX5_cars : MethodName := ⟨RX5, "cars", "()I"⟩
abbrev cX5_classesWithDemand : ByteArray := prog_7_method_5_code
def yX5_classesWithDemand : MethodName := ⟨RX5, "classesWithDemand", "()I"⟩
abbrev cX5_wanted : ByteArray := prog_7_method_6_code
def yX5_wanted : MethodName := ⟨RX5, "wanted", "(I)I"⟩
abbrev cX5_room : ByteArray := prog_7_method_7_code
def yX5_room : MethodName := ⟨RX5, "room", "(I)I"⟩
abbrev cX5_orderCount : ByteArray := prog_7_method_8_code
def yX5_orderCount : MethodName := ⟨RX5, "orderCount", "()I"⟩
abbrev cX5_breaksBehind : ByteArray := prog_7_method_9_code
def yX5_breaksBehind : MethodName := ⟨RX5, "breaksBehind", "(II)I"⟩
abbrev cX5_breaksAtEnd : ByteArray := prog_7_method_10_code
def yX5_breaksAtEnd : MethodName := ⟨RX5, "breaksAtEnd", "(II)I"⟩
def RX6 : String := "CarOrders$Row"
def TX6 : u_T := fun k => match k with
  | 0 => ("CarOrders$Row", "plan", "LCarOrders$Plan;", true)
  | 1 => ("CarOrders$Row", "classes", "[I", true)
  | 2 => ("CarOrders$Row", "trails", "[I", true)
  | 3 => ("CarOrders$Row", "breaks", "[I", true)
  | 4 => ("CarOrders$Row", "left", "[I", true)
  | _ => ("CarOrders$Row", "length", "I", false)
def tyX6 : Nat → FieldType := fun k => match k with
  | 0 => .object "CarOrders$Plan"
  | 1 => .array .int
  | 2 => .array .int
  | 3 => .array .int
  | 4 => .array .int
  | _ => .int
abbrev wsX60 : List Cond := u_ws RX6 TX6 6
theorem nmX6 : ∀ a, a < 6 → ∀ b, b < 6 → a ≠ b → (TX6 a).2.1 ≠ (TX6 b).2.1 := by decide +kernel
theorem tyX6_ok : ∀ k, k < 6 → parseFieldDescriptor (TX6 k).2.2.1 = some (tyX6 k) := by decide +kernel
abbrev cX6_init : ByteArray := prog_8_method_1_code
def yX6_init : MethodName := ⟨RX6, "<init>", "(LCarOrders$Plan;)V"⟩
abbrev cX6_start : ByteArray := prog_8_method_2_code
def yX6_start : MethodName := ⟨RX6, "start", "()V"⟩
abbrev cX6_put : ByteArray := prog_8_method_3_code
def yX6_put : MethodName := ⟨RX6, "put", "(I)V"⟩
abbrev cX6_takeRule : ByteArray := prog_8_method_4_code
def yX6_takeRule : MethodName := ⟨RX6, "takeRule", "(I)V"⟩
abbrev cX6_drop : ByteArray := prog_8_method_5_code
def yX6_drop : MethodName := ⟨RX6, "drop", "()V"⟩
abbrev cX6_breaks : ByteArray := prog_8_method_6_code
def yX6_breaks : MethodName := ⟨RX6, "breaks", "()I"⟩
abbrev cX6_firstBreak : ByteArray := prog_8_method_7_code
def yX6_firstBreak : MethodName := ⟨RX6, "firstBreak", "()I"⟩
abbrev cX6_isOrder : ByteArray := prog_8_method_8_code
def yX6_isOrder : MethodName := ⟨RX6, "isOrder", "()Z"⟩
abbrev cX6_ruleClass : ByteArray := prog_8_method_9_code
def yX6_ruleClass : MethodName := ⟨RX6, "ruleClass", "()I"⟩
abbrev cX6_trailWith : ByteArray := prog_8_method_10_code
def yX6_trailWith : MethodName := ⟨RX6, "trailWith", "(I)I"⟩
def RX7 : String := "CarOrders$Siding"
def TX7 : u_T := fun k => match k with
  | 0 => ("CarOrders$Siding", "pad", "LCarOrders$Pad;", true)
  | 1 => ("CarOrders$Siding", "row", "LCarOrders$Row;", true)
  | _ => ("CarOrders$Siding", "best", "I", false)
def tyX7 : Nat → FieldType := fun k => match k with
  | 0 => .object "CarOrders$Pad"
  | 1 => .object "CarOrders$Row"
  | _ => .int
abbrev wsX70 : List Cond := u_ws RX7 TX7 3
theorem nmX7 : ∀ a, a < 3 → ∀ b, b < 3 → a ≠ b → (TX7 a).2.1 ≠ (TX7 b).2.1 := by decide +kernel
theorem tyX7_ok : ∀ k, k < 3 → parseFieldDescriptor (TX7 k).2.2.1 = some (tyX7 k) := by decide +kernel
abbrev cX7_init : ByteArray := prog_9_method_1_code
def yX7_init : MethodName := ⟨RX7, "<init>", "(LCarOrders$Pad;LCarOrders$Row;)V"⟩
abbrev cX7_putRight : ByteArray := prog_9_method_2_code
def yX7_putRight : MethodName := ⟨RX7, "putRight", "(I)I"⟩
abbrev cX7_walk : ByteArray := prog_9_method_3_code
def yX7_walk : MethodName := ⟨RX7, "walk", "(III)V"⟩
def RX8 : String := "CarOrders$Walk"
def TX8 : u_T := fun k => match k with
  | _ => ("", "", "", false)
def tyX8 : Nat → FieldType := fun k => match k with
  | _ => .int
abbrev wsX80 : List Cond := u_ws RX8 TX8 0
theorem nmX8 : ∀ a, a < 0 → ∀ b, b < 0 → a ≠ b → (TX8 a).2.1 ≠ (TX8 b).2.1 := by decide +kernel
theorem tyX8_ok : ∀ k, k < 0 → parseFieldDescriptor (TX8 k).2.2.1 = some (tyX8 k) := by decide +kernel
abbrev cX8_init : ByteArray := prog_10_method_1_code
def yX8_init : MethodName := ⟨RX8, "<init>", "(LCarOrders$Plan;LCarOrders$Row;)V"⟩
abbrev cX8_forget : ByteArray := prog_10_method_2_code
def yX8_forget : MethodName := ⟨RX8, "forget", "()V"⟩
abbrev cX8_refresh : ByteArray := prog_10_method_3_code
def yX8_refresh : MethodName := ⟨RX8, "refresh", "()V"⟩
abbrev cX8_goOn : ByteArray := prog_10_method_4_code
def yX8_goOn : MethodName := ⟨RX8, "goOn", "(I)V"⟩
abbrev cX8_keepRow : ByteArray := prog_10_method_5_code
def yX8_keepRow : MethodName := ⟨RX8, "keepRow", "([I)V"⟩
def RX9 : String := "CarOrders"
def TX9 : u_T := fun k => match k with
  | 0 => ("CarOrders", "plan", "LCarOrders$Plan;", true)
  | 1 => ("CarOrders", "pad", "LCarOrders$Pad;", true)
  | 2 => ("CarOrders", "walked", "LCarOrders$Row;", true)
  | 3 => ("CarOrders", "fitting", "LCarOrders$Fitting;", true)
  | 4 => ("CarOrders", "fewest", "LCarOrders$Fewest;", true)
  | 5 => ("CarOrders", "most", "LCarOrders$Most;", true)
  | 6 => ("CarOrders", "filling", "LCarOrders$Filling;", true)
  | 7 => ("CarOrders", "siding", "LCarOrders$Siding;", true)
  | 8 => ("CarOrders", "firstImage", "LCarOrders$Plan;", true)
  | 9 => ("CarOrders", "secondImage", "LCarOrders$Plan;", true)
  | _ => ("CarOrders", "imagesKept", "I", false)
def tyX9 : Nat → FieldType := fun k => match k with
  | 0 => .object "CarOrders$Plan"
  | 1 => .object "CarOrders$Pad"
  | 2 => .object "CarOrders$Row"
  | 3 => .object "CarOrders$Fitting"
  | 4 => .object "CarOrders$Fewest"
  | 5 => .object "CarOrders$Most"
  | 6 => .object "CarOrders$Filling"
  | 7 => .object "CarOrders$Siding"
  | 8 => .object "CarOrders$Plan"
  | 9 => .object "CarOrders$Plan"
  | _ => .int
abbrev wsX90 : List Cond := u_ws RX9 TX9 11
theorem nmX9 : ∀ a, a < 11 → ∀ b, b < 11 → a ≠ b → (TX9 a).2.1 ≠ (TX9 b).2.1 := by decide +kernel
theorem tyX9_ok : ∀ k, k < 11 → parseFieldDescriptor (TX9 k).2.2.1 = some (tyX9 k) := by decide +kernel
abbrev cX9_init : ByteArray := prog_1_method_1_code
def yX9_init : MethodName := ⟨RX9, "<init>", "()V"⟩
abbrev cX9_option : ByteArray := prog_1_method_2_code
def yX9_option : MethodName := ⟨RX9, "option", "(III)I"⟩
abbrev cX9_options : ByteArray := prog_1_method_3_code
def yX9_options : MethodName := ⟨RX9, "options", "(II)I"⟩
abbrev cX9_demand : ByteArray := prog_1_method_4_code
def yX9_demand : MethodName := ⟨RX9, "demand", "(II)I"⟩
abbrev cX9_told : ByteArray := prog_1_method_5_code
def yX9_told : MethodName := ⟨RX9, "told", "(II)I"⟩
abbrev cX9_of : ByteArray := prog_1_method_6_code
def yX9_of : MethodName := ⟨RX9, "of", "(II)I"⟩
abbrev cX9_fits : ByteArray := prog_1_method_7_code
def yX9_fits : MethodName := ⟨RX9, "fits", "(I)I"⟩
abbrev cX9_least : ByteArray := prog_1_method_8_code
def yX9_least : MethodName := ⟨RX9, "least", "(I)I"⟩
abbrev cX9_clash : ByteArray := prog_1_method_9_code
def yX9_clash : MethodName := ⟨RX9, "clash", "()I"⟩
abbrev cX9_orders : ByteArray := prog_1_method_10_code
def yX9_orders : MethodName := ⟨RX9, "orders", "(I)I"⟩
abbrev cX9_at : ByteArray := prog_1_method_11_code
def yX9_at : MethodName := ⟨RX9, "at", "(I)I"⟩
abbrev cX9_rule : ByteArray := prog_1_method_12_code
def yX9_rule : MethodName := ⟨RX9, "rule", "(I)I"⟩
abbrev cX9_near : ByteArray := prog_1_method_13_code
def yX9_near : MethodName := ⟨RX9, "near", "(I)I"⟩
abbrev cX9_say : ByteArray := prog_1_method_14_code
def yX9_say : MethodName := ⟨RX9, "say", "(I)I"⟩
abbrev cX9_wipe : ByteArray := prog_1_method_15_code
def yX9_wipe : MethodName := ⟨RX9, "wipe", "()I"⟩
abbrev cX9_row : ByteArray := prog_1_method_16_code
def yX9_row : MethodName := ⟨RX9, "row", "(I)I"⟩
abbrev cX9_filled : ByteArray := prog_1_method_17_code
def yX9_filled : MethodName := ⟨RX9, "filled", "(I)I"⟩
abbrev cX9_lane : ByteArray := prog_1_method_18_code
def yX9_lane : MethodName := ⟨RX9, "lane", "(I)I"⟩
abbrev cX9_image : ByteArray := prog_1_method_19_code
def yX9_image : MethodName := ⟨RX9, "image", "(I)I"⟩
abbrev cX9_restore : ByteArray := prog_1_method_20_code
def yX9_restore : MethodName := ⟨RX9, "restore", "(I)I"⟩
abbrev cX9_count : ByteArray := prog_1_method_21_code
def yX9_count : MethodName := ⟨RX9, "count", "(I)I"⟩
abbrev cX9_isOption : ByteArray := prog_1_method_22_code
def yX9_isOption : MethodName := ⟨RX9, "isOption", "(I)Z"⟩
abbrev cX9_isClass : ByteArray := prog_1_method_23_code
def yX9_isClass : MethodName := ⟨RX9, "isClass", "(I)Z"⟩
abbrev cX9_isImage : ByteArray := prog_1_method_24_code
def yX9_isImage : MethodName := ⟨RX9, "isImage", "(I)Z"⟩
abbrev cX9_imageOf : ByteArray := prog_1_method_25_code
def yX9_imageOf : MethodName := ⟨RX9, "imageOf", "(I)LCarOrders$Plan;"⟩
abbrev cX9_forgetOrders : ByteArray := prog_1_method_26_code
def yX9_forgetOrders : MethodName := ⟨RX9, "forgetOrders", "()V"⟩
abbrev cX9_classAt : ByteArray := prog_1_method_27_code
def yX9_classAt : MethodName := ⟨RX9, "classAt", "([II)I"⟩
abbrev cX9_walkPad : ByteArray := prog_1_method_28_code
def yX9_walkPad : MethodName := ⟨RX9, "walkPad", "()I"⟩
abbrev cX9_padIsOrder : ByteArray := prog_1_method_29_code
def yX9_padIsOrder : MethodName := ⟨RX9, "padIsOrder", "()Z"⟩
def RX10 : String := "CarOrdersModel"
def TX10 : u_T := fun k => match k with
  | 0 => ("CarOrdersModel", "state", "[I", true)
  | 1 => ("CarOrdersModel", "images", "[I", true)
  | 2 => ("CarOrdersModel", "isKept", "[Z", true)
  | 3 => ("CarOrdersModel", "pad", "[I", true)
  | 4 => ("CarOrdersModel", "said", "I", false)
  | 5 => ("CarOrdersModel", "row", "[I", true)
  | 6 => ("CarOrdersModel", "many", "I", false)
  | 7 => ("CarOrdersModel", "best", "[I", true)
  | 8 => ("CarOrdersModel", "atPlace", "[I", true)
  | 9 => ("CarOrdersModel", "found", "I", false)
  | 10 => ("CarOrdersModel", "fewest", "I", false)
  | 11 => ("CarOrdersModel", "highest", "I", false)
  | 12 => ("CarOrdersModel", "asFew", "I", false)
  | 13 => ("CarOrdersModel", "all", "I", false)
  | 14 => ("CarOrdersModel", "left", "[I", true)
  | _ => ("CarOrdersModel", "waiting", "[I", true)
def tyX10 : Nat → FieldType := fun k => match k with
  | 0 => .array .int
  | 1 => .array .int
  | 2 => .array .boolean
  | 3 => .array .int
  | 4 => .int
  | 5 => .array .int
  | 6 => .int
  | 7 => .array .int
  | 8 => .array .int
  | 9 => .int
  | 10 => .int
  | 11 => .int
  | 12 => .int
  | 13 => .int
  | 14 => .array .int
  | _ => .array .int
abbrev wsX100 : List Cond := u_ws RX10 TX10 16
theorem nmX10 : ∀ a, a < 16 → ∀ b, b < 16 → a ≠ b → (TX10 a).2.1 ≠ (TX10 b).2.1 := by decide +kernel
theorem tyX10_ok : ∀ k, k < 16 → parseFieldDescriptor (TX10 k).2.2.1 = some (tyX10 k) := by decide +kernel
abbrev cX10_init : ByteArray := prog_12_method_1_code
def yX10_init : MethodName := ⟨RX10, "<init>", "()V"⟩
abbrev cX10_in : ByteArray := prog_12_method_2_code
def yX10_in : MethodName := ⟨RX10, "in", "(III)Z"⟩
abbrev cX10_isOption : ByteArray := prog_12_method_3_code
def yX10_isOption : MethodName := ⟨RX10, "isOption", "(I)Z"⟩
abbrev cX10_isClass : ByteArray := prog_12_method_4_code
def yX10_isClass : MethodName := ⟨RX10, "isClass", "(I)Z"⟩
abbrev cX10_has : ByteArray := prog_12_method_5_code
def yX10_has : MethodName := ⟨RX10, "has", "(II)Z"⟩
abbrev cX10_cars : ByteArray := prog_12_method_6_code
def yX10_cars : MethodName := ⟨RX10, "cars", "()I"⟩
abbrev cX10_option : ByteArray := prog_12_method_7_code
def yX10_option : MethodName := ⟨RX10, "option", "(III)I"⟩
abbrev cX10_options : ByteArray := prog_12_method_8_code
def yX10_options : MethodName := ⟨RX10, "options", "(II)I"⟩
abbrev cX10_demand : ByteArray := prog_12_method_9_code
def yX10_demand : MethodName := ⟨RX10, "demand", "(II)I"⟩
abbrev cX10_told : ByteArray := prog_12_method_10_code
def yX10_told : MethodName := ⟨RX10, "told", "(II)I"⟩
abbrev cX10_wanted : ByteArray := prog_12_method_11_code
def yX10_wanted : MethodName := ⟨RX10, "wanted", "(I)I"⟩
abbrev cX10_less : ByteArray := prog_12_method_12_code
def yX10_less : MethodName := ⟨RX10, "less", "(II)I"⟩
abbrev cX10_room : ByteArray := prog_12_method_13_code
def yX10_room : MethodName := ⟨RX10, "room", "(I)I"⟩
abbrev cX10_of : ByteArray := prog_12_method_14_code
def yX10_of : MethodName := ⟨RX10, "of", "(II)I"⟩
abbrev cX10_clash : ByteArray := prog_12_method_15_code
def yX10_clash : MethodName := ⟨RX10, "clash", "()I"⟩
abbrev cX10_isBreak : ByteArray := prog_12_method_16_code
def yX10_isBreak : MethodName := ⟨RX10, "isBreak", "(II)Z"⟩
abbrev cX10_breaksAt : ByteArray := prog_12_method_17_code
def yX10_breaksAt : MethodName := ⟨RX10, "breaksAt", "(I)I"⟩
abbrev cX10_breaks : ByteArray := prog_12_method_18_code
def yX10_breaks : MethodName := ⟨RX10, "breaks", "()I"⟩
abbrev cX10_firstOrder : ByteArray := prog_12_method_19_code
def yX10_firstOrder : MethodName := ⟨RX10, "firstOrder", "()V"⟩
abbrev cX10_swap : ByteArray := prog_12_method_20_code
def yX10_swap : MethodName := ⟨RX10, "swap", "(II)V"⟩
abbrev cX10_nextOrder : ByteArray := prog_12_method_21_code
def yX10_nextOrder : MethodName := ⟨RX10, "nextOrder", "()Z"⟩
abbrev cX10_keepBest : ByteArray := prog_12_method_22_code
def yX10_keepBest : MethodName := ⟨RX10, "keepBest", "()V"⟩
abbrev cX10_told_ : ByteArray := prog_12_method_23_code
def yX10_told_ : MethodName := ⟨RX10, "told", "(I)I"⟩
abbrev cX10_goFits : ByteArray := prog_12_method_24_code
def yX10_goFits : MethodName := ⟨RX10, "goFits", "()V"⟩
abbrev cX10_fits : ByteArray := prog_12_method_25_code
def yX10_fits : MethodName := ⟨RX10, "fits", "(I)I"⟩
abbrev cX10_at : ByteArray := prog_12_method_26_code
def yX10_at : MethodName := ⟨RX10, "at", "(I)I"⟩
abbrev cX10_goLeast : ByteArray := prog_12_method_27_code
def yX10_goLeast : MethodName := ⟨RX10, "goLeast", "()V"⟩
abbrev cX10_least : ByteArray := prog_12_method_28_code
def yX10_least : MethodName := ⟨RX10, "least", "(I)I"⟩
abbrev cX10_orders : ByteArray := prog_12_method_29_code
def yX10_orders : MethodName := ⟨RX10, "orders", "(I)I"⟩
abbrev cX10_size : ByteArray := prog_12_method_30_code
def yX10_size : MethodName := ⟨RX10, "size", "(I)I"⟩
abbrev cX10_layLeft : ByteArray := prog_12_method_31_code
def yX10_layLeft : MethodName := ⟨RX10, "layLeft", "(I)V"⟩
abbrev cX10_isBetter : ByteArray := prog_12_method_32_code
def yX10_isBetter : MethodName := ⟨RX10, "isBetter", "(IIII)Z"⟩
abbrev cX10_taken : ByteArray := prog_12_method_33_code
def yX10_taken : MethodName := ⟨RX10, "taken", "(I)I"⟩
abbrev cX10_goRule : ByteArray := prog_12_method_34_code
def yX10_goRule : MethodName := ⟨RX10, "goRule", "()V"⟩
abbrev cX10_rule : ByteArray := prog_12_method_35_code
def yX10_rule : MethodName := ⟨RX10, "rule", "(I)I"⟩
abbrev cX10_off : ByteArray := prog_12_method_36_code
def yX10_off : MethodName := ⟨RX10, "off", "()I"⟩
abbrev cX10_near : ByteArray := prog_12_method_37_code
def yX10_near : MethodName := ⟨RX10, "near", "(I)I"⟩
abbrev cX10_say : ByteArray := prog_12_method_38_code
def yX10_say : MethodName := ⟨RX10, "say", "(I)I"⟩
abbrev cX10_wipe : ByteArray := prog_12_method_39_code
def yX10_wipe : MethodName := ⟨RX10, "wipe", "()I"⟩
abbrev cX10_isOpen : ByteArray := prog_12_method_40_code
def yX10_isOpen : MethodName := ⟨RX10, "isOpen", "()Z"⟩
abbrev cX10_layPad : ByteArray := prog_12_method_41_code
def yX10_layPad : MethodName := ⟨RX10, "layPad", "()V"⟩
abbrev cX10_onPad : ByteArray := prog_12_method_42_code
def yX10_onPad : MethodName := ⟨RX10, "onPad", "(I)I"⟩
abbrev cX10_isOrder : ByteArray := prog_12_method_43_code
def yX10_isOrder : MethodName := ⟨RX10, "isOrder", "()Z"⟩
abbrev cX10_firstBreak : ByteArray := prog_12_method_44_code
def yX10_firstBreak : MethodName := ⟨RX10, "firstBreak", "()I"⟩
abbrev cX10_row : ByteArray := prog_12_method_45_code
def yX10_row : MethodName := ⟨RX10, "row", "(I)I"⟩
abbrev cX10_isAsTold : ByteArray := prog_12_method_46_code
def yX10_isAsTold : MethodName := ⟨RX10, "isAsTold", "()Z"⟩
abbrev cX10_filled : ByteArray := prog_12_method_47_code
def yX10_filled : MethodName := ⟨RX10, "filled", "(I)I"⟩
abbrev cX10_goOn : ByteArray := prog_12_method_48_code
def yX10_goOn : MethodName := ⟨RX10, "goOn", "(II)Z"⟩
abbrev cX10_lane : ByteArray := prog_12_method_49_code
def yX10_lane : MethodName := ⟨RX10, "lane", "(I)I"⟩
abbrev cX10_image : ByteArray := prog_12_method_50_code
def yX10_image : MethodName := ⟨RX10, "image", "(I)I"⟩
abbrev cX10_restore : ByteArray := prog_12_method_51_code
def yX10_restore : MethodName := ⟨RX10, "restore", "(I)I"⟩
abbrev cX10_demanded : ByteArray := prog_12_method_52_code
def yX10_demanded : MethodName := ⟨RX10, "demanded", "()I"⟩
abbrev cX10_count : ByteArray := prog_12_method_53_code
def yX10_count : MethodName := ⟨RX10, "count", "(I)I"⟩
def RJ6 : String := "java/lang/Integer"
def TJ6 : u_T := fun k => match k with
  | _ => ("", "", "", false)
def tyJ6 : Nat → FieldType := fun k => match k with
  | _ => .int
abbrev wsJ60 : List Cond := u_ws RJ6 TJ6 0
theorem nmJ6 : ∀ a, a < 0 → ∀ b, b < 0 → a ≠ b → (TJ6 a).2.1 ≠ (TJ6 b).2.1 := by decide +kernel
theorem tyJ6_ok : ∀ k, k < 0 → parseFieldDescriptor (TJ6 k).2.2.1 = some (tyJ6 k) := by decide +kernel
abbrev cJ6_bitCount_0f7a4 : ByteArray := prog_13_method_49_code
def yJ6_bitCount_0f7a4 : MethodName := ⟨RJ6, "bitCount", "(I)I"⟩
def RJ9 : String := "java/lang/Math"
def TJ9 : u_T := fun k => match k with
  | _ => ("", "", "", false)
def tyJ9 : Nat → FieldType := fun k => match k with
  | _ => .int
abbrev wsJ90 : List Cond := u_ws RJ9 TJ9 0
theorem nmJ9 : ∀ a, a < 0 → ∀ b, b < 0 → a ≠ b → (TJ9 a).2.1 ≠ (TJ9 b).2.1 := by decide +kernel
theorem tyJ9_ok : ∀ k, k < 0 → parseFieldDescriptor (TJ9 k).2.2.1 = some (tyJ9 k) := by decide +kernel
abbrev cJ9_max_7cf53 : ByteArray := prog_14_method_65_code
def yJ9_max_7cf53 : MethodName := ⟨RJ9, "max", "(II)I"⟩
abbrev cJ9_min_7cf53 : ByteArray := prog_14_method_69_code
def yJ9_min_7cf53 : MethodName := ⟨RJ9, "min", "(II)I"⟩
def RJ10 : String := "java/lang/System"
def TJ10 : u_T := fun k => match k with
  | _ => ("", "", "", false)
def tyJ10 : Nat → FieldType := fun k => match k with
  | _ => .int
abbrev wsJ100 : List Cond := u_ws RJ10 TJ10 0
theorem nmJ10 : ∀ a, a < 0 → ∀ b, b < 0 → a ≠ b → (TJ10 a).2.1 ≠ (TJ10 b).2.1 := by decide +kernel
theorem tyJ10_ok : ∀ k, k < 0 → parseFieldDescriptor (TJ10 k).2.2.1 = some (tyJ10 k) := by decide +kernel
def RL : String := "CarOrdersLaw"
abbrev cL_law : ByteArray := code
def yL_law : MethodName := ⟨RL, "law", "([I)Z"⟩
def wsX8_init : List Cond := .code yX8_init cX8_init 3 none :: ([.methodLink RX8 3 objectInit, .instanceMethod objectInit, .code objectInit ⟨#[0xb1]⟩ 1 none, .fieldLink RX8 9 "CarOrders$Walk" "cars" "I", .fieldLink RX8 15 "CarOrders$Walk" "known" "Z", .fieldLink RX8 19 "CarOrders$Walk" "plan" "LCarOrders$Plan;", .fieldLink RX8 23 "CarOrders$Walk" "row" "LCarOrders$Row;"] ++ wsX00 ++ wsX10 ++ wsX20 ++ wsX30)
abbrev vwCl : List vw_C := [(RX0, TX0, 7), (RX1, TX1, 7), (RX2, TX2, 11), (RX3, TX3, 6), (RX4, TX4, 2), (RX5, TX5, 5), (RX6, TX6, 6), (RX7, TX7, 3), (RX9, TX9, 11), (RX10, TX10, 16)]
end
section
theorem dX0_init_0 : decode cX0_init 0 = .ok (.aload_n 0, 1) := by decide +kernel
theorem dX0_init_1 : decode cX0_init 1 = .ok (.aload_n 1, 1) := by decide +kernel
theorem dX0_init_2 : decode cX0_init 2 = .ok (.aload_n 2, 1) := by decide +kernel
theorem dX0_init_3 : decode cX0_init 3 = .ok (.invokespecial 3, 3) := by decide +kernel
theorem dX0_init_6 : decode cX0_init 6 = .ok (.aload_n 0, 1) := by decide +kernel
theorem dX0_init_7 : decode cX0_init 7 = .ok (.bipush 9, 2) := by decide +kernel
theorem dX0_init_9 : decode cX0_init 9 = .ok (.newarray .int, 2) := by decide +kernel
theorem dX0_init_11 : decode cX0_init 11 = .ok (.putfield 9, 3) := by decide +kernel
theorem dX0_init_14 : decode cX0_init 14 = .ok (.aload_n 0, 1) := by decide +kernel
theorem dX0_init_15 : decode cX0_init 15 = .ok (.iconst 0, 1) := by decide +kernel
theorem dX0_init_16 : decode cX0_init 16 = .ok (.putfield 15, 3) := by decide +kernel
theorem dX0_init_19 : decode cX0_init 19 = .ok (.aload_n 0, 1) := by decide +kernel
theorem dX0_init_20 : decode cX0_init 20 = .ok (.iconst 0, 1) := by decide +kernel
theorem dX0_init_21 : decode cX0_init 21 = .ok (.putfield 19, 3) := by decide +kernel
theorem dX0_init_24 : decode cX0_init 24 = .ok (.return_, 1) := by decide +kernel
theorem dX0_begin_0 : decode cX0_begin 0 = .ok (.aload_n 0, 1) := by decide +kernel
theorem dX0_begin_1 : decode cX0_begin 1 = .ok (.getfield 22, 3) := by decide +kernel
theorem dX0_begin_4 : decode cX0_begin 4 = .ok (.aload_n 0, 1) := by decide +kernel
theorem dX0_begin_5 : decode cX0_begin 5 = .ok (.getfield 26, 3) := by decide +kernel
theorem dX0_begin_8 : decode cX0_begin 8 = .ok (.invokevirtual 29, 3) := by decide +kernel
theorem dX0_begin_11 : decode cX0_begin 11 = .ok (.aload_n 0, 1) := by decide +kernel
theorem dX0_begin_12 : decode cX0_begin 12 = .ok (.aload_n 0, 1) := by decide +kernel
theorem dX0_begin_13 : decode cX0_begin 13 = .ok (.getfield 22, 3) := by decide +kernel
theorem dX0_begin_16 : decode cX0_begin 16 = .ok (.invokevirtual 35, 3) := by decide +kernel
theorem dX0_begin_19 : decode cX0_begin 19 = .ok (.putfield 15, 3) := by decide +kernel
theorem dX0_begin_22 : decode cX0_begin 22 = .ok (.aload_n 0, 1) := by decide +kernel
theorem dX0_begin_23 : decode cX0_begin 23 = .ok (.iconst 0, 1) := by decide +kernel
theorem dX0_begin_24 : decode cX0_begin 24 = .ok (.putfield 19, 3) := by decide +kernel
theorem dX0_begin_27 : decode cX0_begin 27 = .ok (.return_, 1) := by decide +kernel
theorem dX0_matters_0 : decode cX0_matters 0 = .ok (.aload_n 0, 1) := by decide +kernel
theorem dX0_matters_1 : decode cX0_matters 1 = .ok (.getfield 22, 3) := by decide +kernel
theorem dX0_matters_4 : decode cX0_matters 4 = .ok (.invokevirtual 35, 3) := by decide +kernel
theorem dX0_matters_7 : decode cX0_matters 7 = .ok (.aload_n 0, 1) := by decide +kernel
theorem dX0_matters_8 : decode cX0_matters 8 = .ok (.getfield 15, 3) := by decide +kernel
theorem dX0_matters_11 : decode cX0_matters 11 = .ok (.if_icmp .gt 7, 3) := by decide +kernel
theorem dX0_matters_14 : decode cX0_matters 14 = .ok (.iconst 1, 1) := by decide +kernel
theorem dX0_matters_15 : decode cX0_matters 15 = .ok (.goto 4, 3) := by decide +kernel
theorem dX0_matters_18 : decode cX0_matters 18 = .ok (.iconst 0, 1) := by decide +kernel
theorem dX0_matters_19 : decode cX0_matters 19 = .ok (.ireturn, 1) := by decide +kernel
theorem dX0_note_0 : decode cX0_note 0 = .ok (.aload_n 0, 1) := by decide +kernel
theorem dX0_note_1 : decode cX0_note 1 = .ok (.getfield 19, 3) := by decide +kernel
theorem dX0_note_4 : decode cX0_note 4 = .ok (.ifCond .eq 17, 3) := by decide +kernel
theorem dX0_note_7 : decode cX0_note 7 = .ok (.aload_n 0, 1) := by decide +kernel
theorem dX0_note_8 : decode cX0_note 8 = .ok (.getfield 22, 3) := by decide +kernel
theorem dX0_note_11 : decode cX0_note 11 = .ok (.invokevirtual 35, 3) := by decide +kernel
theorem dX0_note_14 : decode cX0_note 14 = .ok (.aload_n 0, 1) := by decide +kernel
theorem dX0_note_15 : decode cX0_note 15 = .ok (.getfield 15, 3) := by decide +kernel
theorem dX0_note_18 : decode cX0_note 18 = .ok (.if_icmp .ge 27, 3) := by decide +kernel
theorem dX0_note_21 : decode cX0_note 21 = .ok (.aload_n 0, 1) := by decide +kernel
theorem dX0_note_22 : decode cX0_note 22 = .ok (.aload_n 0, 1) := by decide +kernel
theorem dX0_note_23 : decode cX0_note 23 = .ok (.getfield 22, 3) := by decide +kernel
theorem dX0_note_26 : decode cX0_note 26 = .ok (.invokevirtual 35, 3) := by decide +kernel
theorem dX0_note_29 : decode cX0_note 29 = .ok (.putfield 15, 3) := by decide +kernel
theorem dX0_note_32 : decode cX0_note 32 = .ok (.aload_n 0, 1) := by decide +kernel
theorem dX0_note_33 : decode cX0_note 33 = .ok (.iconst 0, 1) := by decide +kernel
theorem dX0_note_34 : decode cX0_note 34 = .ok (.putfield 19, 3) := by decide +kernel
theorem dX0_note_37 : decode cX0_note 37 = .ok (.aload_n 0, 1) := by decide +kernel
theorem dX0_note_38 : decode cX0_note 38 = .ok (.aload_n 0, 1) := by decide +kernel
theorem dX0_note_39 : decode cX0_note 39 = .ok (.getfield 9, 3) := by decide +kernel
theorem dX0_note_42 : decode cX0_note 42 = .ok (.invokevirtual 39, 3) := by decide +kernel
theorem dX0_note_45 : decode cX0_note 45 = .ok (.aload_n 0, 1) := by decide +kernel
theorem dX0_note_46 : decode cX0_note 46 = .ok (.dup, 1) := by decide +kernel
theorem dX0_note_47 : decode cX0_note 47 = .ok (.getfield 19, 3) := by decide +kernel
theorem dX0_note_50 : decode cX0_note 50 = .ok (.iconst 1, 1) := by decide +kernel
theorem dX0_note_51 : decode cX0_note 51 = .ok (.iadd, 1) := by decide +kernel
theorem dX0_note_52 : decode cX0_note 52 = .ok (.putfield 19, 3) := by decide +kernel
theorem dX0_note_55 : decode cX0_note 55 = .ok (.return_, 1) := by decide +kernel
theorem dX1_init_0 : decode cX1_init 0 = .ok (.aload_n 0, 1) := by decide +kernel
theorem dX1_init_1 : decode cX1_init 1 = .ok (.aload_n 1, 1) := by decide +kernel
theorem dX1_init_2 : decode cX1_init 2 = .ok (.aload_n 2, 1) := by decide +kernel
theorem dX1_init_3 : decode cX1_init 3 = .ok (.invokespecial 3, 3) := by decide +kernel
theorem dX1_init_6 : decode cX1_init 6 = .ok (.aload_n 0, 1) := by decide +kernel
theorem dX1_init_7 : decode cX1_init 7 = .ok (.bipush 9, 2) := by decide +kernel
theorem dX1_init_9 : decode cX1_init 9 = .ok (.newarray .int, 2) := by decide +kernel
theorem dX1_init_11 : decode cX1_init 11 = .ok (.putfield 9, 3) := by decide +kernel
theorem dX1_init_14 : decode cX1_init 14 = .ok (.aload_n 0, 1) := by decide +kernel
theorem dX1_init_15 : decode cX1_init 15 = .ok (.iconst 0, 1) := by decide +kernel
theorem dX1_init_16 : decode cX1_init 16 = .ok (.putfield 15, 3) := by decide +kernel
theorem dX1_init_19 : decode cX1_init 19 = .ok (.aload_n 0, 1) := by decide +kernel
theorem dX1_init_20 : decode cX1_init 20 = .ok (.aload_n 3, 1) := by decide +kernel
theorem dX1_init_21 : decode cX1_init 21 = .ok (.putfield 19, 3) := by decide +kernel
theorem dX1_init_24 : decode cX1_init 24 = .ok (.return_, 1) := by decide +kernel
theorem dX1_begin_0 : decode cX1_begin 0 = .ok (.aload_n 0, 1) := by decide +kernel
theorem dX1_begin_1 : decode cX1_begin 1 = .ok (.iconst 0, 1) := by decide +kernel
theorem dX1_begin_2 : decode cX1_begin 2 = .ok (.putfield 15, 3) := by decide +kernel
theorem dX1_begin_5 : decode cX1_begin 5 = .ok (.return_, 1) := by decide +kernel
theorem dX1_matters_0 : decode cX1_matters 0 = .ok (.aload_n 0, 1) := by decide +kernel
theorem dX1_matters_1 : decode cX1_matters 1 = .ok (.getfield 19, 3) := by decide +kernel
theorem dX1_matters_4 : decode cX1_matters 4 = .ok (.getfield 23, 3) := by decide +kernel
theorem dX1_matters_7 : decode cX1_matters 7 = .ok (.aload_n 0, 1) := by decide +kernel
theorem dX1_matters_8 : decode cX1_matters 8 = .ok (.getfield 28, 3) := by decide +kernel
theorem dX1_matters_11 : decode cX1_matters 11 = .ok (.if_icmp .ne 13, 3) := by decide +kernel
theorem dX1_matters_14 : decode cX1_matters 14 = .ok (.aload_n 0, 1) := by decide +kernel
theorem dX1_matters_15 : decode cX1_matters 15 = .ok (.getfield 31, 3) := by decide +kernel
theorem dX1_matters_18 : decode cX1_matters 18 = .ok (.invokevirtual 35, 3) := by decide +kernel
theorem dX1_matters_21 : decode cX1_matters 21 = .ok (.ifCond .le 5, 3) := by decide +kernel
theorem dX1_matters_24 : decode cX1_matters 24 = .ok (.iconst 0, 1) := by decide +kernel
theorem dX1_matters_25 : decode cX1_matters 25 = .ok (.ireturn, 1) := by decide +kernel
theorem dX1_matters_26 : decode cX1_matters 26 = .ok (.iload_n 1, 1) := by decide +kernel
theorem dX1_matters_27 : decode cX1_matters 27 = .ok (.ifCond .eq 27, 3) := by decide +kernel
theorem dX1_matters_30 : decode cX1_matters 30 = .ok (.aload_n 0, 1) := by decide +kernel
theorem dX1_matters_31 : decode cX1_matters 31 = .ok (.getfield 19, 3) := by decide +kernel
theorem dX1_matters_34 : decode cX1_matters 34 = .ok (.iload_n 1, 1) := by decide +kernel
theorem dX1_matters_35 : decode cX1_matters 35 = .ok (.iconst 1, 1) := by decide +kernel
theorem dX1_matters_36 : decode cX1_matters 36 = .ok (.isub, 1) := by decide +kernel
theorem dX1_matters_37 : decode cX1_matters 37 = .ok (.aload_n 0, 1) := by decide +kernel
theorem dX1_matters_38 : decode cX1_matters 38 = .ok (.getfield 31, 3) := by decide +kernel
theorem dX1_matters_41 : decode cX1_matters 41 = .ok (.getfield 41, 3) := by decide +kernel
theorem dX1_matters_44 : decode cX1_matters 44 = .ok (.iload_n 1, 1) := by decide +kernel
theorem dX1_matters_45 : decode cX1_matters 45 = .ok (.iconst 1, 1) := by decide +kernel
theorem dX1_matters_46 : decode cX1_matters 46 = .ok (.isub, 1) := by decide +kernel
theorem dX1_matters_47 : decode cX1_matters 47 = .ok (.iaload, 1) := by decide +kernel
theorem dX1_matters_48 : decode cX1_matters 48 = .ok (.invokevirtual 44, 3) := by decide +kernel
theorem dX1_matters_51 : decode cX1_matters 51 = .ok (.ifCond .eq 7, 3) := by decide +kernel
theorem dX1_matters_54 : decode cX1_matters 54 = .ok (.iconst 1, 1) := by decide +kernel
theorem dX1_matters_55 : decode cX1_matters 55 = .ok (.goto 4, 3) := by decide +kernel
theorem dX1_matters_58 : decode cX1_matters 58 = .ok (.iconst 0, 1) := by decide +kernel
theorem dX1_matters_59 : decode cX1_matters 59 = .ok (.ireturn, 1) := by decide +kernel
theorem dX1_note_0 : decode cX1_note 0 = .ok (.aload_n 0, 1) := by decide +kernel
theorem dX1_note_1 : decode cX1_note 1 = .ok (.getfield 15, 3) := by decide +kernel
theorem dX1_note_4 : decode cX1_note 4 = .ok (.ifCond .ne 11, 3) := by decide +kernel
theorem dX1_note_7 : decode cX1_note 7 = .ok (.aload_n 0, 1) := by decide +kernel
theorem dX1_note_8 : decode cX1_note 8 = .ok (.aload_n 0, 1) := by decide +kernel
theorem dX1_note_9 : decode cX1_note 9 = .ok (.getfield 9, 3) := by decide +kernel
theorem dX1_note_12 : decode cX1_note 12 = .ok (.invokevirtual 48, 3) := by decide +kernel
theorem dX1_note_15 : decode cX1_note 15 = .ok (.aload_n 0, 1) := by decide +kernel
theorem dX1_note_16 : decode cX1_note 16 = .ok (.dup, 1) := by decide +kernel
theorem dX1_note_17 : decode cX1_note 17 = .ok (.getfield 15, 3) := by decide +kernel
theorem dX1_note_20 : decode cX1_note 20 = .ok (.iconst 1, 1) := by decide +kernel
theorem dX1_note_21 : decode cX1_note 21 = .ok (.iadd, 1) := by decide +kernel
theorem dX1_note_22 : decode cX1_note 22 = .ok (.putfield 15, 3) := by decide +kernel
theorem dX1_note_25 : decode cX1_note 25 = .ok (.return_, 1) := by decide +kernel
theorem dX2_init_0 : decode cX2_init 0 = .ok (.aload_n 0, 1) := by decide +kernel
theorem dX2_init_1 : decode cX2_init 1 = .ok (.aload_n 1, 1) := by decide +kernel
theorem dX2_init_2 : decode cX2_init 2 = .ok (.aload_n 2, 1) := by decide +kernel
theorem dX2_init_3 : decode cX2_init 3 = .ok (.invokespecial 3, 3) := by decide +kernel
theorem dX2_init_6 : decode cX2_init 6 = .ok (.aload_n 0, 1) := by decide +kernel
theorem dX2_init_7 : decode cX2_init 7 = .ok (.bipush 9, 2) := by decide +kernel
theorem dX2_init_9 : decode cX2_init 9 = .ok (.newarray .int, 2) := by decide +kernel
theorem dX2_init_11 : decode cX2_init 11 = .ok (.putfield 9, 3) := by decide +kernel
theorem dX2_init_14 : decode cX2_init 14 = .ok (.aload_n 0, 1) := by decide +kernel
theorem dX2_init_15 : decode cX2_init 15 = .ok (.bipush 9, 2) := by decide +kernel
theorem dX2_init_17 : decode cX2_init 17 = .ok (.newarray .int, 2) := by decide +kernel
theorem dX2_init_19 : decode cX2_init 19 = .ok (.putfield 15, 3) := by decide +kernel
theorem dX2_init_22 : decode cX2_init 22 = .ok (.aload_n 0, 1) := by decide +kernel
theorem dX2_init_23 : decode cX2_init 23 = .ok (.bipush 9, 2) := by decide +kernel
theorem dX2_init_25 : decode cX2_init 25 = .ok (.newarray .int, 2) := by decide +kernel
theorem dX2_init_27 : decode cX2_init 27 = .ok (.putfield 18, 3) := by decide +kernel
theorem dX2_init_30 : decode cX2_init 30 = .ok (.aload_n 0, 1) := by decide +kernel
theorem dX2_init_31 : decode cX2_init 31 = .ok (.bipush 10, 2) := by decide +kernel
theorem dX2_init_33 : decode cX2_init 33 = .ok (.newarray .int, 2) := by decide +kernel
theorem dX2_init_35 : decode cX2_init 35 = .ok (.putfield 21, 3) := by decide +kernel
theorem dX2_init_38 : decode cX2_init 38 = .ok (.aload_n 0, 1) := by decide +kernel
theorem dX2_init_39 : decode cX2_init 39 = .ok (.bipush 10, 2) := by decide +kernel
theorem dX2_init_41 : decode cX2_init 41 = .ok (.newarray .int, 2) := by decide +kernel
theorem dX2_init_43 : decode cX2_init 43 = .ok (.putfield 24, 3) := by decide +kernel
theorem dX2_init_46 : decode cX2_init 46 = .ok (.aload_n 0, 1) := by decide +kernel
theorem dX2_init_47 : decode cX2_init 47 = .ok (.iconst 0, 1) := by decide +kernel
theorem dX2_init_48 : decode cX2_init 48 = .ok (.putfield 27, 3) := by decide +kernel
theorem dX2_init_51 : decode cX2_init 51 = .ok (.aload_n 0, 1) := by decide +kernel
theorem dX2_init_52 : decode cX2_init 52 = .ok (.iconst 0, 1) := by decide +kernel
theorem dX2_init_53 : decode cX2_init 53 = .ok (.putfield 31, 3) := by decide +kernel
theorem dX2_init_56 : decode cX2_init 56 = .ok (.return_, 1) := by decide +kernel
theorem dX2_begin_0 : decode cX2_begin 0 = .ok (.aload_n 0, 1) := by decide +kernel
theorem dX2_begin_1 : decode cX2_begin 1 = .ok (.iconst 0, 1) := by decide +kernel
theorem dX2_begin_2 : decode cX2_begin 2 = .ok (.putfield 27, 3) := by decide +kernel
theorem dX2_begin_5 : decode cX2_begin 5 = .ok (.iconst 0, 1) := by decide +kernel
theorem dX2_begin_6 : decode cX2_begin 6 = .ok (.istore_n 1, 1) := by decide +kernel
theorem dX2_begin_7 : decode cX2_begin 7 = .ok (.iload_n 1, 1) := by decide +kernel
theorem dX2_begin_8 : decode cX2_begin 8 = .ok (.bipush 9, 2) := by decide +kernel
theorem dX2_begin_10 : decode cX2_begin 10 = .ok (.if_icmp .ge 16, 3) := by decide +kernel
theorem dX2_begin_13 : decode cX2_begin 13 = .ok (.aload_n 0, 1) := by decide +kernel
theorem dX2_begin_14 : decode cX2_begin 14 = .ok (.getfield 18, 3) := by decide +kernel
theorem dX2_begin_17 : decode cX2_begin 17 = .ok (.iload_n 1, 1) := by decide +kernel
theorem dX2_begin_18 : decode cX2_begin 18 = .ok (.iconst 0, 1) := by decide +kernel
theorem dX2_begin_19 : decode cX2_begin 19 = .ok (.iastore, 1) := by decide +kernel
theorem dX2_begin_20 : decode cX2_begin 20 = .ok (.iinc 1 1, 3) := by decide +kernel
theorem dX2_begin_23 : decode cX2_begin 23 = .ok (.goto (-16), 3) := by decide +kernel
theorem dX2_begin_26 : decode cX2_begin 26 = .ok (.return_, 1) := by decide +kernel
theorem dX2_matters_0 : decode cX2_matters 0 = .ok (.aload_n 0, 1) := by decide +kernel
theorem dX2_matters_1 : decode cX2_matters 1 = .ok (.getfield 34, 3) := by decide +kernel
theorem dX2_matters_4 : decode cX2_matters 4 = .ok (.invokevirtual 38, 3) := by decide +kernel
theorem dX2_matters_7 : decode cX2_matters 7 = .ok (.ifCond .le 5, 3) := by decide +kernel
theorem dX2_matters_10 : decode cX2_matters 10 = .ok (.iconst 0, 1) := by decide +kernel
theorem dX2_matters_11 : decode cX2_matters 11 = .ok (.ireturn, 1) := by decide +kernel
theorem dX2_matters_12 : decode cX2_matters 12 = .ok (.iload_n 1, 1) := by decide +kernel
theorem dX2_matters_13 : decode cX2_matters 13 = .ok (.ifCond .le 47, 3) := by decide +kernel
theorem dX2_matters_16 : decode cX2_matters 16 = .ok (.aload_n 0, 1) := by decide +kernel
theorem dX2_matters_17 : decode cX2_matters 17 = .ok (.getfield 34, 3) := by decide +kernel
theorem dX2_matters_20 : decode cX2_matters 20 = .ok (.getfield 44, 3) := by decide +kernel
theorem dX2_matters_23 : decode cX2_matters 23 = .ok (.iload_n 1, 1) := by decide +kernel
theorem dX2_matters_24 : decode cX2_matters 24 = .ok (.iconst 1, 1) := by decide +kernel
theorem dX2_matters_25 : decode cX2_matters 25 = .ok (.isub, 1) := by decide +kernel
theorem dX2_matters_26 : decode cX2_matters 26 = .ok (.iaload, 1) := by decide +kernel
theorem dX2_matters_27 : decode cX2_matters 27 = .ok (.aload_n 0, 1) := by decide +kernel
theorem dX2_matters_28 : decode cX2_matters 28 = .ok (.getfield 21, 3) := by decide +kernel
theorem dX2_matters_31 : decode cX2_matters 31 = .ok (.iload_n 1, 1) := by decide +kernel
theorem dX2_matters_32 : decode cX2_matters 32 = .ok (.iconst 1, 1) := by decide +kernel
theorem dX2_matters_33 : decode cX2_matters 33 = .ok (.isub, 1) := by decide +kernel
theorem dX2_matters_34 : decode cX2_matters 34 = .ok (.iaload, 1) := by decide +kernel
theorem dX2_matters_35 : decode cX2_matters 35 = .ok (.if_icmp .ne 7, 3) := by decide +kernel
theorem dX2_matters_38 : decode cX2_matters 38 = .ok (.iconst 0, 1) := by decide +kernel
theorem dX2_matters_39 : decode cX2_matters 39 = .ok (.goto 4, 3) := by decide +kernel
theorem dX2_matters_42 : decode cX2_matters 42 = .ok (.iconst 1, 1) := by decide +kernel
theorem dX2_matters_43 : decode cX2_matters 43 = .ok (.istore_n 2, 1) := by decide +kernel
theorem dX2_matters_44 : decode cX2_matters 44 = .ok (.aload_n 0, 1) := by decide +kernel
theorem dX2_matters_45 : decode cX2_matters 45 = .ok (.getfield 24, 3) := by decide +kernel
theorem dX2_matters_48 : decode cX2_matters 48 = .ok (.iload_n 1, 1) := by decide +kernel
theorem dX2_matters_49 : decode cX2_matters 49 = .ok (.aload_n 0, 1) := by decide +kernel
theorem dX2_matters_50 : decode cX2_matters 50 = .ok (.getfield 24, 3) := by decide +kernel
theorem dX2_matters_53 : decode cX2_matters 53 = .ok (.iload_n 1, 1) := by decide +kernel
theorem dX2_matters_54 : decode cX2_matters 54 = .ok (.iconst 1, 1) := by decide +kernel
theorem dX2_matters_55 : decode cX2_matters 55 = .ok (.isub, 1) := by decide +kernel
theorem dX2_matters_56 : decode cX2_matters 56 = .ok (.iaload, 1) := by decide +kernel
theorem dX2_matters_57 : decode cX2_matters 57 = .ok (.iload_n 2, 1) := by decide +kernel
theorem dX2_matters_58 : decode cX2_matters 58 = .ok (.iadd, 1) := by decide +kernel
theorem dX2_matters_59 : decode cX2_matters 59 = .ok (.iastore, 1) := by decide +kernel
theorem dX2_matters_60 : decode cX2_matters 60 = .ok (.aload_n 0, 1) := by decide +kernel
theorem dX2_matters_61 : decode cX2_matters 61 = .ok (.getfield 21, 3) := by decide +kernel
theorem dX2_matters_64 : decode cX2_matters 64 = .ok (.iload_n 1, 1) := by decide +kernel
theorem dX2_matters_65 : decode cX2_matters 65 = .ok (.aload_n 0, 1) := by decide +kernel
theorem dX2_matters_66 : decode cX2_matters 66 = .ok (.getfield 34, 3) := by decide +kernel
theorem dX2_matters_69 : decode cX2_matters 69 = .ok (.invokevirtual 47, 3) := by decide +kernel
theorem dX2_matters_72 : decode cX2_matters 72 = .ok (.iastore, 1) := by decide +kernel
theorem dX2_matters_73 : decode cX2_matters 73 = .ok (.iconst 1, 1) := by decide +kernel
theorem dX2_matters_74 : decode cX2_matters 74 = .ok (.ireturn, 1) := by decide +kernel
theorem dX2_note_0 : decode cX2_note 0 = .ok (.aload_n 0, 1) := by decide +kernel
theorem dX2_note_1 : decode cX2_note 1 = .ok (.getfield 27, 3) := by decide +kernel
theorem dX2_note_4 : decode cX2_note 4 = .ok (.ifCond .ne 11, 3) := by decide +kernel
theorem dX2_note_7 : decode cX2_note 7 = .ok (.aload_n 0, 1) := by decide +kernel
theorem dX2_note_8 : decode cX2_note 8 = .ok (.aload_n 0, 1) := by decide +kernel
theorem dX2_note_9 : decode cX2_note 9 = .ok (.getfield 9, 3) := by decide +kernel
theorem dX2_note_12 : decode cX2_note 12 = .ok (.invokevirtual 50, 3) := by decide +kernel
theorem dX2_note_15 : decode cX2_note 15 = .ok (.aload_n 0, 1) := by decide +kernel
theorem dX2_note_16 : decode cX2_note 16 = .ok (.getfield 27, 3) := by decide +kernel
theorem dX2_note_19 : decode cX2_note 19 = .ok (.ifCond .eq 19, 3) := by decide +kernel
theorem dX2_note_22 : decode cX2_note 22 = .ok (.aload_n 0, 1) := by decide +kernel
theorem dX2_note_23 : decode cX2_note 23 = .ok (.getfield 24, 3) := by decide +kernel
theorem dX2_note_26 : decode cX2_note 26 = .ok (.aload_n 0, 1) := by decide +kernel
theorem dX2_note_27 : decode cX2_note 27 = .ok (.getfield 54, 3) := by decide +kernel
theorem dX2_note_30 : decode cX2_note 30 = .ok (.iaload, 1) := by decide +kernel
theorem dX2_note_31 : decode cX2_note 31 = .ok (.aload_n 0, 1) := by decide +kernel
theorem dX2_note_32 : decode cX2_note 32 = .ok (.getfield 31, 3) := by decide +kernel
theorem dX2_note_35 : decode cX2_note 35 = .ok (.if_icmp .ge 24, 3) := by decide +kernel
theorem dX2_note_38 : decode cX2_note 38 = .ok (.aload_n 0, 1) := by decide +kernel
theorem dX2_note_39 : decode cX2_note 39 = .ok (.aload_n 0, 1) := by decide +kernel
theorem dX2_note_40 : decode cX2_note 40 = .ok (.getfield 24, 3) := by decide +kernel
theorem dX2_note_43 : decode cX2_note 43 = .ok (.aload_n 0, 1) := by decide +kernel
theorem dX2_note_44 : decode cX2_note 44 = .ok (.getfield 54, 3) := by decide +kernel
theorem dX2_note_47 : decode cX2_note 47 = .ok (.iaload, 1) := by decide +kernel
theorem dX2_note_48 : decode cX2_note 48 = .ok (.putfield 31, 3) := by decide +kernel
theorem dX2_note_51 : decode cX2_note 51 = .ok (.aload_n 0, 1) := by decide +kernel
theorem dX2_note_52 : decode cX2_note 52 = .ok (.aload_n 0, 1) := by decide +kernel
theorem dX2_note_53 : decode cX2_note 53 = .ok (.getfield 15, 3) := by decide +kernel
theorem dX2_note_56 : decode cX2_note 56 = .ok (.invokevirtual 50, 3) := by decide +kernel
theorem dX2_note_59 : decode cX2_note 59 = .ok (.aload_n 0, 1) := by decide +kernel
theorem dX2_note_60 : decode cX2_note 60 = .ok (.dup, 1) := by decide +kernel
theorem dX2_note_61 : decode cX2_note 61 = .ok (.getfield 27, 3) := by decide +kernel
theorem dX2_note_64 : decode cX2_note 64 = .ok (.iconst 1, 1) := by decide +kernel
theorem dX2_note_65 : decode cX2_note 65 = .ok (.iadd, 1) := by decide +kernel
theorem dX2_note_66 : decode cX2_note 66 = .ok (.putfield 27, 3) := by decide +kernel
theorem dX2_note_69 : decode cX2_note 69 = .ok (.iconst 0, 1) := by decide +kernel
theorem dX2_note_70 : decode cX2_note 70 = .ok (.istore_n 1, 1) := by decide +kernel
theorem dX2_note_71 : decode cX2_note 71 = .ok (.iload_n 1, 1) := by decide +kernel
theorem dX2_note_72 : decode cX2_note 72 = .ok (.aload_n 0, 1) := by decide +kernel
theorem dX2_note_73 : decode cX2_note 73 = .ok (.getfield 54, 3) := by decide +kernel
theorem dX2_note_76 : decode cX2_note 76 = .ok (.if_icmp .ge 29, 3) := by decide +kernel
theorem dX2_note_79 : decode cX2_note 79 = .ok (.aload_n 0, 1) := by decide +kernel
theorem dX2_note_80 : decode cX2_note 80 = .ok (.getfield 18, 3) := by decide +kernel
theorem dX2_note_83 : decode cX2_note 83 = .ok (.iload_n 1, 1) := by decide +kernel
theorem dX2_note_84 : decode cX2_note 84 = .ok (.dup2, 1) := by decide +kernel
theorem dX2_note_85 : decode cX2_note 85 = .ok (.iaload, 1) := by decide +kernel
theorem dX2_note_86 : decode cX2_note 86 = .ok (.iconst 1, 1) := by decide +kernel
theorem dX2_note_87 : decode cX2_note 87 = .ok (.aload_n 0, 1) := by decide +kernel
theorem dX2_note_88 : decode cX2_note 88 = .ok (.getfield 34, 3) := by decide +kernel
theorem dX2_note_91 : decode cX2_note 91 = .ok (.getfield 44, 3) := by decide +kernel
theorem dX2_note_94 : decode cX2_note 94 = .ok (.iload_n 1, 1) := by decide +kernel
theorem dX2_note_95 : decode cX2_note 95 = .ok (.iaload, 1) := by decide +kernel
theorem dX2_note_96 : decode cX2_note 96 = .ok (.ishl, 1) := by decide +kernel
theorem dX2_note_97 : decode cX2_note 97 = .ok (.ior, 1) := by decide +kernel
theorem dX2_note_98 : decode cX2_note 98 = .ok (.iastore, 1) := by decide +kernel
theorem dX2_note_99 : decode cX2_note 99 = .ok (.iinc 1 1, 3) := by decide +kernel
theorem dX2_note_102 : decode cX2_note 102 = .ok (.goto (-31), 3) := by decide +kernel
theorem dX2_note_105 : decode cX2_note 105 = .ok (.return_, 1) := by decide +kernel
theorem dX3_init_0 : decode cX3_init 0 = .ok (.aload_n 0, 1) := by decide +kernel
theorem dX3_init_1 : decode cX3_init 1 = .ok (.aload_n 1, 1) := by decide +kernel
theorem dX3_init_2 : decode cX3_init 2 = .ok (.aload_n 2, 1) := by decide +kernel
theorem dX3_init_3 : decode cX3_init 3 = .ok (.invokespecial 3, 3) := by decide +kernel
theorem dX3_init_6 : decode cX3_init 6 = .ok (.aload_n 0, 1) := by decide +kernel
theorem dX3_init_7 : decode cX3_init 7 = .ok (.iconst 0, 1) := by decide +kernel
theorem dX3_init_8 : decode cX3_init 8 = .ok (.putfield 9, 3) := by decide +kernel
theorem dX3_init_11 : decode cX3_init 11 = .ok (.aload_n 0, 1) := by decide +kernel
theorem dX3_init_12 : decode cX3_init 12 = .ok (.bipush 10, 2) := by decide +kernel
theorem dX3_init_14 : decode cX3_init 14 = .ok (.newarray .int, 2) := by decide +kernel
theorem dX3_init_16 : decode cX3_init 16 = .ok (.putfield 15, 3) := by decide +kernel
theorem dX3_init_19 : decode cX3_init 19 = .ok (.return_, 1) := by decide +kernel
theorem dX3_begin_0 : decode cX3_begin 0 = .ok (.aload_n 0, 1) := by decide +kernel
theorem dX3_begin_1 : decode cX3_begin 1 = .ok (.iconst 0, 1) := by decide +kernel
theorem dX3_begin_2 : decode cX3_begin 2 = .ok (.putfield 9, 3) := by decide +kernel
theorem dX3_begin_5 : decode cX3_begin 5 = .ok (.iconst 0, 1) := by decide +kernel
theorem dX3_begin_6 : decode cX3_begin 6 = .ok (.istore_n 1, 1) := by decide +kernel
theorem dX3_begin_7 : decode cX3_begin 7 = .ok (.iload_n 1, 1) := by decide +kernel
theorem dX3_begin_8 : decode cX3_begin 8 = .ok (.bipush 9, 2) := by decide +kernel
theorem dX3_begin_10 : decode cX3_begin 10 = .ok (.if_icmp .gt 27, 3) := by decide +kernel
theorem dX3_begin_13 : decode cX3_begin 13 = .ok (.aload_n 0, 1) := by decide +kernel
theorem dX3_begin_14 : decode cX3_begin 14 = .ok (.getfield 15, 3) := by decide +kernel
theorem dX3_begin_17 : decode cX3_begin 17 = .ok (.iload_n 1, 1) := by decide +kernel
theorem dX3_begin_18 : decode cX3_begin 18 = .ok (.aload_n 0, 1) := by decide +kernel
theorem dX3_begin_19 : decode cX3_begin 19 = .ok (.getfield 19, 3) := by decide +kernel
theorem dX3_begin_22 : decode cX3_begin 22 = .ok (.iload_n 1, 1) := by decide +kernel
theorem dX3_begin_23 : decode cX3_begin 23 = .ok (.aload_n 0, 1) := by decide +kernel
theorem dX3_begin_24 : decode cX3_begin 24 = .ok (.getfield 23, 3) := by decide +kernel
theorem dX3_begin_27 : decode cX3_begin 27 = .ok (.invokevirtual 26, 3) := by decide +kernel
theorem dX3_begin_30 : decode cX3_begin 30 = .ok (.iastore, 1) := by decide +kernel
theorem dX3_begin_31 : decode cX3_begin 31 = .ok (.iinc 1 1, 3) := by decide +kernel
theorem dX3_begin_34 : decode cX3_begin 34 = .ok (.goto (-27), 3) := by decide +kernel
theorem dX3_begin_37 : decode cX3_begin 37 = .ok (.return_, 1) := by decide +kernel
theorem dX3_matters_0 : decode cX3_matters 0 = .ok (.aload_n 0, 1) := by decide +kernel
theorem dX3_matters_1 : decode cX3_matters 1 = .ok (.getfield 32, 3) := by decide +kernel
theorem dX3_matters_4 : decode cX3_matters 4 = .ok (.invokevirtual 36, 3) := by decide +kernel
theorem dX3_matters_7 : decode cX3_matters 7 = .ok (.aload_n 0, 1) := by decide +kernel
theorem dX3_matters_8 : decode cX3_matters 8 = .ok (.getfield 15, 3) := by decide +kernel
theorem dX3_matters_11 : decode cX3_matters 11 = .ok (.iload_n 1, 1) := by decide +kernel
theorem dX3_matters_12 : decode cX3_matters 12 = .ok (.iaload, 1) := by decide +kernel
theorem dX3_matters_13 : decode cX3_matters 13 = .ok (.iadd, 1) := by decide +kernel
theorem dX3_matters_14 : decode cX3_matters 14 = .ok (.aload_n 0, 1) := by decide +kernel
theorem dX3_matters_15 : decode cX3_matters 15 = .ok (.getfield 9, 3) := by decide +kernel
theorem dX3_matters_18 : decode cX3_matters 18 = .ok (.if_icmp .le 7, 3) := by decide +kernel
theorem dX3_matters_21 : decode cX3_matters 21 = .ok (.iconst 1, 1) := by decide +kernel
theorem dX3_matters_22 : decode cX3_matters 22 = .ok (.goto 4, 3) := by decide +kernel
theorem dX3_matters_25 : decode cX3_matters 25 = .ok (.iconst 0, 1) := by decide +kernel
theorem dX3_matters_26 : decode cX3_matters 26 = .ok (.ireturn, 1) := by decide +kernel
theorem dX3_note_0 : decode cX3_note 0 = .ok (.aload_n 0, 1) := by decide +kernel
theorem dX3_note_1 : decode cX3_note 1 = .ok (.aload_n 0, 1) := by decide +kernel
theorem dX3_note_2 : decode cX3_note 2 = .ok (.getfield 32, 3) := by decide +kernel
theorem dX3_note_5 : decode cX3_note 5 = .ok (.invokevirtual 36, 3) := by decide +kernel
theorem dX3_note_8 : decode cX3_note 8 = .ok (.putfield 9, 3) := by decide +kernel
theorem dX3_note_11 : decode cX3_note 11 = .ok (.return_, 1) := by decide +kernel
theorem dX4_init_0 : decode cX4_init 0 = .ok (.aload_n 0, 1) := by decide +kernel
theorem dX4_init_1 : decode cX4_init 1 = .ok (.invokespecial 3, 3) := by decide +kernel
theorem dX4_init_4 : decode cX4_init 4 = .ok (.aload_n 0, 1) := by decide +kernel
theorem dX4_init_5 : decode cX4_init 5 = .ok (.bipush 9, 2) := by decide +kernel
theorem dX4_init_7 : decode cX4_init 7 = .ok (.newarray .int, 2) := by decide +kernel
theorem dX4_init_9 : decode cX4_init 9 = .ok (.putfield 9, 3) := by decide +kernel
theorem dX4_init_12 : decode cX4_init 12 = .ok (.aload_n 0, 1) := by decide +kernel
theorem dX4_init_13 : decode cX4_init 13 = .ok (.iconst 0, 1) := by decide +kernel
theorem dX4_init_14 : decode cX4_init 14 = .ok (.putfield 15, 3) := by decide +kernel
theorem dX4_init_17 : decode cX4_init 17 = .ok (.return_, 1) := by decide +kernel
theorem dX4_add_0 : decode cX4_add 0 = .ok (.aload_n 0, 1) := by decide +kernel
theorem dX4_add_1 : decode cX4_add 1 = .ok (.getfield 15, 3) := by decide +kernel
theorem dX4_add_4 : decode cX4_add 4 = .ok (.bipush 9, 2) := by decide +kernel
theorem dX4_add_6 : decode cX4_add 6 = .ok (.if_icmp .ge 23, 3) := by decide +kernel
theorem dX4_add_9 : decode cX4_add 9 = .ok (.aload_n 0, 1) := by decide +kernel
theorem dX4_add_10 : decode cX4_add 10 = .ok (.getfield 9, 3) := by decide +kernel
theorem dX4_add_13 : decode cX4_add 13 = .ok (.aload_n 0, 1) := by decide +kernel
theorem dX4_add_14 : decode cX4_add 14 = .ok (.getfield 15, 3) := by decide +kernel
theorem dX4_add_17 : decode cX4_add 17 = .ok (.iload_n 1, 1) := by decide +kernel
theorem dX4_add_18 : decode cX4_add 18 = .ok (.iastore, 1) := by decide +kernel
theorem dX4_add_19 : decode cX4_add 19 = .ok (.aload_n 0, 1) := by decide +kernel
theorem dX4_add_20 : decode cX4_add 20 = .ok (.dup, 1) := by decide +kernel
theorem dX4_add_21 : decode cX4_add 21 = .ok (.getfield 15, 3) := by decide +kernel
theorem dX4_add_24 : decode cX4_add 24 = .ok (.iconst 1, 1) := by decide +kernel
theorem dX4_add_25 : decode cX4_add 25 = .ok (.iadd, 1) := by decide +kernel
theorem dX4_add_26 : decode cX4_add 26 = .ok (.putfield 15, 3) := by decide +kernel
theorem dX4_add_29 : decode cX4_add 29 = .ok (.return_, 1) := by decide +kernel
theorem dX4_signAt_0 : decode cX4_signAt 0 = .ok (.iload_n 1, 1) := by decide +kernel
theorem dX4_signAt_1 : decode cX4_signAt 1 = .ok (.ifCond .lt 20, 3) := by decide +kernel
theorem dX4_signAt_4 : decode cX4_signAt 4 = .ok (.iload_n 1, 1) := by decide +kernel
theorem dX4_signAt_5 : decode cX4_signAt 5 = .ok (.aload_n 0, 1) := by decide +kernel
theorem dX4_signAt_6 : decode cX4_signAt 6 = .ok (.getfield 15, 3) := by decide +kernel
theorem dX4_signAt_9 : decode cX4_signAt 9 = .ok (.if_icmp .ge 12, 3) := by decide +kernel
theorem dX4_signAt_12 : decode cX4_signAt 12 = .ok (.aload_n 0, 1) := by decide +kernel
theorem dX4_signAt_13 : decode cX4_signAt 13 = .ok (.getfield 9, 3) := by decide +kernel
theorem dX4_signAt_16 : decode cX4_signAt 16 = .ok (.iload_n 1, 1) := by decide +kernel
theorem dX4_signAt_17 : decode cX4_signAt 17 = .ok (.iaload, 1) := by decide +kernel
theorem dX4_signAt_18 : decode cX4_signAt 18 = .ok (.goto 4, 3) := by decide +kernel
theorem dX4_signAt_21 : decode cX4_signAt 21 = .ok (.iconst (-1), 1) := by decide +kernel
theorem dX4_signAt_22 : decode cX4_signAt 22 = .ok (.ireturn, 1) := by decide +kernel
theorem dX4_hasAny_0 : decode cX4_hasAny 0 = .ok (.iconst 0, 1) := by decide +kernel
theorem dX4_hasAny_1 : decode cX4_hasAny 1 = .ok (.istore_n 1, 1) := by decide +kernel
theorem dX4_hasAny_2 : decode cX4_hasAny 2 = .ok (.iload_n 1, 1) := by decide +kernel
theorem dX4_hasAny_3 : decode cX4_hasAny 3 = .ok (.aload_n 0, 1) := by decide +kernel
theorem dX4_hasAny_4 : decode cX4_hasAny 4 = .ok (.getfield 15, 3) := by decide +kernel
theorem dX4_hasAny_7 : decode cX4_hasAny 7 = .ok (.if_icmp .ge 21, 3) := by decide +kernel
theorem dX4_hasAny_10 : decode cX4_hasAny 10 = .ok (.aload_n 0, 1) := by decide +kernel
theorem dX4_hasAny_11 : decode cX4_hasAny 11 = .ok (.getfield 9, 3) := by decide +kernel
theorem dX4_hasAny_14 : decode cX4_hasAny 14 = .ok (.iload_n 1, 1) := by decide +kernel
theorem dX4_hasAny_15 : decode cX4_hasAny 15 = .ok (.iaload, 1) := by decide +kernel
theorem dX4_hasAny_16 : decode cX4_hasAny 16 = .ok (.iconst (-1), 1) := by decide +kernel
theorem dX4_hasAny_17 : decode cX4_hasAny 17 = .ok (.if_icmp .ne 5, 3) := by decide +kernel
theorem dX4_hasAny_20 : decode cX4_hasAny 20 = .ok (.iconst 1, 1) := by decide +kernel
theorem dX4_hasAny_21 : decode cX4_hasAny 21 = .ok (.ireturn, 1) := by decide +kernel
theorem dX4_hasAny_22 : decode cX4_hasAny 22 = .ok (.iinc 1 1, 3) := by decide +kernel
theorem dX4_hasAny_25 : decode cX4_hasAny 25 = .ok (.goto (-23), 3) := by decide +kernel
theorem dX4_hasAny_28 : decode cX4_hasAny 28 = .ok (.iconst 0, 1) := by decide +kernel
theorem dX4_hasAny_29 : decode cX4_hasAny 29 = .ok (.ireturn, 1) := by decide +kernel
theorem dX4_allows_0 : decode cX4_allows 0 = .ok (.aload_n 0, 1) := by decide +kernel
theorem dX4_allows_1 : decode cX4_allows 1 = .ok (.iload_n 1, 1) := by decide +kernel
theorem dX4_allows_2 : decode cX4_allows 2 = .ok (.invokevirtual 19, 3) := by decide +kernel
theorem dX4_allows_5 : decode cX4_allows 5 = .ok (.istore_n 3, 1) := by decide +kernel
theorem dX4_allows_6 : decode cX4_allows 6 = .ok (.iload_n 3, 1) := by decide +kernel
theorem dX4_allows_7 : decode cX4_allows 7 = .ok (.iconst (-1), 1) := by decide +kernel
theorem dX4_allows_8 : decode cX4_allows 8 = .ok (.if_icmp .eq 8, 3) := by decide +kernel
theorem dX4_allows_11 : decode cX4_allows 11 = .ok (.iload_n 3, 1) := by decide +kernel
theorem dX4_allows_12 : decode cX4_allows 12 = .ok (.iload_n 2, 1) := by decide +kernel
theorem dX4_allows_13 : decode cX4_allows 13 = .ok (.if_icmp .ne 7, 3) := by decide +kernel
theorem dX4_allows_16 : decode cX4_allows 16 = .ok (.iconst 1, 1) := by decide +kernel
theorem dX4_allows_17 : decode cX4_allows 17 = .ok (.goto 4, 3) := by decide +kernel
theorem dX4_allows_20 : decode cX4_allows 20 = .ok (.iconst 0, 1) := by decide +kernel
theorem dX4_allows_21 : decode cX4_allows 21 = .ok (.ireturn, 1) := by decide +kernel
theorem dX5_init_0 : decode cX5_init 0 = .ok (.aload_n 0, 1) := by decide +kernel
theorem dX5_init_1 : decode cX5_init 1 = .ok (.invokespecial 3, 3) := by decide +kernel
theorem dX5_init_4 : decode cX5_init 4 = .ok (.aload_n 0, 1) := by decide +kernel
theorem dX5_init_5 : decode cX5_init 5 = .ok (.iconst 4, 1) := by decide +kernel
theorem dX5_init_6 : decode cX5_init 6 = .ok (.newarray .int, 2) := by decide +kernel
theorem dX5_init_8 : decode cX5_init 8 = .ok (.putfield 9, 3) := by decide +kernel
theorem dX5_init_11 : decode cX5_init 11 = .ok (.aload_n 0, 1) := by decide +kernel
theorem dX5_init_12 : decode cX5_init 12 = .ok (.iconst 4, 1) := by decide +kernel
theorem dX5_init_13 : decode cX5_init 13 = .ok (.newarray .int, 2) := by decide +kernel
theorem dX5_init_15 : decode cX5_init 15 = .ok (.putfield 15, 3) := by decide +kernel
theorem dX5_init_18 : decode cX5_init 18 = .ok (.aload_n 0, 1) := by decide +kernel
theorem dX5_init_19 : decode cX5_init 19 = .ok (.iconst 4, 1) := by decide +kernel
theorem dX5_init_20 : decode cX5_init 20 = .ok (.newarray .int, 2) := by decide +kernel
theorem dX5_init_22 : decode cX5_init 22 = .ok (.putfield 18, 3) := by decide +kernel
theorem dX5_init_25 : decode cX5_init 25 = .ok (.aload_n 0, 1) := by decide +kernel
theorem dX5_init_26 : decode cX5_init 26 = .ok (.iconst 5, 1) := by decide +kernel
theorem dX5_init_27 : decode cX5_init 27 = .ok (.newarray .int, 2) := by decide +kernel
theorem dX5_init_29 : decode cX5_init 29 = .ok (.putfield 21, 3) := by decide +kernel
theorem dX5_init_32 : decode cX5_init 32 = .ok (.aload_n 0, 1) := by decide +kernel
theorem dX5_init_33 : decode cX5_init 33 = .ok (.iconst 5, 1) := by decide +kernel
theorem dX5_init_34 : decode cX5_init 34 = .ok (.newarray .int, 2) := by decide +kernel
theorem dX5_init_36 : decode cX5_init 36 = .ok (.putfield 24, 3) := by decide +kernel
theorem dX5_init_39 : decode cX5_init 39 = .ok (.iconst 0, 1) := by decide +kernel
theorem dX5_init_40 : decode cX5_init 40 = .ok (.istore_n 1, 1) := by decide +kernel
theorem dX5_init_41 : decode cX5_init 41 = .ok (.iload_n 1, 1) := by decide +kernel
theorem dX5_init_42 : decode cX5_init 42 = .ok (.iconst 4, 1) := by decide +kernel
theorem dX5_init_43 : decode cX5_init 43 = .ok (.if_icmp .ge 16, 3) := by decide +kernel
theorem dX5_init_46 : decode cX5_init 46 = .ok (.aload_n 0, 1) := by decide +kernel
theorem dX5_init_47 : decode cX5_init 47 = .ok (.iload_n 1, 1) := by decide +kernel
theorem dX5_init_48 : decode cX5_init 48 = .ok (.iconst 1, 1) := by decide +kernel
theorem dX5_init_49 : decode cX5_init 49 = .ok (.iconst 2, 1) := by decide +kernel
theorem dX5_init_50 : decode cX5_init 50 = .ok (.invokevirtual 27, 3) := by decide +kernel
theorem dX5_init_53 : decode cX5_init 53 = .ok (.iinc 1 1, 3) := by decide +kernel
theorem dX5_init_56 : decode cX5_init 56 = .ok (.goto (-15), 3) := by decide +kernel
theorem dX5_init_59 : decode cX5_init 59 = .ok (.return_, 1) := by decide +kernel
theorem dX5_setOption_0 : decode cX5_setOption 0 = .ok (.aload_n 0, 1) := by decide +kernel
theorem dX5_setOption_1 : decode cX5_setOption 1 = .ok (.getfield 9, 3) := by decide +kernel
theorem dX5_setOption_4 : decode cX5_setOption 4 = .ok (.iload_n 1, 1) := by decide +kernel
theorem dX5_setOption_5 : decode cX5_setOption 5 = .ok (.iload_n 2, 1) := by decide +kernel
theorem dX5_setOption_6 : decode cX5_setOption 6 = .ok (.iastore, 1) := by decide +kernel
theorem dX5_setOption_7 : decode cX5_setOption 7 = .ok (.aload_n 0, 1) := by decide +kernel
theorem dX5_setOption_8 : decode cX5_setOption 8 = .ok (.getfield 15, 3) := by decide +kernel
theorem dX5_setOption_11 : decode cX5_setOption 11 = .ok (.iload_n 1, 1) := by decide +kernel
theorem dX5_setOption_12 : decode cX5_setOption 12 = .ok (.iload_n 3, 1) := by decide +kernel
theorem dX5_setOption_13 : decode cX5_setOption 13 = .ok (.iastore, 1) := by decide +kernel
theorem dX5_setOption_14 : decode cX5_setOption 14 = .ok (.aload_n 0, 1) := by decide +kernel
theorem dX5_setOption_15 : decode cX5_setOption 15 = .ok (.getfield 18, 3) := by decide +kernel
theorem dX5_setOption_18 : decode cX5_setOption 18 = .ok (.iload_n 1, 1) := by decide +kernel
theorem dX5_setOption_19 : decode cX5_setOption 19 = .ok (.ldc 31, 2) := by decide +kernel
theorem dX5_setOption_21 : decode cX5_setOption 21 = .ok (.iconst 4, 1) := by decide +kernel
theorem dX5_setOption_22 : decode cX5_setOption 22 = .ok (.iconst 5, 1) := by decide +kernel
theorem dX5_setOption_23 : decode cX5_setOption 23 = .ok (.iload_n 3, 1) := by decide +kernel
theorem dX5_setOption_24 : decode cX5_setOption 24 = .ok (.isub, 1) := by decide +kernel
theorem dX5_setOption_25 : decode cX5_setOption 25 = .ok (.imul, 1) := by decide +kernel
theorem dX5_setOption_26 : decode cX5_setOption 26 = .ok (.ishr, 1) := by decide +kernel
theorem dX5_setOption_27 : decode cX5_setOption 27 = .ok (.iload_n 1, 1) := by decide +kernel
theorem dX5_setOption_28 : decode cX5_setOption 28 = .ok (.ishl, 1) := by decide +kernel
theorem dX5_setOption_29 : decode cX5_setOption 29 = .ok (.iastore, 1) := by decide +kernel
theorem dX5_setOption_30 : decode cX5_setOption 30 = .ok (.return_, 1) := by decide +kernel
theorem dX5_copyFrom_0 : decode cX5_copyFrom 0 = .ok (.aload_n 1, 1) := by decide +kernel
theorem dX5_copyFrom_1 : decode cX5_copyFrom 1 = .ok (.getfield 9, 3) := by decide +kernel
theorem dX5_copyFrom_4 : decode cX5_copyFrom 4 = .ok (.iconst 0, 1) := by decide +kernel
theorem dX5_copyFrom_5 : decode cX5_copyFrom 5 = .ok (.aload_n 0, 1) := by decide +kernel
theorem dX5_copyFrom_6 : decode cX5_copyFrom 6 = .ok (.getfield 9, 3) := by decide +kernel
theorem dX5_copyFrom_9 : decode cX5_copyFrom 9 = .ok (.iconst 0, 1) := by decide +kernel
theorem dX5_copyFrom_10 : decode cX5_copyFrom 10 = .ok (.iconst 4, 1) := by decide +kernel
theorem dX5_copyFrom_11 : decode cX5_copyFrom 11 = .ok (.invokestatic 32, 3) := by decide +kernel
theorem dX5_copyFrom_14 : decode cX5_copyFrom 14 = .ok (.aload_n 1, 1) := by decide +kernel
theorem dX5_copyFrom_15 : decode cX5_copyFrom 15 = .ok (.getfield 15, 3) := by decide +kernel
theorem dX5_copyFrom_18 : decode cX5_copyFrom 18 = .ok (.iconst 0, 1) := by decide +kernel
theorem dX5_copyFrom_19 : decode cX5_copyFrom 19 = .ok (.aload_n 0, 1) := by decide +kernel
theorem dX5_copyFrom_20 : decode cX5_copyFrom 20 = .ok (.getfield 15, 3) := by decide +kernel
theorem dX5_copyFrom_23 : decode cX5_copyFrom 23 = .ok (.iconst 0, 1) := by decide +kernel
theorem dX5_copyFrom_24 : decode cX5_copyFrom 24 = .ok (.iconst 4, 1) := by decide +kernel
theorem dX5_copyFrom_25 : decode cX5_copyFrom 25 = .ok (.invokestatic 32, 3) := by decide +kernel
theorem dX5_copyFrom_28 : decode cX5_copyFrom 28 = .ok (.aload_n 1, 1) := by decide +kernel
theorem dX5_copyFrom_29 : decode cX5_copyFrom 29 = .ok (.getfield 18, 3) := by decide +kernel
theorem dX5_copyFrom_32 : decode cX5_copyFrom 32 = .ok (.iconst 0, 1) := by decide +kernel
theorem dX5_copyFrom_33 : decode cX5_copyFrom 33 = .ok (.aload_n 0, 1) := by decide +kernel
theorem dX5_copyFrom_34 : decode cX5_copyFrom 34 = .ok (.getfield 18, 3) := by decide +kernel
theorem dX5_copyFrom_37 : decode cX5_copyFrom 37 = .ok (.iconst 0, 1) := by decide +kernel
theorem dX5_copyFrom_38 : decode cX5_copyFrom 38 = .ok (.iconst 4, 1) := by decide +kernel
theorem dX5_copyFrom_39 : decode cX5_copyFrom 39 = .ok (.invokestatic 32, 3) := by decide +kernel
theorem dX5_copyFrom_42 : decode cX5_copyFrom 42 = .ok (.aload_n 1, 1) := by decide +kernel
theorem dX5_copyFrom_43 : decode cX5_copyFrom 43 = .ok (.getfield 21, 3) := by decide +kernel
theorem dX5_copyFrom_46 : decode cX5_copyFrom 46 = .ok (.iconst 0, 1) := by decide +kernel
theorem dX5_copyFrom_47 : decode cX5_copyFrom 47 = .ok (.aload_n 0, 1) := by decide +kernel
theorem dX5_copyFrom_48 : decode cX5_copyFrom 48 = .ok (.getfield 21, 3) := by decide +kernel
theorem dX5_copyFrom_51 : decode cX5_copyFrom 51 = .ok (.iconst 0, 1) := by decide +kernel
theorem dX5_copyFrom_52 : decode cX5_copyFrom 52 = .ok (.iconst 5, 1) := by decide +kernel
theorem dX5_copyFrom_53 : decode cX5_copyFrom 53 = .ok (.invokestatic 32, 3) := by decide +kernel
theorem dX5_copyFrom_56 : decode cX5_copyFrom 56 = .ok (.aload_n 1, 1) := by decide +kernel
theorem dX5_copyFrom_57 : decode cX5_copyFrom 57 = .ok (.getfield 24, 3) := by decide +kernel
theorem dX5_copyFrom_60 : decode cX5_copyFrom 60 = .ok (.iconst 0, 1) := by decide +kernel
theorem dX5_copyFrom_61 : decode cX5_copyFrom 61 = .ok (.aload_n 0, 1) := by decide +kernel
theorem dX5_copyFrom_62 : decode cX5_copyFrom 62 = .ok (.getfield 24, 3) := by decide +kernel
theorem dX5_copyFrom_65 : decode cX5_copyFrom 65 = .ok (.iconst 0, 1) := by decide +kernel
theorem dX5_copyFrom_66 : decode cX5_copyFrom 66 = .ok (.iconst 5, 1) := by decide +kernel
theorem dX5_copyFrom_67 : decode cX5_copyFrom 67 = .ok (.invokestatic 32, 3) := by decide +kernel
theorem dX5_copyFrom_70 : decode cX5_copyFrom 70 = .ok (.return_, 1) := by decide +kernel
theorem dX5_cars_0 : decode cX5_cars 0 = .ok (.iconst 0, 1) := by decide +kernel
theorem dX5_cars_1 : decode cX5_cars 1 = .ok (.istore_n 1, 1) := by decide +kernel
theorem dX5_cars_2 : decode cX5_cars 2 = .ok (.iconst 0, 1) := by decide +kernel
theorem dX5_cars_3 : decode cX5_cars 3 = .ok (.istore_n 2, 1) := by decide +kernel
theorem dX5_cars_4 : decode cX5_cars 4 = .ok (.iload_n 2, 1) := by decide +kernel
theorem dX5_cars_5 : decode cX5_cars 5 = .ok (.iconst 5, 1) := by decide +kernel
theorem dX5_cars_6 : decode cX5_cars 6 = .ok (.if_icmp .ge 18, 3) := by decide +kernel
theorem dX5_cars_9 : decode cX5_cars 9 = .ok (.iload_n 1, 1) := by decide +kernel
theorem dX5_cars_10 : decode cX5_cars 10 = .ok (.aload_n 0, 1) := by decide +kernel
theorem dX5_cars_11 : decode cX5_cars 11 = .ok (.getfield 24, 3) := by decide +kernel
theorem dX5_cars_14 : decode cX5_cars 14 = .ok (.iload_n 2, 1) := by decide +kernel
theorem dX5_cars_15 : decode cX5_cars 15 = .ok (.iaload, 1) := by decide +kernel
theorem dX5_cars_16 : decode cX5_cars 16 = .ok (.iadd, 1) := by decide +kernel
theorem dX5_cars_17 : decode cX5_cars 17 = .ok (.istore_n 1, 1) := by decide +kernel
theorem dX5_cars_18 : decode cX5_cars 18 = .ok (.iinc 2 1, 3) := by decide +kernel
theorem dX5_cars_21 : decode cX5_cars 21 = .ok (.goto (-17), 3) := by decide +kernel
theorem dX5_cars_24 : decode cX5_cars 24 = .ok (.iload_n 1, 1) := by decide +kernel
theorem dX5_cars_25 : decode cX5_cars 25 = .ok (.ireturn, 1) := by decide +kernel
theorem dX5_classesWithDemand_0 : decode cX5_classesWithDemand 0 = .ok (.iconst 0, 1) := by decide +kernel
theorem dX5_classesWithDemand_1 : decode cX5_classesWithDemand 1 = .ok (.istore_n 1, 1) := by decide +kernel
theorem dX5_classesWithDemand_2 : decode cX5_classesWithDemand 2 = .ok (.iconst 0, 1) := by decide +kernel
theorem dX5_classesWithDemand_3 : decode cX5_classesWithDemand 3 = .ok (.istore_n 2, 1) := by decide +kernel
theorem dX5_classesWithDemand_4 : decode cX5_classesWithDemand 4 = .ok (.iload_n 2, 1) := by decide +kernel
theorem dX5_classesWithDemand_5 : decode cX5_classesWithDemand 5 = .ok (.iconst 5, 1) := by decide +kernel
theorem dX5_classesWithDemand_6 : decode cX5_classesWithDemand 6 = .ok (.if_icmp .ge 21, 3) := by decide +kernel
theorem dX5_classesWithDemand_9 : decode cX5_classesWithDemand 9 = .ok (.aload_n 0, 1) := by decide +kernel
theorem dX5_classesWithDemand_10 : decode cX5_classesWithDemand 10 = .ok (.getfield 24, 3) := by decide +kernel
theorem dX5_classesWithDemand_13 : decode cX5_classesWithDemand 13 = .ok (.iload_n 2, 1) := by decide +kernel
theorem dX5_classesWithDemand_14 : decode cX5_classesWithDemand 14 = .ok (.iaload, 1) := by decide +kernel
theorem dX5_classesWithDemand_15 : decode cX5_classesWithDemand 15 = .ok (.ifCond .le 6, 3) := by decide +kernel
theorem dX5_classesWithDemand_18 : decode cX5_classesWithDemand 18 = .ok (.iinc 1 1, 3) := by decide +kernel
theorem dX5_classesWithDemand_21 : decode cX5_classesWithDemand 21 = .ok (.iinc 2 1, 3) := by decide +kernel
theorem dX5_classesWithDemand_24 : decode cX5_classesWithDemand 24 = .ok (.goto (-20), 3) := by decide +kernel
theorem dX5_classesWithDemand_27 : decode cX5_classesWithDemand 27 = .ok (.iload_n 1, 1) := by decide +kernel
theorem dX5_classesWithDemand_28 : decode cX5_classesWithDemand 28 = .ok (.ireturn, 1) := by decide +kernel
theorem dX5_wanted_0 : decode cX5_wanted 0 = .ok (.iconst 0, 1) := by decide +kernel
theorem dX5_wanted_1 : decode cX5_wanted 1 = .ok (.istore_n 2, 1) := by decide +kernel
theorem dX5_wanted_2 : decode cX5_wanted 2 = .ok (.iconst 0, 1) := by decide +kernel
theorem dX5_wanted_3 : decode cX5_wanted 3 = .ok (.istore_n 3, 1) := by decide +kernel
theorem dX5_wanted_4 : decode cX5_wanted 4 = .ok (.iload_n 3, 1) := by decide +kernel
theorem dX5_wanted_5 : decode cX5_wanted 5 = .ok (.iconst 5, 1) := by decide +kernel
theorem dX5_wanted_6 : decode cX5_wanted 6 = .ok (.if_icmp .ge 31, 3) := by decide +kernel
theorem dX5_wanted_9 : decode cX5_wanted 9 = .ok (.aload_n 0, 1) := by decide +kernel
theorem dX5_wanted_10 : decode cX5_wanted 10 = .ok (.getfield 21, 3) := by decide +kernel
theorem dX5_wanted_13 : decode cX5_wanted 13 = .ok (.iload_n 3, 1) := by decide +kernel
theorem dX5_wanted_14 : decode cX5_wanted 14 = .ok (.iaload, 1) := by decide +kernel
theorem dX5_wanted_15 : decode cX5_wanted 15 = .ok (.iload_n 1, 1) := by decide +kernel
theorem dX5_wanted_16 : decode cX5_wanted 16 = .ok (.ishr, 1) := by decide +kernel
theorem dX5_wanted_17 : decode cX5_wanted 17 = .ok (.iconst 1, 1) := by decide +kernel
theorem dX5_wanted_18 : decode cX5_wanted 18 = .ok (.iand, 1) := by decide +kernel
theorem dX5_wanted_19 : decode cX5_wanted 19 = .ok (.ifCond .eq 12, 3) := by decide +kernel
theorem dX5_wanted_22 : decode cX5_wanted 22 = .ok (.iload_n 2, 1) := by decide +kernel
theorem dX5_wanted_23 : decode cX5_wanted 23 = .ok (.aload_n 0, 1) := by decide +kernel
theorem dX5_wanted_24 : decode cX5_wanted 24 = .ok (.getfield 24, 3) := by decide +kernel
theorem dX5_wanted_27 : decode cX5_wanted 27 = .ok (.iload_n 3, 1) := by decide +kernel
theorem dX5_wanted_28 : decode cX5_wanted 28 = .ok (.iaload, 1) := by decide +kernel
theorem dX5_wanted_29 : decode cX5_wanted 29 = .ok (.iadd, 1) := by decide +kernel
theorem dX5_wanted_30 : decode cX5_wanted 30 = .ok (.istore_n 2, 1) := by decide +kernel
theorem dX5_wanted_31 : decode cX5_wanted 31 = .ok (.iinc 3 1, 3) := by decide +kernel
theorem dX5_wanted_34 : decode cX5_wanted 34 = .ok (.goto (-30), 3) := by decide +kernel
theorem dX5_wanted_37 : decode cX5_wanted 37 = .ok (.iload_n 2, 1) := by decide +kernel
theorem dX5_wanted_38 : decode cX5_wanted 38 = .ok (.ireturn, 1) := by decide +kernel
theorem dX5_room_0 : decode cX5_room 0 = .ok (.aload_n 0, 1) := by decide +kernel
theorem dX5_room_1 : decode cX5_room 1 = .ok (.getfield 15, 3) := by decide +kernel
theorem dX5_room_4 : decode cX5_room 4 = .ok (.iload_n 1, 1) := by decide +kernel
theorem dX5_room_5 : decode cX5_room 5 = .ok (.iaload, 1) := by decide +kernel
theorem dX5_room_6 : decode cX5_room 6 = .ok (.istore_n 2, 1) := by decide +kernel
theorem dX5_room_7 : decode cX5_room 7 = .ok (.iload_n 2, 1) := by decide +kernel
theorem dX5_room_8 : decode cX5_room 8 = .ok (.iconst 1, 1) := by decide +kernel
theorem dX5_room_9 : decode cX5_room 9 = .ok (.if_icmp .ge 5, 3) := by decide +kernel
theorem dX5_room_12 : decode cX5_room 12 = .ok (.iconst 0, 1) := by decide +kernel
theorem dX5_room_13 : decode cX5_room 13 = .ok (.ireturn, 1) := by decide +kernel
theorem dX5_room_14 : decode cX5_room 14 = .ok (.aload_n 0, 1) := by decide +kernel
theorem dX5_room_15 : decode cX5_room 15 = .ok (.invokevirtual 38, 3) := by decide +kernel
theorem dX5_room_18 : decode cX5_room 18 = .ok (.istore_n 3, 1) := by decide +kernel
theorem dX5_room_19 : decode cX5_room 19 = .ok (.aload_n 0, 1) := by decide +kernel
theorem dX5_room_20 : decode cX5_room 20 = .ok (.getfield 9, 3) := by decide +kernel
theorem dX5_room_23 : decode cX5_room 23 = .ok (.iload_n 1, 1) := by decide +kernel
theorem dX5_room_24 : decode cX5_room 24 = .ok (.iaload, 1) := by decide +kernel
theorem dX5_room_25 : decode cX5_room 25 = .ok (.iload_n 3, 1) := by decide +kernel
theorem dX5_room_26 : decode cX5_room 26 = .ok (.iload_n 2, 1) := by decide +kernel
theorem dX5_room_27 : decode cX5_room 27 = .ok (.idiv, 1) := by decide +kernel
theorem dX5_room_28 : decode cX5_room 28 = .ok (.imul, 1) := by decide +kernel
theorem dX5_room_29 : decode cX5_room 29 = .ok (.aload_n 0, 1) := by decide +kernel
theorem dX5_room_30 : decode cX5_room 30 = .ok (.getfield 9, 3) := by decide +kernel
theorem dX5_room_33 : decode cX5_room 33 = .ok (.iload_n 1, 1) := by decide +kernel
theorem dX5_room_34 : decode cX5_room 34 = .ok (.iaload, 1) := by decide +kernel
theorem dX5_room_35 : decode cX5_room 35 = .ok (.iload_n 3, 1) := by decide +kernel
theorem dX5_room_36 : decode cX5_room 36 = .ok (.iload_n 2, 1) := by decide +kernel
theorem dX5_room_37 : decode cX5_room 37 = .ok (.irem, 1) := by decide +kernel
theorem dX5_room_38 : decode cX5_room 38 = .ok (.invokestatic 42, 3) := by decide +kernel
theorem dX5_room_41 : decode cX5_room 41 = .ok (.iadd, 1) := by decide +kernel
theorem dX5_room_42 : decode cX5_room 42 = .ok (.ireturn, 1) := by decide +kernel
theorem dX5_orderCount_0 : decode cX5_orderCount 0 = .ok (.iconst 1, 1) := by decide +kernel
theorem dX5_orderCount_1 : decode cX5_orderCount 1 = .ok (.istore_n 1, 1) := by decide +kernel
theorem dX5_orderCount_2 : decode cX5_orderCount 2 = .ok (.iconst 0, 1) := by decide +kernel
theorem dX5_orderCount_3 : decode cX5_orderCount 3 = .ok (.istore_n 2, 1) := by decide +kernel
theorem dX5_orderCount_4 : decode cX5_orderCount 4 = .ok (.iconst 0, 1) := by decide +kernel
theorem dX5_orderCount_5 : decode cX5_orderCount 5 = .ok (.istore_n 3, 1) := by decide +kernel
theorem dX5_orderCount_6 : decode cX5_orderCount 6 = .ok (.iload_n 3, 1) := by decide +kernel
theorem dX5_orderCount_7 : decode cX5_orderCount 7 = .ok (.iconst 5, 1) := by decide +kernel
theorem dX5_orderCount_8 : decode cX5_orderCount 8 = .ok (.if_icmp .ge 39, 3) := by decide +kernel
theorem dX5_orderCount_11 : decode cX5_orderCount 11 = .ok (.iconst 1, 1) := by decide +kernel
theorem dX5_orderCount_12 : decode cX5_orderCount 12 = .ok (.istore 4, 2) := by decide +kernel
theorem dX5_orderCount_14 : decode cX5_orderCount 14 = .ok (.iload 4, 2) := by decide +kernel
theorem dX5_orderCount_16 : decode cX5_orderCount 16 = .ok (.aload_n 0, 1) := by decide +kernel
theorem dX5_orderCount_17 : decode cX5_orderCount 17 = .ok (.getfield 24, 3) := by decide +kernel
theorem dX5_orderCount_20 : decode cX5_orderCount 20 = .ok (.iload_n 3, 1) := by decide +kernel
theorem dX5_orderCount_21 : decode cX5_orderCount 21 = .ok (.iaload, 1) := by decide +kernel
theorem dX5_orderCount_22 : decode cX5_orderCount 22 = .ok (.if_icmp .gt 19, 3) := by decide +kernel
theorem dX5_orderCount_25 : decode cX5_orderCount 25 = .ok (.iinc 2 1, 3) := by decide +kernel
theorem dX5_orderCount_28 : decode cX5_orderCount 28 = .ok (.iload_n 1, 1) := by decide +kernel
theorem dX5_orderCount_29 : decode cX5_orderCount 29 = .ok (.iload_n 2, 1) := by decide +kernel
theorem dX5_orderCount_30 : decode cX5_orderCount 30 = .ok (.imul, 1) := by decide +kernel
theorem dX5_orderCount_31 : decode cX5_orderCount 31 = .ok (.iload 4, 2) := by decide +kernel
theorem dX5_orderCount_33 : decode cX5_orderCount 33 = .ok (.idiv, 1) := by decide +kernel
theorem dX5_orderCount_34 : decode cX5_orderCount 34 = .ok (.istore_n 1, 1) := by decide +kernel
theorem dX5_orderCount_35 : decode cX5_orderCount 35 = .ok (.iinc 4 1, 3) := by decide +kernel
theorem dX5_orderCount_38 : decode cX5_orderCount 38 = .ok (.goto (-24), 3) := by decide +kernel
theorem dX5_orderCount_41 : decode cX5_orderCount 41 = .ok (.iinc 3 1, 3) := by decide +kernel
theorem dX5_orderCount_44 : decode cX5_orderCount 44 = .ok (.goto (-38), 3) := by decide +kernel
theorem dX5_orderCount_47 : decode cX5_orderCount 47 = .ok (.iload_n 1, 1) := by decide +kernel
theorem dX5_orderCount_48 : decode cX5_orderCount 48 = .ok (.ireturn, 1) := by decide +kernel
theorem dX5_breaksBehind_0 : decode cX5_breaksBehind 0 = .ok (.iconst 0, 1) := by decide +kernel
theorem dX5_breaksBehind_1 : decode cX5_breaksBehind 1 = .ok (.istore_n 3, 1) := by decide +kernel
theorem dX5_breaksBehind_2 : decode cX5_breaksBehind 2 = .ok (.iconst 0, 1) := by decide +kernel
theorem dX5_breaksBehind_3 : decode cX5_breaksBehind 3 = .ok (.istore 4, 2) := by decide +kernel
theorem dX5_breaksBehind_5 : decode cX5_breaksBehind 5 = .ok (.iload 4, 2) := by decide +kernel
theorem dX5_breaksBehind_7 : decode cX5_breaksBehind 7 = .ok (.iconst 4, 1) := by decide +kernel
theorem dX5_breaksBehind_8 : decode cX5_breaksBehind 8 = .ok (.if_icmp .ge 47, 3) := by decide +kernel
theorem dX5_breaksBehind_11 : decode cX5_breaksBehind 11 = .ok (.aload_n 0, 1) := by decide +kernel
theorem dX5_breaksBehind_12 : decode cX5_breaksBehind 12 = .ok (.iload 4, 2) := by decide +kernel
theorem dX5_breaksBehind_14 : decode cX5_breaksBehind 14 = .ok (.invokevirtual 48, 3) := by decide +kernel
theorem dX5_breaksBehind_17 : decode cX5_breaksBehind 17 = .ok (.aload_n 0, 1) := by decide +kernel
theorem dX5_breaksBehind_18 : decode cX5_breaksBehind 18 = .ok (.getfield 9, 3) := by decide +kernel
theorem dX5_breaksBehind_21 : decode cX5_breaksBehind 21 = .ok (.iload 4, 2) := by decide +kernel
theorem dX5_breaksBehind_23 : decode cX5_breaksBehind 23 = .ok (.iaload, 1) := by decide +kernel
theorem dX5_breaksBehind_24 : decode cX5_breaksBehind 24 = .ok (.if_icmp .le 25, 3) := by decide +kernel
theorem dX5_breaksBehind_27 : decode cX5_breaksBehind 27 = .ok (.iload_n 3, 1) := by decide +kernel
theorem dX5_breaksBehind_28 : decode cX5_breaksBehind 28 = .ok (.iconst 0, 1) := by decide +kernel
theorem dX5_breaksBehind_29 : decode cX5_breaksBehind 29 = .ok (.iload_n 2, 1) := by decide +kernel
theorem dX5_breaksBehind_30 : decode cX5_breaksBehind 30 = .ok (.iload_n 1, 1) := by decide +kernel
theorem dX5_breaksBehind_31 : decode cX5_breaksBehind 31 = .ok (.aload_n 0, 1) := by decide +kernel
theorem dX5_breaksBehind_32 : decode cX5_breaksBehind 32 = .ok (.getfield 15, 3) := by decide +kernel
theorem dX5_breaksBehind_35 : decode cX5_breaksBehind 35 = .ok (.iload 4, 2) := by decide +kernel
theorem dX5_breaksBehind_37 : decode cX5_breaksBehind 37 = .ok (.iaload, 1) := by decide +kernel
theorem dX5_breaksBehind_38 : decode cX5_breaksBehind 38 = .ok (.iconst 1, 1) := by decide +kernel
theorem dX5_breaksBehind_39 : decode cX5_breaksBehind 39 = .ok (.isub, 1) := by decide +kernel
theorem dX5_breaksBehind_40 : decode cX5_breaksBehind 40 = .ok (.invokestatic 52, 3) := by decide +kernel
theorem dX5_breaksBehind_43 : decode cX5_breaksBehind 43 = .ok (.isub, 1) := by decide +kernel
theorem dX5_breaksBehind_44 : decode cX5_breaksBehind 44 = .ok (.invokestatic 52, 3) := by decide +kernel
theorem dX5_breaksBehind_47 : decode cX5_breaksBehind 47 = .ok (.iadd, 1) := by decide +kernel
theorem dX5_breaksBehind_48 : decode cX5_breaksBehind 48 = .ok (.istore_n 3, 1) := by decide +kernel
theorem dX5_breaksBehind_49 : decode cX5_breaksBehind 49 = .ok (.iinc 4 1, 3) := by decide +kernel
theorem dX5_breaksBehind_52 : decode cX5_breaksBehind 52 = .ok (.goto (-47), 3) := by decide +kernel
theorem dX5_breaksBehind_55 : decode cX5_breaksBehind 55 = .ok (.iload_n 3, 1) := by decide +kernel
theorem dX5_breaksBehind_56 : decode cX5_breaksBehind 56 = .ok (.ireturn, 1) := by decide +kernel
theorem dX5_breaksAtEnd_0 : decode cX5_breaksAtEnd 0 = .ok (.iconst 0, 1) := by decide +kernel
theorem dX5_breaksAtEnd_1 : decode cX5_breaksAtEnd 1 = .ok (.istore_n 3, 1) := by decide +kernel
theorem dX5_breaksAtEnd_2 : decode cX5_breaksAtEnd 2 = .ok (.iconst 0, 1) := by decide +kernel
theorem dX5_breaksAtEnd_3 : decode cX5_breaksAtEnd 3 = .ok (.istore 4, 2) := by decide +kernel
theorem dX5_breaksAtEnd_5 : decode cX5_breaksAtEnd 5 = .ok (.iload 4, 2) := by decide +kernel
theorem dX5_breaksAtEnd_7 : decode cX5_breaksAtEnd 7 = .ok (.iconst 4, 1) := by decide +kernel
theorem dX5_breaksAtEnd_8 : decode cX5_breaksAtEnd 8 = .ok (.if_icmp .ge 45, 3) := by decide +kernel
theorem dX5_breaksAtEnd_11 : decode cX5_breaksAtEnd 11 = .ok (.iload_n 2, 1) := by decide +kernel
theorem dX5_breaksAtEnd_12 : decode cX5_breaksAtEnd 12 = .ok (.aload_n 0, 1) := by decide +kernel
theorem dX5_breaksAtEnd_13 : decode cX5_breaksAtEnd 13 = .ok (.getfield 15, 3) := by decide +kernel
theorem dX5_breaksAtEnd_16 : decode cX5_breaksAtEnd 16 = .ok (.iload 4, 2) := by decide +kernel
theorem dX5_breaksAtEnd_18 : decode cX5_breaksAtEnd 18 = .ok (.iaload, 1) := by decide +kernel
theorem dX5_breaksAtEnd_19 : decode cX5_breaksAtEnd 19 = .ok (.if_icmp .lt 28, 3) := by decide +kernel
theorem dX5_breaksAtEnd_22 : decode cX5_breaksAtEnd 22 = .ok (.iload_n 1, 1) := by decide +kernel
theorem dX5_breaksAtEnd_23 : decode cX5_breaksAtEnd 23 = .ok (.aload_n 0, 1) := by decide +kernel
theorem dX5_breaksAtEnd_24 : decode cX5_breaksAtEnd 24 = .ok (.getfield 18, 3) := by decide +kernel
theorem dX5_breaksAtEnd_27 : decode cX5_breaksAtEnd 27 = .ok (.iload 4, 2) := by decide +kernel
theorem dX5_breaksAtEnd_29 : decode cX5_breaksAtEnd 29 = .ok (.iaload, 1) := by decide +kernel
theorem dX5_breaksAtEnd_30 : decode cX5_breaksAtEnd 30 = .ok (.iand, 1) := by decide +kernel
theorem dX5_breaksAtEnd_31 : decode cX5_breaksAtEnd 31 = .ok (.invokestatic 55, 3) := by decide +kernel
theorem dX5_breaksAtEnd_34 : decode cX5_breaksAtEnd 34 = .ok (.aload_n 0, 1) := by decide +kernel
theorem dX5_breaksAtEnd_35 : decode cX5_breaksAtEnd 35 = .ok (.getfield 9, 3) := by decide +kernel
theorem dX5_breaksAtEnd_38 : decode cX5_breaksAtEnd 38 = .ok (.iload 4, 2) := by decide +kernel
theorem dX5_breaksAtEnd_40 : decode cX5_breaksAtEnd 40 = .ok (.iaload, 1) := by decide +kernel
theorem dX5_breaksAtEnd_41 : decode cX5_breaksAtEnd 41 = .ok (.if_icmp .le 6, 3) := by decide +kernel
theorem dX5_breaksAtEnd_44 : decode cX5_breaksAtEnd 44 = .ok (.iinc 3 1, 3) := by decide +kernel
theorem dX5_breaksAtEnd_47 : decode cX5_breaksAtEnd 47 = .ok (.iinc 4 1, 3) := by decide +kernel
theorem dX5_breaksAtEnd_50 : decode cX5_breaksAtEnd 50 = .ok (.goto (-45), 3) := by decide +kernel
theorem dX5_breaksAtEnd_53 : decode cX5_breaksAtEnd 53 = .ok (.iload_n 3, 1) := by decide +kernel
theorem dX5_breaksAtEnd_54 : decode cX5_breaksAtEnd 54 = .ok (.ireturn, 1) := by decide +kernel
theorem dX7_init_0 : decode cX7_init 0 = .ok (.aload_n 0, 1) := by decide +kernel
theorem dX7_init_1 : decode cX7_init 1 = .ok (.invokespecial 1, 3) := by decide +kernel
theorem dX7_init_4 : decode cX7_init 4 = .ok (.aload_n 0, 1) := by decide +kernel
theorem dX7_init_5 : decode cX7_init 5 = .ok (.iconst 0, 1) := by decide +kernel
theorem dX7_init_6 : decode cX7_init 6 = .ok (.putfield 7, 3) := by decide +kernel
theorem dX7_init_9 : decode cX7_init 9 = .ok (.aload_n 0, 1) := by decide +kernel
theorem dX7_init_10 : decode cX7_init 10 = .ok (.aload_n 1, 1) := by decide +kernel
theorem dX7_init_11 : decode cX7_init 11 = .ok (.putfield 13, 3) := by decide +kernel
theorem dX7_init_14 : decode cX7_init 14 = .ok (.aload_n 0, 1) := by decide +kernel
theorem dX7_init_15 : decode cX7_init 15 = .ok (.aload_n 2, 1) := by decide +kernel
theorem dX7_init_16 : decode cX7_init 16 = .ok (.putfield 17, 3) := by decide +kernel
theorem dX7_init_19 : decode cX7_init 19 = .ok (.return_, 1) := by decide +kernel
theorem dX7_putRight_0 : decode cX7_putRight 0 = .ok (.aload_n 0, 1) := by decide +kernel
theorem dX7_putRight_1 : decode cX7_putRight 1 = .ok (.getfield 17, 3) := by decide +kernel
theorem dX7_putRight_4 : decode cX7_putRight 4 = .ok (.invokevirtual 21, 3) := by decide +kernel
theorem dX7_putRight_7 : decode cX7_putRight 7 = .ok (.iconst 0, 1) := by decide +kernel
theorem dX7_putRight_8 : decode cX7_putRight 8 = .ok (.istore_n 2, 1) := by decide +kernel
theorem dX7_putRight_9 : decode cX7_putRight 9 = .ok (.iload_n 2, 1) := by decide +kernel
theorem dX7_putRight_10 : decode cX7_putRight 10 = .ok (.aload_n 0, 1) := by decide +kernel
theorem dX7_putRight_11 : decode cX7_putRight 11 = .ok (.getfield 13, 3) := by decide +kernel
theorem dX7_putRight_14 : decode cX7_putRight 14 = .ok (.getfield 26, 3) := by decide +kernel
theorem dX7_putRight_17 : decode cX7_putRight 17 = .ok (.if_icmp .ge 24, 3) := by decide +kernel
theorem dX7_putRight_20 : decode cX7_putRight 20 = .ok (.aload_n 0, 1) := by decide +kernel
theorem dX7_putRight_21 : decode cX7_putRight 21 = .ok (.getfield 17, 3) := by decide +kernel
theorem dX7_putRight_24 : decode cX7_putRight 24 = .ok (.aload_n 0, 1) := by decide +kernel
theorem dX7_putRight_25 : decode cX7_putRight 25 = .ok (.getfield 13, 3) := by decide +kernel
theorem dX7_putRight_28 : decode cX7_putRight 28 = .ok (.iload_n 2, 1) := by decide +kernel
theorem dX7_putRight_29 : decode cX7_putRight 29 = .ok (.invokevirtual 31, 3) := by decide +kernel
theorem dX7_putRight_32 : decode cX7_putRight 32 = .ok (.invokevirtual 35, 3) := by decide +kernel
theorem dX7_putRight_35 : decode cX7_putRight 35 = .ok (.iinc 2 1, 3) := by decide +kernel
theorem dX7_putRight_38 : decode cX7_putRight 38 = .ok (.goto (-29), 3) := by decide +kernel
theorem dX7_putRight_41 : decode cX7_putRight 41 = .ok (.aload_n 0, 1) := by decide +kernel
theorem dX7_putRight_42 : decode cX7_putRight 42 = .ok (.aload_n 0, 1) := by decide +kernel
theorem dX7_putRight_43 : decode cX7_putRight 43 = .ok (.getfield 17, 3) := by decide +kernel
theorem dX7_putRight_46 : decode cX7_putRight 46 = .ok (.invokevirtual 39, 3) := by decide +kernel
theorem dX7_putRight_49 : decode cX7_putRight 49 = .ok (.putfield 7, 3) := by decide +kernel
theorem dX7_putRight_52 : decode cX7_putRight 52 = .ok (.aload_n 0, 1) := by decide +kernel
theorem dX7_putRight_53 : decode cX7_putRight 53 = .ok (.getfield 17, 3) := by decide +kernel
theorem dX7_putRight_56 : decode cX7_putRight 56 = .ok (.invokevirtual 21, 3) := by decide +kernel
theorem dX7_putRight_59 : decode cX7_putRight 59 = .ok (.aload_n 0, 1) := by decide +kernel
theorem dX7_putRight_60 : decode cX7_putRight 60 = .ok (.iconst 0, 1) := by decide +kernel
theorem dX7_putRight_61 : decode cX7_putRight 61 = .ok (.iconst 0, 1) := by decide +kernel
theorem dX7_putRight_62 : decode cX7_putRight 62 = .ok (.iload_n 1, 1) := by decide +kernel
theorem dX7_putRight_63 : decode cX7_putRight 63 = .ok (.invokevirtual 43, 3) := by decide +kernel
theorem dX7_putRight_66 : decode cX7_putRight 66 = .ok (.aload_n 0, 1) := by decide +kernel
theorem dX7_putRight_67 : decode cX7_putRight 67 = .ok (.getfield 7, 3) := by decide +kernel
theorem dX7_putRight_70 : decode cX7_putRight 70 = .ok (.ireturn, 1) := by decide +kernel
theorem dX7_walk_0 : decode cX7_walk 0 = .ok (.aload_n 0, 1) := by decide +kernel
theorem dX7_walk_1 : decode cX7_walk 1 = .ok (.getfield 17, 3) := by decide +kernel
theorem dX7_walk_4 : decode cX7_walk 4 = .ok (.invokevirtual 39, 3) := by decide +kernel
theorem dX7_walk_7 : decode cX7_walk 7 = .ok (.aload_n 0, 1) := by decide +kernel
theorem dX7_walk_8 : decode cX7_walk 8 = .ok (.getfield 7, 3) := by decide +kernel
theorem dX7_walk_11 : decode cX7_walk 11 = .ok (.if_icmp .lt 4, 3) := by decide +kernel
theorem dX7_walk_14 : decode cX7_walk 14 = .ok (.return_, 1) := by decide +kernel
theorem dX7_walk_15 : decode cX7_walk 15 = .ok (.iload_n 1, 1) := by decide +kernel
theorem dX7_walk_16 : decode cX7_walk 16 = .ok (.aload_n 0, 1) := by decide +kernel
theorem dX7_walk_17 : decode cX7_walk 17 = .ok (.getfield 13, 3) := by decide +kernel
theorem dX7_walk_20 : decode cX7_walk 20 = .ok (.getfield 26, 3) := by decide +kernel
theorem dX7_walk_23 : decode cX7_walk 23 = .ok (.if_icmp .lt 15, 3) := by decide +kernel
theorem dX7_walk_26 : decode cX7_walk 26 = .ok (.aload_n 0, 1) := by decide +kernel
theorem dX7_walk_27 : decode cX7_walk 27 = .ok (.aload_n 0, 1) := by decide +kernel
theorem dX7_walk_28 : decode cX7_walk 28 = .ok (.getfield 17, 3) := by decide +kernel
theorem dX7_walk_31 : decode cX7_walk 31 = .ok (.invokevirtual 39, 3) := by decide +kernel
theorem dX7_walk_34 : decode cX7_walk 34 = .ok (.putfield 7, 3) := by decide +kernel
theorem dX7_walk_37 : decode cX7_walk 37 = .ok (.return_, 1) := by decide +kernel
theorem dX7_walk_38 : decode cX7_walk 38 = .ok (.iconst 0, 1) := by decide +kernel
theorem dX7_walk_39 : decode cX7_walk 39 = .ok (.istore 4, 2) := by decide +kernel
theorem dX7_walk_41 : decode cX7_walk 41 = .ok (.iconst 0, 1) := by decide +kernel
theorem dX7_walk_42 : decode cX7_walk 42 = .ok (.istore 5, 2) := by decide +kernel
theorem dX7_walk_44 : decode cX7_walk 44 = .ok (.iload 5, 2) := by decide +kernel
theorem dX7_walk_46 : decode cX7_walk 46 = .ok (.aload_n 0, 1) := by decide +kernel
theorem dX7_walk_47 : decode cX7_walk 47 = .ok (.getfield 13, 3) := by decide +kernel
theorem dX7_walk_50 : decode cX7_walk 50 = .ok (.getfield 26, 3) := by decide +kernel
theorem dX7_walk_53 : decode cX7_walk 53 = .ok (.if_icmp .ge 64, 3) := by decide +kernel
theorem dX7_walk_56 : decode cX7_walk 56 = .ok (.iload 4, 2) := by decide +kernel
theorem dX7_walk_58 : decode cX7_walk 58 = .ok (.iload_n 3, 1) := by decide +kernel
theorem dX7_walk_59 : decode cX7_walk 59 = .ok (.if_icmp .gt 58, 3) := by decide +kernel
theorem dX7_walk_62 : decode cX7_walk 62 = .ok (.iload_n 2, 1) := by decide +kernel
theorem dX7_walk_63 : decode cX7_walk 63 = .ok (.iload 5, 2) := by decide +kernel
theorem dX7_walk_65 : decode cX7_walk 65 = .ok (.ishr, 1) := by decide +kernel
theorem dX7_walk_66 : decode cX7_walk 66 = .ok (.iconst 1, 1) := by decide +kernel
theorem dX7_walk_67 : decode cX7_walk 67 = .ok (.iand, 1) := by decide +kernel
theorem dX7_walk_68 : decode cX7_walk 68 = .ok (.ifCond .ne 43, 3) := by decide +kernel
theorem dX7_walk_71 : decode cX7_walk 71 = .ok (.aload_n 0, 1) := by decide +kernel
theorem dX7_walk_72 : decode cX7_walk 72 = .ok (.getfield 17, 3) := by decide +kernel
theorem dX7_walk_75 : decode cX7_walk 75 = .ok (.aload_n 0, 1) := by decide +kernel
theorem dX7_walk_76 : decode cX7_walk 76 = .ok (.getfield 13, 3) := by decide +kernel
theorem dX7_walk_79 : decode cX7_walk 79 = .ok (.iload 5, 2) := by decide +kernel
theorem dX7_walk_81 : decode cX7_walk 81 = .ok (.invokevirtual 31, 3) := by decide +kernel
theorem dX7_walk_84 : decode cX7_walk 84 = .ok (.invokevirtual 35, 3) := by decide +kernel
theorem dX7_walk_87 : decode cX7_walk 87 = .ok (.aload_n 0, 1) := by decide +kernel
theorem dX7_walk_88 : decode cX7_walk 88 = .ok (.iload_n 1, 1) := by decide +kernel
theorem dX7_walk_89 : decode cX7_walk 89 = .ok (.iconst 1, 1) := by decide +kernel
theorem dX7_walk_90 : decode cX7_walk 90 = .ok (.iadd, 1) := by decide +kernel
theorem dX7_walk_91 : decode cX7_walk 91 = .ok (.iload_n 2, 1) := by decide +kernel
theorem dX7_walk_92 : decode cX7_walk 92 = .ok (.iconst 1, 1) := by decide +kernel
theorem dX7_walk_93 : decode cX7_walk 93 = .ok (.iload 5, 2) := by decide +kernel
theorem dX7_walk_95 : decode cX7_walk 95 = .ok (.ishl, 1) := by decide +kernel
theorem dX7_walk_96 : decode cX7_walk 96 = .ok (.ior, 1) := by decide +kernel
theorem dX7_walk_97 : decode cX7_walk 97 = .ok (.iload_n 3, 1) := by decide +kernel
theorem dX7_walk_98 : decode cX7_walk 98 = .ok (.invokevirtual 43, 3) := by decide +kernel
theorem dX7_walk_101 : decode cX7_walk 101 = .ok (.aload_n 0, 1) := by decide +kernel
theorem dX7_walk_102 : decode cX7_walk 102 = .ok (.getfield 17, 3) := by decide +kernel
theorem dX7_walk_105 : decode cX7_walk 105 = .ok (.invokevirtual 47, 3) := by decide +kernel
theorem dX7_walk_108 : decode cX7_walk 108 = .ok (.iinc 4 1, 3) := by decide +kernel
theorem dX7_walk_111 : decode cX7_walk 111 = .ok (.iinc 5 1, 3) := by decide +kernel
theorem dX7_walk_114 : decode cX7_walk 114 = .ok (.goto (-70), 3) := by decide +kernel
theorem dX7_walk_117 : decode cX7_walk 117 = .ok (.return_, 1) := by decide +kernel
theorem dJ6_bitCount_0f7a4_0 : decode cJ6_bitCount_0f7a4 0 = .ok (.iload_n 0, 1) := by decide +kernel
theorem dJ6_bitCount_0f7a4_1 : decode cJ6_bitCount_0f7a4 1 = .ok (.iload_n 0, 1) := by decide +kernel
theorem dJ6_bitCount_0f7a4_2 : decode cJ6_bitCount_0f7a4 2 = .ok (.iconst 1, 1) := by decide +kernel
theorem dJ6_bitCount_0f7a4_3 : decode cJ6_bitCount_0f7a4 3 = .ok (.iushr, 1) := by decide +kernel
theorem dJ6_bitCount_0f7a4_4 : decode cJ6_bitCount_0f7a4 4 = .ok (.ldc_w 265, 3) := by decide +kernel
theorem dJ6_bitCount_0f7a4_7 : decode cJ6_bitCount_0f7a4 7 = .ok (.iand, 1) := by decide +kernel
theorem dJ6_bitCount_0f7a4_8 : decode cJ6_bitCount_0f7a4 8 = .ok (.isub, 1) := by decide +kernel
theorem dJ6_bitCount_0f7a4_9 : decode cJ6_bitCount_0f7a4 9 = .ok (.istore_n 0, 1) := by decide +kernel
theorem dJ6_bitCount_0f7a4_10 : decode cJ6_bitCount_0f7a4 10 = .ok (.iload_n 0, 1) := by decide +kernel
theorem dJ6_bitCount_0f7a4_11 : decode cJ6_bitCount_0f7a4 11 = .ok (.ldc_w 266, 3) := by decide +kernel
theorem dJ6_bitCount_0f7a4_14 : decode cJ6_bitCount_0f7a4 14 = .ok (.iand, 1) := by decide +kernel
theorem dJ6_bitCount_0f7a4_15 : decode cJ6_bitCount_0f7a4 15 = .ok (.iload_n 0, 1) := by decide +kernel
theorem dJ6_bitCount_0f7a4_16 : decode cJ6_bitCount_0f7a4 16 = .ok (.iconst 2, 1) := by decide +kernel
theorem dJ6_bitCount_0f7a4_17 : decode cJ6_bitCount_0f7a4 17 = .ok (.iushr, 1) := by decide +kernel
theorem dJ6_bitCount_0f7a4_18 : decode cJ6_bitCount_0f7a4 18 = .ok (.ldc_w 266, 3) := by decide +kernel
theorem dJ6_bitCount_0f7a4_21 : decode cJ6_bitCount_0f7a4 21 = .ok (.iand, 1) := by decide +kernel
theorem dJ6_bitCount_0f7a4_22 : decode cJ6_bitCount_0f7a4 22 = .ok (.iadd, 1) := by decide +kernel
theorem dJ6_bitCount_0f7a4_23 : decode cJ6_bitCount_0f7a4 23 = .ok (.istore_n 0, 1) := by decide +kernel
theorem dJ6_bitCount_0f7a4_24 : decode cJ6_bitCount_0f7a4 24 = .ok (.iload_n 0, 1) := by decide +kernel
theorem dJ6_bitCount_0f7a4_25 : decode cJ6_bitCount_0f7a4 25 = .ok (.iload_n 0, 1) := by decide +kernel
theorem dJ6_bitCount_0f7a4_26 : decode cJ6_bitCount_0f7a4 26 = .ok (.iconst 4, 1) := by decide +kernel
theorem dJ6_bitCount_0f7a4_27 : decode cJ6_bitCount_0f7a4 27 = .ok (.iushr, 1) := by decide +kernel
theorem dJ6_bitCount_0f7a4_28 : decode cJ6_bitCount_0f7a4 28 = .ok (.iadd, 1) := by decide +kernel
theorem dJ6_bitCount_0f7a4_29 : decode cJ6_bitCount_0f7a4 29 = .ok (.ldc_w 267, 3) := by decide +kernel
theorem dJ6_bitCount_0f7a4_32 : decode cJ6_bitCount_0f7a4 32 = .ok (.iand, 1) := by decide +kernel
theorem dJ6_bitCount_0f7a4_33 : decode cJ6_bitCount_0f7a4 33 = .ok (.istore_n 0, 1) := by decide +kernel
theorem dJ6_bitCount_0f7a4_34 : decode cJ6_bitCount_0f7a4 34 = .ok (.iload_n 0, 1) := by decide +kernel
theorem dJ6_bitCount_0f7a4_35 : decode cJ6_bitCount_0f7a4 35 = .ok (.iload_n 0, 1) := by decide +kernel
theorem dJ6_bitCount_0f7a4_36 : decode cJ6_bitCount_0f7a4 36 = .ok (.bipush 8, 2) := by decide +kernel
theorem dJ6_bitCount_0f7a4_38 : decode cJ6_bitCount_0f7a4 38 = .ok (.iushr, 1) := by decide +kernel
theorem dJ6_bitCount_0f7a4_39 : decode cJ6_bitCount_0f7a4 39 = .ok (.iadd, 1) := by decide +kernel
theorem dJ6_bitCount_0f7a4_40 : decode cJ6_bitCount_0f7a4 40 = .ok (.istore_n 0, 1) := by decide +kernel
theorem dJ6_bitCount_0f7a4_41 : decode cJ6_bitCount_0f7a4 41 = .ok (.iload_n 0, 1) := by decide +kernel
theorem dJ6_bitCount_0f7a4_42 : decode cJ6_bitCount_0f7a4 42 = .ok (.iload_n 0, 1) := by decide +kernel
theorem dJ6_bitCount_0f7a4_43 : decode cJ6_bitCount_0f7a4 43 = .ok (.bipush 16, 2) := by decide +kernel
theorem dJ6_bitCount_0f7a4_45 : decode cJ6_bitCount_0f7a4 45 = .ok (.iushr, 1) := by decide +kernel
theorem dJ6_bitCount_0f7a4_46 : decode cJ6_bitCount_0f7a4 46 = .ok (.iadd, 1) := by decide +kernel
theorem dJ6_bitCount_0f7a4_47 : decode cJ6_bitCount_0f7a4 47 = .ok (.istore_n 0, 1) := by decide +kernel
theorem dJ6_bitCount_0f7a4_48 : decode cJ6_bitCount_0f7a4 48 = .ok (.iload_n 0, 1) := by decide +kernel
theorem dJ6_bitCount_0f7a4_49 : decode cJ6_bitCount_0f7a4 49 = .ok (.bipush 63, 2) := by decide +kernel
theorem dJ6_bitCount_0f7a4_51 : decode cJ6_bitCount_0f7a4 51 = .ok (.iand, 1) := by decide +kernel
theorem dJ6_bitCount_0f7a4_52 : decode cJ6_bitCount_0f7a4 52 = .ok (.ireturn, 1) := by decide +kernel
theorem dJ9_max_7cf53_0 : decode cJ9_max_7cf53 0 = .ok (.iload_n 0, 1) := by decide +kernel
theorem dJ9_max_7cf53_1 : decode cJ9_max_7cf53 1 = .ok (.iload_n 1, 1) := by decide +kernel
theorem dJ9_max_7cf53_2 : decode cJ9_max_7cf53 2 = .ok (.if_icmp .lt 7, 3) := by decide +kernel
theorem dJ9_max_7cf53_5 : decode cJ9_max_7cf53 5 = .ok (.iload_n 0, 1) := by decide +kernel
theorem dJ9_max_7cf53_6 : decode cJ9_max_7cf53 6 = .ok (.goto 4, 3) := by decide +kernel
theorem dJ9_max_7cf53_9 : decode cJ9_max_7cf53 9 = .ok (.iload_n 1, 1) := by decide +kernel
theorem dJ9_max_7cf53_10 : decode cJ9_max_7cf53 10 = .ok (.ireturn, 1) := by decide +kernel
theorem dJ9_min_7cf53_0 : decode cJ9_min_7cf53 0 = .ok (.iload_n 0, 1) := by decide +kernel
theorem dJ9_min_7cf53_1 : decode cJ9_min_7cf53 1 = .ok (.iload_n 1, 1) := by decide +kernel
theorem dJ9_min_7cf53_2 : decode cJ9_min_7cf53 2 = .ok (.if_icmp .gt 7, 3) := by decide +kernel
theorem dJ9_min_7cf53_5 : decode cJ9_min_7cf53 5 = .ok (.iload_n 0, 1) := by decide +kernel
theorem dJ9_min_7cf53_6 : decode cJ9_min_7cf53 6 = .ok (.goto 4, 3) := by decide +kernel
theorem dJ9_min_7cf53_9 : decode cJ9_min_7cf53 9 = .ok (.iload_n 1, 1) := by decide +kernel
theorem dJ9_min_7cf53_10 : decode cJ9_min_7cf53 10 = .ok (.ireturn, 1) := by decide +kernel
end
section
theorem dX6_init_0 : decode cX6_init 0 = .ok (.aload_n 0, 1) := by decide +kernel
theorem dX6_init_1 : decode cX6_init 1 = .ok (.invokespecial 3, 3) := by decide +kernel
theorem dX6_init_4 : decode cX6_init 4 = .ok (.aload_n 0, 1) := by decide +kernel
theorem dX6_init_5 : decode cX6_init 5 = .ok (.bipush 9, 2) := by decide +kernel
theorem dX6_init_7 : decode cX6_init 7 = .ok (.newarray .int, 2) := by decide +kernel
theorem dX6_init_9 : decode cX6_init 9 = .ok (.putfield 9, 3) := by decide +kernel
theorem dX6_init_12 : decode cX6_init 12 = .ok (.aload_n 0, 1) := by decide +kernel
theorem dX6_init_13 : decode cX6_init 13 = .ok (.bipush 10, 2) := by decide +kernel
theorem dX6_init_15 : decode cX6_init 15 = .ok (.newarray .int, 2) := by decide +kernel
theorem dX6_init_17 : decode cX6_init 17 = .ok (.putfield 15, 3) := by decide +kernel
theorem dX6_init_20 : decode cX6_init 20 = .ok (.aload_n 0, 1) := by decide +kernel
theorem dX6_init_21 : decode cX6_init 21 = .ok (.bipush 10, 2) := by decide +kernel
theorem dX6_init_23 : decode cX6_init 23 = .ok (.newarray .int, 2) := by decide +kernel
theorem dX6_init_25 : decode cX6_init 25 = .ok (.putfield 18, 3) := by decide +kernel
theorem dX6_init_28 : decode cX6_init 28 = .ok (.aload_n 0, 1) := by decide +kernel
theorem dX6_init_29 : decode cX6_init 29 = .ok (.iconst 5, 1) := by decide +kernel
theorem dX6_init_30 : decode cX6_init 30 = .ok (.newarray .int, 2) := by decide +kernel
theorem dX6_init_32 : decode cX6_init 32 = .ok (.putfield 21, 3) := by decide +kernel
theorem dX6_init_35 : decode cX6_init 35 = .ok (.aload_n 0, 1) := by decide +kernel
theorem dX6_init_36 : decode cX6_init 36 = .ok (.iconst 0, 1) := by decide +kernel
theorem dX6_init_37 : decode cX6_init 37 = .ok (.putfield 24, 3) := by decide +kernel
theorem dX6_init_40 : decode cX6_init 40 = .ok (.aload_n 0, 1) := by decide +kernel
theorem dX6_init_41 : decode cX6_init 41 = .ok (.aload_n 1, 1) := by decide +kernel
theorem dX6_init_42 : decode cX6_init 42 = .ok (.putfield 28, 3) := by decide +kernel
theorem dX6_init_45 : decode cX6_init 45 = .ok (.return_, 1) := by decide +kernel
theorem dX6_start_0 : decode cX6_start 0 = .ok (.aload_n 0, 1) := by decide +kernel
theorem dX6_start_1 : decode cX6_start 1 = .ok (.iconst 0, 1) := by decide +kernel
theorem dX6_start_2 : decode cX6_start 2 = .ok (.putfield 24, 3) := by decide +kernel
theorem dX6_start_5 : decode cX6_start 5 = .ok (.aload_n 0, 1) := by decide +kernel
theorem dX6_start_6 : decode cX6_start 6 = .ok (.getfield 28, 3) := by decide +kernel
theorem dX6_start_9 : decode cX6_start 9 = .ok (.getfield 32, 3) := by decide +kernel
theorem dX6_start_12 : decode cX6_start 12 = .ok (.iconst 0, 1) := by decide +kernel
theorem dX6_start_13 : decode cX6_start 13 = .ok (.aload_n 0, 1) := by decide +kernel
theorem dX6_start_14 : decode cX6_start 14 = .ok (.getfield 21, 3) := by decide +kernel
theorem dX6_start_17 : decode cX6_start 17 = .ok (.iconst 0, 1) := by decide +kernel
theorem dX6_start_18 : decode cX6_start 18 = .ok (.iconst 5, 1) := by decide +kernel
theorem dX6_start_19 : decode cX6_start 19 = .ok (.invokestatic 37, 3) := by decide +kernel
theorem dX6_start_22 : decode cX6_start 22 = .ok (.return_, 1) := by decide +kernel
theorem dX6_put_0 : decode cX6_put 0 = .ok (.iload_n 1, 1) := by decide +kernel
theorem dX6_put_1 : decode cX6_put 1 = .ok (.invokestatic 43, 3) := by decide +kernel
theorem dX6_put_4 : decode cX6_put 4 = .ok (.ifCond .eq 12, 3) := by decide +kernel
theorem dX6_put_7 : decode cX6_put 7 = .ok (.aload_n 0, 1) := by decide +kernel
theorem dX6_put_8 : decode cX6_put 8 = .ok (.getfield 24, 3) := by decide +kernel
theorem dX6_put_11 : decode cX6_put 11 = .ok (.bipush 9, 2) := by decide +kernel
theorem dX6_put_13 : decode cX6_put 13 = .ok (.if_icmp .lt 4, 3) := by decide +kernel
theorem dX6_put_16 : decode cX6_put 16 = .ok (.return_, 1) := by decide +kernel
theorem dX6_put_17 : decode cX6_put 17 = .ok (.aload_n 0, 1) := by decide +kernel
theorem dX6_put_18 : decode cX6_put 18 = .ok (.iload_n 1, 1) := by decide +kernel
theorem dX6_put_19 : decode cX6_put 19 = .ok (.invokevirtual 47, 3) := by decide +kernel
theorem dX6_put_22 : decode cX6_put 22 = .ok (.istore_n 2, 1) := by decide +kernel
theorem dX6_put_23 : decode cX6_put 23 = .ok (.aload_n 0, 1) := by decide +kernel
theorem dX6_put_24 : decode cX6_put 24 = .ok (.getfield 18, 3) := by decide +kernel
theorem dX6_put_27 : decode cX6_put 27 = .ok (.aload_n 0, 1) := by decide +kernel
theorem dX6_put_28 : decode cX6_put 28 = .ok (.getfield 24, 3) := by decide +kernel
theorem dX6_put_31 : decode cX6_put 31 = .ok (.iaload, 1) := by decide +kernel
theorem dX6_put_32 : decode cX6_put 32 = .ok (.istore_n 3, 1) := by decide +kernel
theorem dX6_put_33 : decode cX6_put 33 = .ok (.aload_n 0, 1) := by decide +kernel
theorem dX6_put_34 : decode cX6_put 34 = .ok (.getfield 9, 3) := by decide +kernel
theorem dX6_put_37 : decode cX6_put 37 = .ok (.aload_n 0, 1) := by decide +kernel
theorem dX6_put_38 : decode cX6_put 38 = .ok (.getfield 24, 3) := by decide +kernel
theorem dX6_put_41 : decode cX6_put 41 = .ok (.iload_n 1, 1) := by decide +kernel
theorem dX6_put_42 : decode cX6_put 42 = .ok (.iastore, 1) := by decide +kernel
theorem dX6_put_43 : decode cX6_put 43 = .ok (.aload_n 0, 1) := by decide +kernel
theorem dX6_put_44 : decode cX6_put 44 = .ok (.getfield 21, 3) := by decide +kernel
theorem dX6_put_47 : decode cX6_put 47 = .ok (.iload_n 1, 1) := by decide +kernel
theorem dX6_put_48 : decode cX6_put 48 = .ok (.dup2, 1) := by decide +kernel
theorem dX6_put_49 : decode cX6_put 49 = .ok (.iaload, 1) := by decide +kernel
theorem dX6_put_50 : decode cX6_put 50 = .ok (.iconst 1, 1) := by decide +kernel
theorem dX6_put_51 : decode cX6_put 51 = .ok (.isub, 1) := by decide +kernel
theorem dX6_put_52 : decode cX6_put 52 = .ok (.iastore, 1) := by decide +kernel
theorem dX6_put_53 : decode cX6_put 53 = .ok (.aload_n 0, 1) := by decide +kernel
theorem dX6_put_54 : decode cX6_put 54 = .ok (.dup, 1) := by decide +kernel
theorem dX6_put_55 : decode cX6_put 55 = .ok (.getfield 24, 3) := by decide +kernel
theorem dX6_put_58 : decode cX6_put 58 = .ok (.iconst 1, 1) := by decide +kernel
theorem dX6_put_59 : decode cX6_put 59 = .ok (.iadd, 1) := by decide +kernel
theorem dX6_put_60 : decode cX6_put 60 = .ok (.putfield 24, 3) := by decide +kernel
theorem dX6_put_63 : decode cX6_put 63 = .ok (.aload_n 0, 1) := by decide +kernel
theorem dX6_put_64 : decode cX6_put 64 = .ok (.getfield 15, 3) := by decide +kernel
theorem dX6_put_67 : decode cX6_put 67 = .ok (.aload_n 0, 1) := by decide +kernel
theorem dX6_put_68 : decode cX6_put 68 = .ok (.getfield 24, 3) := by decide +kernel
theorem dX6_put_71 : decode cX6_put 71 = .ok (.iload_n 2, 1) := by decide +kernel
theorem dX6_put_72 : decode cX6_put 72 = .ok (.iastore, 1) := by decide +kernel
theorem dX6_put_73 : decode cX6_put 73 = .ok (.aload_n 0, 1) := by decide +kernel
theorem dX6_put_74 : decode cX6_put 74 = .ok (.getfield 18, 3) := by decide +kernel
theorem dX6_put_77 : decode cX6_put 77 = .ok (.aload_n 0, 1) := by decide +kernel
theorem dX6_put_78 : decode cX6_put 78 = .ok (.getfield 24, 3) := by decide +kernel
theorem dX6_put_81 : decode cX6_put 81 = .ok (.iload_n 3, 1) := by decide +kernel
theorem dX6_put_82 : decode cX6_put 82 = .ok (.aload_n 0, 1) := by decide +kernel
theorem dX6_put_83 : decode cX6_put 83 = .ok (.getfield 28, 3) := by decide +kernel
theorem dX6_put_86 : decode cX6_put 86 = .ok (.iload_n 2, 1) := by decide +kernel
theorem dX6_put_87 : decode cX6_put 87 = .ok (.aload_n 0, 1) := by decide +kernel
theorem dX6_put_88 : decode cX6_put 88 = .ok (.getfield 24, 3) := by decide +kernel
theorem dX6_put_91 : decode cX6_put 91 = .ok (.invokevirtual 51, 3) := by decide +kernel
theorem dX6_put_94 : decode cX6_put 94 = .ok (.iadd, 1) := by decide +kernel
theorem dX6_put_95 : decode cX6_put 95 = .ok (.iastore, 1) := by decide +kernel
theorem dX6_put_96 : decode cX6_put 96 = .ok (.return_, 1) := by decide +kernel
theorem dX6_takeRule_0 : decode cX6_takeRule 0 = .ok (.aload_n 0, 1) := by decide +kernel
theorem dX6_takeRule_1 : decode cX6_takeRule 1 = .ok (.invokevirtual 55, 3) := by decide +kernel
theorem dX6_takeRule_4 : decode cX6_takeRule 4 = .ok (.iconst 0, 1) := by decide +kernel
theorem dX6_takeRule_5 : decode cX6_takeRule 5 = .ok (.istore_n 2, 1) := by decide +kernel
theorem dX6_takeRule_6 : decode cX6_takeRule 6 = .ok (.iload_n 2, 1) := by decide +kernel
theorem dX6_takeRule_7 : decode cX6_takeRule 7 = .ok (.iload_n 1, 1) := by decide +kernel
theorem dX6_takeRule_8 : decode cX6_takeRule 8 = .ok (.if_icmp .ge 17, 3) := by decide +kernel
theorem dX6_takeRule_11 : decode cX6_takeRule 11 = .ok (.aload_n 0, 1) := by decide +kernel
theorem dX6_takeRule_12 : decode cX6_takeRule 12 = .ok (.aload_n 0, 1) := by decide +kernel
theorem dX6_takeRule_13 : decode cX6_takeRule 13 = .ok (.invokevirtual 58, 3) := by decide +kernel
theorem dX6_takeRule_16 : decode cX6_takeRule 16 = .ok (.invokevirtual 62, 3) := by decide +kernel
theorem dX6_takeRule_19 : decode cX6_takeRule 19 = .ok (.iinc 2 1, 3) := by decide +kernel
theorem dX6_takeRule_22 : decode cX6_takeRule 22 = .ok (.goto (-16), 3) := by decide +kernel
theorem dX6_takeRule_25 : decode cX6_takeRule 25 = .ok (.return_, 1) := by decide +kernel
theorem dX6_drop_0 : decode cX6_drop 0 = .ok (.aload_n 0, 1) := by decide +kernel
theorem dX6_drop_1 : decode cX6_drop 1 = .ok (.getfield 24, 3) := by decide +kernel
theorem dX6_drop_4 : decode cX6_drop 4 = .ok (.ifCond .le 31, 3) := by decide +kernel
theorem dX6_drop_7 : decode cX6_drop 7 = .ok (.aload_n 0, 1) := by decide +kernel
theorem dX6_drop_8 : decode cX6_drop 8 = .ok (.dup, 1) := by decide +kernel
theorem dX6_drop_9 : decode cX6_drop 9 = .ok (.getfield 24, 3) := by decide +kernel
theorem dX6_drop_12 : decode cX6_drop 12 = .ok (.iconst 1, 1) := by decide +kernel
theorem dX6_drop_13 : decode cX6_drop 13 = .ok (.isub, 1) := by decide +kernel
theorem dX6_drop_14 : decode cX6_drop 14 = .ok (.putfield 24, 3) := by decide +kernel
theorem dX6_drop_17 : decode cX6_drop 17 = .ok (.aload_n 0, 1) := by decide +kernel
theorem dX6_drop_18 : decode cX6_drop 18 = .ok (.getfield 21, 3) := by decide +kernel
theorem dX6_drop_21 : decode cX6_drop 21 = .ok (.aload_n 0, 1) := by decide +kernel
theorem dX6_drop_22 : decode cX6_drop 22 = .ok (.getfield 9, 3) := by decide +kernel
theorem dX6_drop_25 : decode cX6_drop 25 = .ok (.aload_n 0, 1) := by decide +kernel
theorem dX6_drop_26 : decode cX6_drop 26 = .ok (.getfield 24, 3) := by decide +kernel
theorem dX6_drop_29 : decode cX6_drop 29 = .ok (.iaload, 1) := by decide +kernel
theorem dX6_drop_30 : decode cX6_drop 30 = .ok (.dup2, 1) := by decide +kernel
theorem dX6_drop_31 : decode cX6_drop 31 = .ok (.iaload, 1) := by decide +kernel
theorem dX6_drop_32 : decode cX6_drop 32 = .ok (.iconst 1, 1) := by decide +kernel
theorem dX6_drop_33 : decode cX6_drop 33 = .ok (.iadd, 1) := by decide +kernel
theorem dX6_drop_34 : decode cX6_drop 34 = .ok (.iastore, 1) := by decide +kernel
theorem dX6_drop_35 : decode cX6_drop 35 = .ok (.return_, 1) := by decide +kernel
theorem dX6_breaks_0 : decode cX6_breaks 0 = .ok (.aload_n 0, 1) := by decide +kernel
theorem dX6_breaks_1 : decode cX6_breaks 1 = .ok (.getfield 18, 3) := by decide +kernel
theorem dX6_breaks_4 : decode cX6_breaks 4 = .ok (.aload_n 0, 1) := by decide +kernel
theorem dX6_breaks_5 : decode cX6_breaks 5 = .ok (.getfield 24, 3) := by decide +kernel
theorem dX6_breaks_8 : decode cX6_breaks 8 = .ok (.iaload, 1) := by decide +kernel
theorem dX6_breaks_9 : decode cX6_breaks 9 = .ok (.ireturn, 1) := by decide +kernel
theorem dX6_firstBreak_0 : decode cX6_firstBreak 0 = .ok (.iconst 0, 1) := by decide +kernel
theorem dX6_firstBreak_1 : decode cX6_firstBreak 1 = .ok (.istore_n 1, 1) := by decide +kernel
theorem dX6_firstBreak_2 : decode cX6_firstBreak 2 = .ok (.iload_n 1, 1) := by decide +kernel
theorem dX6_firstBreak_3 : decode cX6_firstBreak 3 = .ok (.aload_n 0, 1) := by decide +kernel
theorem dX6_firstBreak_4 : decode cX6_firstBreak 4 = .ok (.getfield 24, 3) := by decide +kernel
theorem dX6_firstBreak_7 : decode cX6_firstBreak 7 = .ok (.if_icmp .ge 22, 3) := by decide +kernel
theorem dX6_firstBreak_10 : decode cX6_firstBreak 10 = .ok (.aload_n 0, 1) := by decide +kernel
theorem dX6_firstBreak_11 : decode cX6_firstBreak 11 = .ok (.getfield 18, 3) := by decide +kernel
theorem dX6_firstBreak_14 : decode cX6_firstBreak 14 = .ok (.iload_n 1, 1) := by decide +kernel
theorem dX6_firstBreak_15 : decode cX6_firstBreak 15 = .ok (.iconst 1, 1) := by decide +kernel
theorem dX6_firstBreak_16 : decode cX6_firstBreak 16 = .ok (.iadd, 1) := by decide +kernel
theorem dX6_firstBreak_17 : decode cX6_firstBreak 17 = .ok (.iaload, 1) := by decide +kernel
theorem dX6_firstBreak_18 : decode cX6_firstBreak 18 = .ok (.ifCond .le 5, 3) := by decide +kernel
theorem dX6_firstBreak_21 : decode cX6_firstBreak 21 = .ok (.iload_n 1, 1) := by decide +kernel
theorem dX6_firstBreak_22 : decode cX6_firstBreak 22 = .ok (.ireturn, 1) := by decide +kernel
theorem dX6_firstBreak_23 : decode cX6_firstBreak 23 = .ok (.iinc 1 1, 3) := by decide +kernel
theorem dX6_firstBreak_26 : decode cX6_firstBreak 26 = .ok (.goto (-24), 3) := by decide +kernel
theorem dX6_firstBreak_29 : decode cX6_firstBreak 29 = .ok (.bipush (-6), 2) := by decide +kernel
theorem dX6_firstBreak_31 : decode cX6_firstBreak 31 = .ok (.ireturn, 1) := by decide +kernel
theorem dX6_isOrder_0 : decode cX6_isOrder 0 = .ok (.iconst 0, 1) := by decide +kernel
theorem dX6_isOrder_1 : decode cX6_isOrder 1 = .ok (.istore_n 1, 1) := by decide +kernel
theorem dX6_isOrder_2 : decode cX6_isOrder 2 = .ok (.iload_n 1, 1) := by decide +kernel
theorem dX6_isOrder_3 : decode cX6_isOrder 3 = .ok (.iconst 5, 1) := by decide +kernel
theorem dX6_isOrder_4 : decode cX6_isOrder 4 = .ok (.if_icmp .ge 20, 3) := by decide +kernel
theorem dX6_isOrder_7 : decode cX6_isOrder 7 = .ok (.aload_n 0, 1) := by decide +kernel
theorem dX6_isOrder_8 : decode cX6_isOrder 8 = .ok (.getfield 21, 3) := by decide +kernel
theorem dX6_isOrder_11 : decode cX6_isOrder 11 = .ok (.iload_n 1, 1) := by decide +kernel
theorem dX6_isOrder_12 : decode cX6_isOrder 12 = .ok (.iaload, 1) := by decide +kernel
theorem dX6_isOrder_13 : decode cX6_isOrder 13 = .ok (.ifCond .eq 5, 3) := by decide +kernel
theorem dX6_isOrder_16 : decode cX6_isOrder 16 = .ok (.iconst 0, 1) := by decide +kernel
theorem dX6_isOrder_17 : decode cX6_isOrder 17 = .ok (.ireturn, 1) := by decide +kernel
theorem dX6_isOrder_18 : decode cX6_isOrder 18 = .ok (.iinc 1 1, 3) := by decide +kernel
theorem dX6_isOrder_21 : decode cX6_isOrder 21 = .ok (.goto (-19), 3) := by decide +kernel
theorem dX6_isOrder_24 : decode cX6_isOrder 24 = .ok (.iconst 1, 1) := by decide +kernel
theorem dX6_isOrder_25 : decode cX6_isOrder 25 = .ok (.ireturn, 1) := by decide +kernel
theorem dX6_ruleClass_0 : decode cX6_ruleClass 0 = .ok (.bipush (-6), 2) := by decide +kernel
theorem dX6_ruleClass_2 : decode cX6_ruleClass 2 = .ok (.istore_n 1, 1) := by decide +kernel
theorem dX6_ruleClass_3 : decode cX6_ruleClass 3 = .ok (.iconst 0, 1) := by decide +kernel
theorem dX6_ruleClass_4 : decode cX6_ruleClass 4 = .ok (.istore_n 2, 1) := by decide +kernel
theorem dX6_ruleClass_5 : decode cX6_ruleClass 5 = .ok (.iconst 0, 1) := by decide +kernel
theorem dX6_ruleClass_6 : decode cX6_ruleClass 6 = .ok (.istore_n 3, 1) := by decide +kernel
theorem dX6_ruleClass_7 : decode cX6_ruleClass 7 = .ok (.iload_n 3, 1) := by decide +kernel
theorem dX6_ruleClass_8 : decode cX6_ruleClass 8 = .ok (.iconst 5, 1) := by decide +kernel
theorem dX6_ruleClass_9 : decode cX6_ruleClass 9 = .ok (.if_icmp .ge 94, 3) := by decide +kernel
theorem dX6_ruleClass_12 : decode cX6_ruleClass 12 = .ok (.aload_n 0, 1) := by decide +kernel
theorem dX6_ruleClass_13 : decode cX6_ruleClass 13 = .ok (.getfield 21, 3) := by decide +kernel
theorem dX6_ruleClass_16 : decode cX6_ruleClass 16 = .ok (.iload_n 3, 1) := by decide +kernel
theorem dX6_ruleClass_17 : decode cX6_ruleClass 17 = .ok (.iaload, 1) := by decide +kernel
theorem dX6_ruleClass_18 : decode cX6_ruleClass 18 = .ok (.ifCond .le 79, 3) := by decide +kernel
theorem dX6_ruleClass_21 : decode cX6_ruleClass 21 = .ok (.aload_n 0, 1) := by decide +kernel
theorem dX6_ruleClass_22 : decode cX6_ruleClass 22 = .ok (.getfield 28, 3) := by decide +kernel
theorem dX6_ruleClass_25 : decode cX6_ruleClass 25 = .ok (.aload_n 0, 1) := by decide +kernel
theorem dX6_ruleClass_26 : decode cX6_ruleClass 26 = .ok (.iload_n 3, 1) := by decide +kernel
theorem dX6_ruleClass_27 : decode cX6_ruleClass 27 = .ok (.invokevirtual 47, 3) := by decide +kernel
theorem dX6_ruleClass_30 : decode cX6_ruleClass 30 = .ok (.aload_n 0, 1) := by decide +kernel
theorem dX6_ruleClass_31 : decode cX6_ruleClass 31 = .ok (.getfield 24, 3) := by decide +kernel
theorem dX6_ruleClass_34 : decode cX6_ruleClass 34 = .ok (.iconst 1, 1) := by decide +kernel
theorem dX6_ruleClass_35 : decode cX6_ruleClass 35 = .ok (.iadd, 1) := by decide +kernel
theorem dX6_ruleClass_36 : decode cX6_ruleClass 36 = .ok (.invokevirtual 51, 3) := by decide +kernel
theorem dX6_ruleClass_39 : decode cX6_ruleClass 39 = .ok (.istore 4, 2) := by decide +kernel
theorem dX6_ruleClass_41 : decode cX6_ruleClass 41 = .ok (.iconst 4, 1) := by decide +kernel
theorem dX6_ruleClass_42 : decode cX6_ruleClass 42 = .ok (.aload_n 0, 1) := by decide +kernel
theorem dX6_ruleClass_43 : decode cX6_ruleClass 43 = .ok (.getfield 28, 3) := by decide +kernel
theorem dX6_ruleClass_46 : decode cX6_ruleClass 46 = .ok (.getfield 66, 3) := by decide +kernel
theorem dX6_ruleClass_49 : decode cX6_ruleClass 49 = .ok (.iload_n 3, 1) := by decide +kernel
theorem dX6_ruleClass_50 : decode cX6_ruleClass 50 = .ok (.iaload, 1) := by decide +kernel
theorem dX6_ruleClass_51 : decode cX6_ruleClass 51 = .ok (.invokestatic 69, 3) := by decide +kernel
theorem dX6_ruleClass_54 : decode cX6_ruleClass 54 = .ok (.isub, 1) := by decide +kernel
theorem dX6_ruleClass_55 : decode cX6_ruleClass 55 = .ok (.istore 5, 2) := by decide +kernel
theorem dX6_ruleClass_57 : decode cX6_ruleClass 57 = .ok (.bipush 100, 2) := by decide +kernel
theorem dX6_ruleClass_59 : decode cX6_ruleClass 59 = .ok (.iload 4, 2) := by decide +kernel
theorem dX6_ruleClass_61 : decode cX6_ruleClass 61 = .ok (.imul, 1) := by decide +kernel
theorem dX6_ruleClass_62 : decode cX6_ruleClass 62 = .ok (.bipush 10, 2) := by decide +kernel
theorem dX6_ruleClass_64 : decode cX6_ruleClass 64 = .ok (.iload 5, 2) := by decide +kernel
theorem dX6_ruleClass_66 : decode cX6_ruleClass 66 = .ok (.imul, 1) := by decide +kernel
theorem dX6_ruleClass_67 : decode cX6_ruleClass 67 = .ok (.iadd, 1) := by decide +kernel
theorem dX6_ruleClass_68 : decode cX6_ruleClass 68 = .ok (.bipush 9, 2) := by decide +kernel
theorem dX6_ruleClass_70 : decode cX6_ruleClass 70 = .ok (.iadd, 1) := by decide +kernel
theorem dX6_ruleClass_71 : decode cX6_ruleClass 71 = .ok (.aload_n 0, 1) := by decide +kernel
theorem dX6_ruleClass_72 : decode cX6_ruleClass 72 = .ok (.getfield 21, 3) := by decide +kernel
theorem dX6_ruleClass_75 : decode cX6_ruleClass 75 = .ok (.iload_n 3, 1) := by decide +kernel
theorem dX6_ruleClass_76 : decode cX6_ruleClass 76 = .ok (.iaload, 1) := by decide +kernel
theorem dX6_ruleClass_77 : decode cX6_ruleClass 77 = .ok (.isub, 1) := by decide +kernel
theorem dX6_ruleClass_78 : decode cX6_ruleClass 78 = .ok (.istore 6, 2) := by decide +kernel
theorem dX6_ruleClass_80 : decode cX6_ruleClass 80 = .ok (.iload_n 1, 1) := by decide +kernel
theorem dX6_ruleClass_81 : decode cX6_ruleClass 81 = .ok (.bipush (-6), 2) := by decide +kernel
theorem dX6_ruleClass_83 : decode cX6_ruleClass 83 = .ok (.if_icmp .eq 9, 3) := by decide +kernel
theorem dX6_ruleClass_86 : decode cX6_ruleClass 86 = .ok (.iload 6, 2) := by decide +kernel
theorem dX6_ruleClass_88 : decode cX6_ruleClass 88 = .ok (.iload_n 2, 1) := by decide +kernel
theorem dX6_ruleClass_89 : decode cX6_ruleClass 89 = .ok (.if_icmp .ge 8, 3) := by decide +kernel
theorem dX6_ruleClass_92 : decode cX6_ruleClass 92 = .ok (.iload_n 3, 1) := by decide +kernel
theorem dX6_ruleClass_93 : decode cX6_ruleClass 93 = .ok (.istore_n 1, 1) := by decide +kernel
theorem dX6_ruleClass_94 : decode cX6_ruleClass 94 = .ok (.iload 6, 2) := by decide +kernel
theorem dX6_ruleClass_96 : decode cX6_ruleClass 96 = .ok (.istore_n 2, 1) := by decide +kernel
theorem dX6_ruleClass_97 : decode cX6_ruleClass 97 = .ok (.iinc 3 1, 3) := by decide +kernel
theorem dX6_ruleClass_100 : decode cX6_ruleClass 100 = .ok (.goto (-93), 3) := by decide +kernel
theorem dX6_ruleClass_103 : decode cX6_ruleClass 103 = .ok (.iload_n 1, 1) := by decide +kernel
theorem dX6_ruleClass_104 : decode cX6_ruleClass 104 = .ok (.ireturn, 1) := by decide +kernel
theorem dX6_trailWith_0 : decode cX6_trailWith 0 = .ok (.aload_n 0, 1) := by decide +kernel
theorem dX6_trailWith_1 : decode cX6_trailWith 1 = .ok (.getfield 15, 3) := by decide +kernel
theorem dX6_trailWith_4 : decode cX6_trailWith 4 = .ok (.aload_n 0, 1) := by decide +kernel
theorem dX6_trailWith_5 : decode cX6_trailWith 5 = .ok (.getfield 24, 3) := by decide +kernel
theorem dX6_trailWith_8 : decode cX6_trailWith 8 = .ok (.iaload, 1) := by decide +kernel
theorem dX6_trailWith_9 : decode cX6_trailWith 9 = .ok (.iconst 4, 1) := by decide +kernel
theorem dX6_trailWith_10 : decode cX6_trailWith 10 = .ok (.ishl, 1) := by decide +kernel
theorem dX6_trailWith_11 : decode cX6_trailWith 11 = .ok (.aload_n 0, 1) := by decide +kernel
theorem dX6_trailWith_12 : decode cX6_trailWith 12 = .ok (.getfield 28, 3) := by decide +kernel
theorem dX6_trailWith_15 : decode cX6_trailWith 15 = .ok (.getfield 66, 3) := by decide +kernel
theorem dX6_trailWith_18 : decode cX6_trailWith 18 = .ok (.iload_n 1, 1) := by decide +kernel
theorem dX6_trailWith_19 : decode cX6_trailWith 19 = .ok (.iaload, 1) := by decide +kernel
theorem dX6_trailWith_20 : decode cX6_trailWith 20 = .ok (.ior, 1) := by decide +kernel
theorem dX6_trailWith_21 : decode cX6_trailWith 21 = .ok (.ireturn, 1) := by decide +kernel
theorem dX8_init_0 : decode cX8_init 0 = .ok (.aload_n 0, 1) := by decide +kernel
theorem dX8_init_1 : decode cX8_init 1 = .ok (.invokespecial 3, 3) := by decide +kernel
theorem dX8_init_4 : decode cX8_init 4 = .ok (.aload_n 0, 1) := by decide +kernel
theorem dX8_init_5 : decode cX8_init 5 = .ok (.iconst 0, 1) := by decide +kernel
theorem dX8_init_6 : decode cX8_init 6 = .ok (.putfield 9, 3) := by decide +kernel
theorem dX8_init_9 : decode cX8_init 9 = .ok (.aload_n 0, 1) := by decide +kernel
theorem dX8_init_10 : decode cX8_init 10 = .ok (.iconst 0, 1) := by decide +kernel
theorem dX8_init_11 : decode cX8_init 11 = .ok (.putfield 15, 3) := by decide +kernel
theorem dX8_init_14 : decode cX8_init 14 = .ok (.aload_n 0, 1) := by decide +kernel
theorem dX8_init_15 : decode cX8_init 15 = .ok (.aload_n 1, 1) := by decide +kernel
theorem dX8_init_16 : decode cX8_init 16 = .ok (.putfield 19, 3) := by decide +kernel
theorem dX8_init_19 : decode cX8_init 19 = .ok (.aload_n 0, 1) := by decide +kernel
theorem dX8_init_20 : decode cX8_init 20 = .ok (.aload_n 2, 1) := by decide +kernel
theorem dX8_init_21 : decode cX8_init 21 = .ok (.putfield 23, 3) := by decide +kernel
theorem dX8_init_24 : decode cX8_init 24 = .ok (.return_, 1) := by decide +kernel
theorem dX8_forget_0 : decode cX8_forget 0 = .ok (.aload_n 0, 1) := by decide +kernel
theorem dX8_forget_1 : decode cX8_forget 1 = .ok (.iconst 0, 1) := by decide +kernel
theorem dX8_forget_2 : decode cX8_forget 2 = .ok (.putfield 15, 3) := by decide +kernel
theorem dX8_forget_5 : decode cX8_forget 5 = .ok (.return_, 1) := by decide +kernel
theorem dX8_refresh_0 : decode cX8_refresh 0 = .ok (.aload_n 0, 1) := by decide +kernel
theorem dX8_refresh_1 : decode cX8_refresh 1 = .ok (.getfield 15, 3) := by decide +kernel
theorem dX8_refresh_4 : decode cX8_refresh 4 = .ok (.ifCond .eq 4, 3) := by decide +kernel
theorem dX8_refresh_7 : decode cX8_refresh 7 = .ok (.return_, 1) := by decide +kernel
theorem dX8_refresh_8 : decode cX8_refresh 8 = .ok (.aload_n 0, 1) := by decide +kernel
theorem dX8_refresh_9 : decode cX8_refresh 9 = .ok (.aload_n 0, 1) := by decide +kernel
theorem dX8_refresh_10 : decode cX8_refresh 10 = .ok (.getfield 19, 3) := by decide +kernel
theorem dX8_refresh_13 : decode cX8_refresh 13 = .ok (.invokevirtual 27, 3) := by decide +kernel
theorem dX8_refresh_16 : decode cX8_refresh 16 = .ok (.putfield 9, 3) := by decide +kernel
theorem dX8_refresh_19 : decode cX8_refresh 19 = .ok (.aload_n 0, 1) := by decide +kernel
theorem dX8_refresh_20 : decode cX8_refresh 20 = .ok (.invokevirtual 32, 3) := by decide +kernel
theorem dX8_refresh_23 : decode cX8_refresh 23 = .ok (.aload_n 0, 1) := by decide +kernel
theorem dX8_refresh_24 : decode cX8_refresh 24 = .ok (.getfield 23, 3) := by decide +kernel
theorem dX8_refresh_27 : decode cX8_refresh 27 = .ok (.invokevirtual 35, 3) := by decide +kernel
theorem dX8_refresh_30 : decode cX8_refresh 30 = .ok (.aload_n 0, 1) := by decide +kernel
theorem dX8_refresh_31 : decode cX8_refresh 31 = .ok (.iconst 0, 1) := by decide +kernel
theorem dX8_refresh_32 : decode cX8_refresh 32 = .ok (.invokevirtual 40, 3) := by decide +kernel
theorem dX8_refresh_35 : decode cX8_refresh 35 = .ok (.aload_n 0, 1) := by decide +kernel
theorem dX8_refresh_36 : decode cX8_refresh 36 = .ok (.iconst 1, 1) := by decide +kernel
theorem dX8_refresh_37 : decode cX8_refresh 37 = .ok (.putfield 15, 3) := by decide +kernel
theorem dX8_refresh_40 : decode cX8_refresh 40 = .ok (.return_, 1) := by decide +kernel
theorem dX8_goOn_0 : decode cX8_goOn 0 = .ok (.aload_n 0, 1) := by decide +kernel
theorem dX8_goOn_1 : decode cX8_goOn 1 = .ok (.iload_n 1, 1) := by decide +kernel
theorem dX8_goOn_2 : decode cX8_goOn 2 = .ok (.invokevirtual 44, 3) := by decide +kernel
theorem dX8_goOn_5 : decode cX8_goOn 5 = .ok (.ifCond .ne 4, 3) := by decide +kernel
theorem dX8_goOn_8 : decode cX8_goOn 8 = .ok (.return_, 1) := by decide +kernel
theorem dX8_goOn_9 : decode cX8_goOn 9 = .ok (.iload_n 1, 1) := by decide +kernel
theorem dX8_goOn_10 : decode cX8_goOn 10 = .ok (.aload_n 0, 1) := by decide +kernel
theorem dX8_goOn_11 : decode cX8_goOn 11 = .ok (.getfield 9, 3) := by decide +kernel
theorem dX8_goOn_14 : decode cX8_goOn 14 = .ok (.if_icmp .lt 8, 3) := by decide +kernel
theorem dX8_goOn_17 : decode cX8_goOn 17 = .ok (.aload_n 0, 1) := by decide +kernel
theorem dX8_goOn_18 : decode cX8_goOn 18 = .ok (.invokevirtual 48, 3) := by decide +kernel
theorem dX8_goOn_21 : decode cX8_goOn 21 = .ok (.return_, 1) := by decide +kernel
theorem dX8_goOn_22 : decode cX8_goOn 22 = .ok (.iconst 0, 1) := by decide +kernel
theorem dX8_goOn_23 : decode cX8_goOn 23 = .ok (.istore_n 2, 1) := by decide +kernel
theorem dX8_goOn_24 : decode cX8_goOn 24 = .ok (.iload_n 2, 1) := by decide +kernel
theorem dX8_goOn_25 : decode cX8_goOn 25 = .ok (.iconst 5, 1) := by decide +kernel
theorem dX8_goOn_26 : decode cX8_goOn 26 = .ok (.if_icmp .ge 43, 3) := by decide +kernel
theorem dX8_goOn_29 : decode cX8_goOn 29 = .ok (.aload_n 0, 1) := by decide +kernel
theorem dX8_goOn_30 : decode cX8_goOn 30 = .ok (.getfield 23, 3) := by decide +kernel
theorem dX8_goOn_33 : decode cX8_goOn 33 = .ok (.getfield 51, 3) := by decide +kernel
theorem dX8_goOn_36 : decode cX8_goOn 36 = .ok (.iload_n 2, 1) := by decide +kernel
theorem dX8_goOn_37 : decode cX8_goOn 37 = .ok (.iaload, 1) := by decide +kernel
theorem dX8_goOn_38 : decode cX8_goOn 38 = .ok (.ifCond .le 25, 3) := by decide +kernel
theorem dX8_goOn_41 : decode cX8_goOn 41 = .ok (.aload_n 0, 1) := by decide +kernel
theorem dX8_goOn_42 : decode cX8_goOn 42 = .ok (.getfield 23, 3) := by decide +kernel
theorem dX8_goOn_45 : decode cX8_goOn 45 = .ok (.iload_n 2, 1) := by decide +kernel
theorem dX8_goOn_46 : decode cX8_goOn 46 = .ok (.invokevirtual 55, 3) := by decide +kernel
theorem dX8_goOn_49 : decode cX8_goOn 49 = .ok (.aload_n 0, 1) := by decide +kernel
theorem dX8_goOn_50 : decode cX8_goOn 50 = .ok (.iload_n 1, 1) := by decide +kernel
theorem dX8_goOn_51 : decode cX8_goOn 51 = .ok (.iconst 1, 1) := by decide +kernel
theorem dX8_goOn_52 : decode cX8_goOn 52 = .ok (.iadd, 1) := by decide +kernel
theorem dX8_goOn_53 : decode cX8_goOn 53 = .ok (.invokevirtual 40, 3) := by decide +kernel
theorem dX8_goOn_56 : decode cX8_goOn 56 = .ok (.aload_n 0, 1) := by decide +kernel
theorem dX8_goOn_57 : decode cX8_goOn 57 = .ok (.getfield 23, 3) := by decide +kernel
theorem dX8_goOn_60 : decode cX8_goOn 60 = .ok (.invokevirtual 58, 3) := by decide +kernel
theorem dX8_goOn_63 : decode cX8_goOn 63 = .ok (.iinc 2 1, 3) := by decide +kernel
theorem dX8_goOn_66 : decode cX8_goOn 66 = .ok (.goto (-42), 3) := by decide +kernel
theorem dX8_goOn_69 : decode cX8_goOn 69 = .ok (.return_, 1) := by decide +kernel
theorem dX8_keepRow_0 : decode cX8_keepRow 0 = .ok (.aload_n 0, 1) := by decide +kernel
theorem dX8_keepRow_1 : decode cX8_keepRow 1 = .ok (.getfield 23, 3) := by decide +kernel
theorem dX8_keepRow_4 : decode cX8_keepRow 4 = .ok (.getfield 61, 3) := by decide +kernel
theorem dX8_keepRow_7 : decode cX8_keepRow 7 = .ok (.iconst 0, 1) := by decide +kernel
theorem dX8_keepRow_8 : decode cX8_keepRow 8 = .ok (.aload_n 1, 1) := by decide +kernel
theorem dX8_keepRow_9 : decode cX8_keepRow 9 = .ok (.iconst 0, 1) := by decide +kernel
theorem dX8_keepRow_10 : decode cX8_keepRow 10 = .ok (.bipush 9, 2) := by decide +kernel
theorem dX8_keepRow_12 : decode cX8_keepRow 12 = .ok (.invokestatic 64, 3) := by decide +kernel
theorem dX8_keepRow_15 : decode cX8_keepRow 15 = .ok (.return_, 1) := by decide +kernel
theorem dX9_init_0 : decode cX9_init 0 = .ok (.aload_n 0, 1) := by decide +kernel
theorem dX9_init_1 : decode cX9_init 1 = .ok (.invokespecial 1, 3) := by decide +kernel
theorem dX9_init_4 : decode cX9_init 4 = .ok (.aload_n 0, 1) := by decide +kernel
theorem dX9_init_5 : decode cX9_init 5 = .ok (.new 7, 3) := by decide +kernel
theorem dX9_init_8 : decode cX9_init 8 = .ok (.dup, 1) := by decide +kernel
theorem dX9_init_9 : decode cX9_init 9 = .ok (.invokespecial 9, 3) := by decide +kernel
theorem dX9_init_12 : decode cX9_init 12 = .ok (.putfield 10, 3) := by decide +kernel
theorem dX9_init_15 : decode cX9_init 15 = .ok (.aload_n 0, 1) := by decide +kernel
theorem dX9_init_16 : decode cX9_init 16 = .ok (.new 16, 3) := by decide +kernel
theorem dX9_init_19 : decode cX9_init 19 = .ok (.dup, 1) := by decide +kernel
theorem dX9_init_20 : decode cX9_init 20 = .ok (.invokespecial 18, 3) := by decide +kernel
theorem dX9_init_23 : decode cX9_init 23 = .ok (.putfield 19, 3) := by decide +kernel
theorem dX9_init_26 : decode cX9_init 26 = .ok (.aload_n 0, 1) := by decide +kernel
theorem dX9_init_27 : decode cX9_init 27 = .ok (.new 23, 3) := by decide +kernel
theorem dX9_init_30 : decode cX9_init 30 = .ok (.dup, 1) := by decide +kernel
theorem dX9_init_31 : decode cX9_init 31 = .ok (.aload_n 0, 1) := by decide +kernel
theorem dX9_init_32 : decode cX9_init 32 = .ok (.getfield 10, 3) := by decide +kernel
theorem dX9_init_35 : decode cX9_init 35 = .ok (.invokespecial 25, 3) := by decide +kernel
theorem dX9_init_38 : decode cX9_init 38 = .ok (.putfield 28, 3) := by decide +kernel
theorem dX9_init_41 : decode cX9_init 41 = .ok (.aload_n 0, 1) := by decide +kernel
theorem dX9_init_42 : decode cX9_init 42 = .ok (.new 32, 3) := by decide +kernel
theorem dX9_init_45 : decode cX9_init 45 = .ok (.dup, 1) := by decide +kernel
theorem dX9_init_46 : decode cX9_init 46 = .ok (.aload_n 0, 1) := by decide +kernel
theorem dX9_init_47 : decode cX9_init 47 = .ok (.getfield 10, 3) := by decide +kernel
theorem dX9_init_50 : decode cX9_init 50 = .ok (.aload_n 0, 1) := by decide +kernel
theorem dX9_init_51 : decode cX9_init 51 = .ok (.getfield 28, 3) := by decide +kernel
theorem dX9_init_54 : decode cX9_init 54 = .ok (.invokespecial 34, 3) := by decide +kernel
theorem dX9_init_57 : decode cX9_init 57 = .ok (.putfield 37, 3) := by decide +kernel
theorem dX9_init_60 : decode cX9_init 60 = .ok (.aload_n 0, 1) := by decide +kernel
theorem dX9_init_61 : decode cX9_init 61 = .ok (.new 41, 3) := by decide +kernel
theorem dX9_init_64 : decode cX9_init 64 = .ok (.dup, 1) := by decide +kernel
theorem dX9_init_65 : decode cX9_init 65 = .ok (.aload_n 0, 1) := by decide +kernel
theorem dX9_init_66 : decode cX9_init 66 = .ok (.getfield 10, 3) := by decide +kernel
theorem dX9_init_69 : decode cX9_init 69 = .ok (.aload_n 0, 1) := by decide +kernel
theorem dX9_init_70 : decode cX9_init 70 = .ok (.getfield 28, 3) := by decide +kernel
theorem dX9_init_73 : decode cX9_init 73 = .ok (.invokespecial 43, 3) := by decide +kernel
theorem dX9_init_76 : decode cX9_init 76 = .ok (.putfield 44, 3) := by decide +kernel
theorem dX9_init_79 : decode cX9_init 79 = .ok (.aload_n 0, 1) := by decide +kernel
theorem dX9_init_80 : decode cX9_init 80 = .ok (.new 48, 3) := by decide +kernel
theorem dX9_init_83 : decode cX9_init 83 = .ok (.dup, 1) := by decide +kernel
theorem dX9_init_84 : decode cX9_init 84 = .ok (.aload_n 0, 1) := by decide +kernel
theorem dX9_init_85 : decode cX9_init 85 = .ok (.getfield 10, 3) := by decide +kernel
theorem dX9_init_88 : decode cX9_init 88 = .ok (.aload_n 0, 1) := by decide +kernel
theorem dX9_init_89 : decode cX9_init 89 = .ok (.getfield 28, 3) := by decide +kernel
theorem dX9_init_92 : decode cX9_init 92 = .ok (.invokespecial 50, 3) := by decide +kernel
theorem dX9_init_95 : decode cX9_init 95 = .ok (.putfield 51, 3) := by decide +kernel
theorem dX9_init_98 : decode cX9_init 98 = .ok (.aload_n 0, 1) := by decide +kernel
theorem dX9_init_99 : decode cX9_init 99 = .ok (.new 55, 3) := by decide +kernel
theorem dX9_init_102 : decode cX9_init 102 = .ok (.dup, 1) := by decide +kernel
theorem dX9_init_103 : decode cX9_init 103 = .ok (.aload_n 0, 1) := by decide +kernel
theorem dX9_init_104 : decode cX9_init 104 = .ok (.getfield 10, 3) := by decide +kernel
theorem dX9_init_107 : decode cX9_init 107 = .ok (.aload_n 0, 1) := by decide +kernel
theorem dX9_init_108 : decode cX9_init 108 = .ok (.getfield 28, 3) := by decide +kernel
theorem dX9_init_111 : decode cX9_init 111 = .ok (.aload_n 0, 1) := by decide +kernel
theorem dX9_init_112 : decode cX9_init 112 = .ok (.getfield 19, 3) := by decide +kernel
theorem dX9_init_115 : decode cX9_init 115 = .ok (.invokespecial 57, 3) := by decide +kernel
theorem dX9_init_118 : decode cX9_init 118 = .ok (.putfield 60, 3) := by decide +kernel
theorem dX9_init_121 : decode cX9_init 121 = .ok (.aload_n 0, 1) := by decide +kernel
theorem dX9_init_122 : decode cX9_init 122 = .ok (.new 64, 3) := by decide +kernel
theorem dX9_init_125 : decode cX9_init 125 = .ok (.dup, 1) := by decide +kernel
theorem dX9_init_126 : decode cX9_init 126 = .ok (.aload_n 0, 1) := by decide +kernel
theorem dX9_init_127 : decode cX9_init 127 = .ok (.getfield 19, 3) := by decide +kernel
theorem dX9_init_130 : decode cX9_init 130 = .ok (.aload_n 0, 1) := by decide +kernel
theorem dX9_init_131 : decode cX9_init 131 = .ok (.getfield 28, 3) := by decide +kernel
theorem dX9_init_134 : decode cX9_init 134 = .ok (.invokespecial 66, 3) := by decide +kernel
theorem dX9_init_137 : decode cX9_init 137 = .ok (.putfield 69, 3) := by decide +kernel
theorem dX9_init_140 : decode cX9_init 140 = .ok (.aload_n 0, 1) := by decide +kernel
theorem dX9_init_141 : decode cX9_init 141 = .ok (.new 7, 3) := by decide +kernel
theorem dX9_init_144 : decode cX9_init 144 = .ok (.dup, 1) := by decide +kernel
theorem dX9_init_145 : decode cX9_init 145 = .ok (.invokespecial 9, 3) := by decide +kernel
theorem dX9_init_148 : decode cX9_init 148 = .ok (.putfield 73, 3) := by decide +kernel
theorem dX9_init_151 : decode cX9_init 151 = .ok (.aload_n 0, 1) := by decide +kernel
theorem dX9_init_152 : decode cX9_init 152 = .ok (.new 7, 3) := by decide +kernel
theorem dX9_init_155 : decode cX9_init 155 = .ok (.dup, 1) := by decide +kernel
theorem dX9_init_156 : decode cX9_init 156 = .ok (.invokespecial 9, 3) := by decide +kernel
theorem dX9_init_159 : decode cX9_init 159 = .ok (.putfield 76, 3) := by decide +kernel
theorem dX9_init_162 : decode cX9_init 162 = .ok (.aload_n 0, 1) := by decide +kernel
theorem dX9_init_163 : decode cX9_init 163 = .ok (.iconst 0, 1) := by decide +kernel
theorem dX9_init_164 : decode cX9_init 164 = .ok (.putfield 79, 3) := by decide +kernel
theorem dX9_init_167 : decode cX9_init 167 = .ok (.return_, 1) := by decide +kernel
theorem dX9_option_0 : decode cX9_option 0 = .ok (.iload_n 1, 1) := by decide +kernel
theorem dX9_option_1 : decode cX9_option 1 = .ok (.invokestatic 83, 3) := by decide +kernel
theorem dX9_option_4 : decode cX9_option 4 = .ok (.ifCond .ne 5, 3) := by decide +kernel
theorem dX9_option_7 : decode cX9_option 7 = .ok (.iconst (-1), 1) := by decide +kernel
theorem dX9_option_8 : decode cX9_option 8 = .ok (.ireturn, 1) := by decide +kernel
theorem dX9_option_9 : decode cX9_option 9 = .ok (.iload_n 3, 1) := by decide +kernel
theorem dX9_option_10 : decode cX9_option 10 = .ok (.iconst 1, 1) := by decide +kernel
theorem dX9_option_11 : decode cX9_option 11 = .ok (.if_icmp .lt 18, 3) := by decide +kernel
theorem dX9_option_14 : decode cX9_option 14 = .ok (.iload_n 3, 1) := by decide +kernel
theorem dX9_option_15 : decode cX9_option 15 = .ok (.iconst 5, 1) := by decide +kernel
theorem dX9_option_16 : decode cX9_option 16 = .ok (.if_icmp .gt 13, 3) := by decide +kernel
theorem dX9_option_19 : decode cX9_option 19 = .ok (.iload_n 2, 1) := by decide +kernel
theorem dX9_option_20 : decode cX9_option 20 = .ok (.iconst 1, 1) := by decide +kernel
theorem dX9_option_21 : decode cX9_option 21 = .ok (.if_icmp .lt 8, 3) := by decide +kernel
theorem dX9_option_24 : decode cX9_option 24 = .ok (.iload_n 2, 1) := by decide +kernel
theorem dX9_option_25 : decode cX9_option 25 = .ok (.iload_n 3, 1) := by decide +kernel
theorem dX9_option_26 : decode cX9_option 26 = .ok (.if_icmp .le 6, 3) := by decide +kernel
theorem dX9_option_29 : decode cX9_option 29 = .ok (.bipush (-2), 2) := by decide +kernel
theorem dX9_option_31 : decode cX9_option 31 = .ok (.ireturn, 1) := by decide +kernel
theorem dX9_option_32 : decode cX9_option 32 = .ok (.bipush 10, 2) := by decide +kernel
theorem dX9_option_34 : decode cX9_option 34 = .ok (.aload_n 0, 1) := by decide +kernel
theorem dX9_option_35 : decode cX9_option 35 = .ok (.getfield 10, 3) := by decide +kernel
theorem dX9_option_38 : decode cX9_option 38 = .ok (.getfield 87, 3) := by decide +kernel
theorem dX9_option_41 : decode cX9_option 41 = .ok (.iload_n 1, 1) := by decide +kernel
theorem dX9_option_42 : decode cX9_option 42 = .ok (.iaload, 1) := by decide +kernel
theorem dX9_option_43 : decode cX9_option 43 = .ok (.imul, 1) := by decide +kernel
theorem dX9_option_44 : decode cX9_option 44 = .ok (.aload_n 0, 1) := by decide +kernel
theorem dX9_option_45 : decode cX9_option 45 = .ok (.getfield 10, 3) := by decide +kernel
theorem dX9_option_48 : decode cX9_option 48 = .ok (.getfield 91, 3) := by decide +kernel
theorem dX9_option_51 : decode cX9_option 51 = .ok (.iload_n 1, 1) := by decide +kernel
theorem dX9_option_52 : decode cX9_option 52 = .ok (.iaload, 1) := by decide +kernel
theorem dX9_option_53 : decode cX9_option 53 = .ok (.iadd, 1) := by decide +kernel
theorem dX9_option_54 : decode cX9_option 54 = .ok (.istore 4, 2) := by decide +kernel
theorem dX9_option_56 : decode cX9_option 56 = .ok (.aload_n 0, 1) := by decide +kernel
theorem dX9_option_57 : decode cX9_option 57 = .ok (.getfield 10, 3) := by decide +kernel
theorem dX9_option_60 : decode cX9_option 60 = .ok (.iload_n 1, 1) := by decide +kernel
theorem dX9_option_61 : decode cX9_option 61 = .ok (.iload_n 2, 1) := by decide +kernel
theorem dX9_option_62 : decode cX9_option 62 = .ok (.iload_n 3, 1) := by decide +kernel
theorem dX9_option_63 : decode cX9_option 63 = .ok (.invokevirtual 94, 3) := by decide +kernel
theorem dX9_option_66 : decode cX9_option 66 = .ok (.aload_n 0, 1) := by decide +kernel
theorem dX9_option_67 : decode cX9_option 67 = .ok (.invokevirtual 98, 3) := by decide +kernel
theorem dX9_option_70 : decode cX9_option 70 = .ok (.iload 4, 2) := by decide +kernel
theorem dX9_option_72 : decode cX9_option 72 = .ok (.ireturn, 1) := by decide +kernel
theorem dX9_options_0 : decode cX9_options 0 = .ok (.iload_n 1, 1) := by decide +kernel
theorem dX9_options_1 : decode cX9_options 1 = .ok (.invokestatic 101, 3) := by decide +kernel
theorem dX9_options_4 : decode cX9_options 4 = .ok (.ifCond .ne 5, 3) := by decide +kernel
theorem dX9_options_7 : decode cX9_options 7 = .ok (.iconst (-1), 1) := by decide +kernel
theorem dX9_options_8 : decode cX9_options 8 = .ok (.ireturn, 1) := by decide +kernel
theorem dX9_options_9 : decode cX9_options 9 = .ok (.iload_n 2, 1) := by decide +kernel
theorem dX9_options_10 : decode cX9_options 10 = .ok (.ifCond .lt 9, 3) := by decide +kernel
theorem dX9_options_13 : decode cX9_options 13 = .ok (.iload_n 2, 1) := by decide +kernel
theorem dX9_options_14 : decode cX9_options 14 = .ok (.bipush 15, 2) := by decide +kernel
theorem dX9_options_16 : decode cX9_options 16 = .ok (.if_icmp .le 6, 3) := by decide +kernel
theorem dX9_options_19 : decode cX9_options 19 = .ok (.bipush (-2), 2) := by decide +kernel
theorem dX9_options_21 : decode cX9_options 21 = .ok (.ireturn, 1) := by decide +kernel
theorem dX9_options_22 : decode cX9_options 22 = .ok (.aload_n 0, 1) := by decide +kernel
theorem dX9_options_23 : decode cX9_options 23 = .ok (.getfield 10, 3) := by decide +kernel
theorem dX9_options_26 : decode cX9_options 26 = .ok (.getfield 104, 3) := by decide +kernel
theorem dX9_options_29 : decode cX9_options 29 = .ok (.iload_n 1, 1) := by decide +kernel
theorem dX9_options_30 : decode cX9_options 30 = .ok (.iaload, 1) := by decide +kernel
theorem dX9_options_31 : decode cX9_options 31 = .ok (.istore_n 3, 1) := by decide +kernel
theorem dX9_options_32 : decode cX9_options 32 = .ok (.aload_n 0, 1) := by decide +kernel
theorem dX9_options_33 : decode cX9_options 33 = .ok (.getfield 10, 3) := by decide +kernel
theorem dX9_options_36 : decode cX9_options 36 = .ok (.getfield 104, 3) := by decide +kernel
theorem dX9_options_39 : decode cX9_options 39 = .ok (.iload_n 1, 1) := by decide +kernel
theorem dX9_options_40 : decode cX9_options 40 = .ok (.iload_n 2, 1) := by decide +kernel
theorem dX9_options_41 : decode cX9_options 41 = .ok (.iastore, 1) := by decide +kernel
theorem dX9_options_42 : decode cX9_options 42 = .ok (.aload_n 0, 1) := by decide +kernel
theorem dX9_options_43 : decode cX9_options 43 = .ok (.invokevirtual 98, 3) := by decide +kernel
theorem dX9_options_46 : decode cX9_options 46 = .ok (.iload_n 3, 1) := by decide +kernel
theorem dX9_options_47 : decode cX9_options 47 = .ok (.ireturn, 1) := by decide +kernel
theorem dX9_demand_0 : decode cX9_demand 0 = .ok (.iload_n 1, 1) := by decide +kernel
theorem dX9_demand_1 : decode cX9_demand 1 = .ok (.invokestatic 101, 3) := by decide +kernel
theorem dX9_demand_4 : decode cX9_demand 4 = .ok (.ifCond .ne 5, 3) := by decide +kernel
theorem dX9_demand_7 : decode cX9_demand 7 = .ok (.iconst (-1), 1) := by decide +kernel
theorem dX9_demand_8 : decode cX9_demand 8 = .ok (.ireturn, 1) := by decide +kernel
theorem dX9_demand_9 : decode cX9_demand 9 = .ok (.iload_n 2, 1) := by decide +kernel
theorem dX9_demand_10 : decode cX9_demand 10 = .ok (.ifCond .lt 9, 3) := by decide +kernel
theorem dX9_demand_13 : decode cX9_demand 13 = .ok (.iload_n 2, 1) := by decide +kernel
theorem dX9_demand_14 : decode cX9_demand 14 = .ok (.bipush 9, 2) := by decide +kernel
theorem dX9_demand_16 : decode cX9_demand 16 = .ok (.if_icmp .le 6, 3) := by decide +kernel
theorem dX9_demand_19 : decode cX9_demand 19 = .ok (.bipush (-2), 2) := by decide +kernel
theorem dX9_demand_21 : decode cX9_demand 21 = .ok (.ireturn, 1) := by decide +kernel
theorem dX9_demand_22 : decode cX9_demand 22 = .ok (.aload_n 0, 1) := by decide +kernel
theorem dX9_demand_23 : decode cX9_demand 23 = .ok (.getfield 10, 3) := by decide +kernel
theorem dX9_demand_26 : decode cX9_demand 26 = .ok (.invokevirtual 107, 3) := by decide +kernel
theorem dX9_demand_29 : decode cX9_demand 29 = .ok (.aload_n 0, 1) := by decide +kernel
theorem dX9_demand_30 : decode cX9_demand 30 = .ok (.getfield 10, 3) := by decide +kernel
theorem dX9_demand_33 : decode cX9_demand 33 = .ok (.getfield 111, 3) := by decide +kernel
theorem dX9_demand_36 : decode cX9_demand 36 = .ok (.iload_n 1, 1) := by decide +kernel
theorem dX9_demand_37 : decode cX9_demand 37 = .ok (.iaload, 1) := by decide +kernel
theorem dX9_demand_38 : decode cX9_demand 38 = .ok (.isub, 1) := by decide +kernel
theorem dX9_demand_39 : decode cX9_demand 39 = .ok (.iload_n 2, 1) := by decide +kernel
theorem dX9_demand_40 : decode cX9_demand 40 = .ok (.iadd, 1) := by decide +kernel
theorem dX9_demand_41 : decode cX9_demand 41 = .ok (.istore_n 3, 1) := by decide +kernel
theorem dX9_demand_42 : decode cX9_demand 42 = .ok (.iload_n 3, 1) := by decide +kernel
theorem dX9_demand_43 : decode cX9_demand 43 = .ok (.bipush 9, 2) := by decide +kernel
theorem dX9_demand_45 : decode cX9_demand 45 = .ok (.if_icmp .le 6, 3) := by decide +kernel
theorem dX9_demand_48 : decode cX9_demand 48 = .ok (.bipush (-4), 2) := by decide +kernel
theorem dX9_demand_50 : decode cX9_demand 50 = .ok (.ireturn, 1) := by decide +kernel
theorem dX9_demand_51 : decode cX9_demand 51 = .ok (.aload_n 0, 1) := by decide +kernel
theorem dX9_demand_52 : decode cX9_demand 52 = .ok (.getfield 10, 3) := by decide +kernel
theorem dX9_demand_55 : decode cX9_demand 55 = .ok (.getfield 111, 3) := by decide +kernel
theorem dX9_demand_58 : decode cX9_demand 58 = .ok (.iload_n 1, 1) := by decide +kernel
theorem dX9_demand_59 : decode cX9_demand 59 = .ok (.iload_n 2, 1) := by decide +kernel
theorem dX9_demand_60 : decode cX9_demand 60 = .ok (.iastore, 1) := by decide +kernel
theorem dX9_demand_61 : decode cX9_demand 61 = .ok (.aload_n 0, 1) := by decide +kernel
theorem dX9_demand_62 : decode cX9_demand 62 = .ok (.invokevirtual 98, 3) := by decide +kernel
theorem dX9_demand_65 : decode cX9_demand 65 = .ok (.iload_n 3, 1) := by decide +kernel
theorem dX9_demand_66 : decode cX9_demand 66 = .ok (.ireturn, 1) := by decide +kernel
theorem dX9_told_0 : decode cX9_told 0 = .ok (.iload_n 1, 1) := by decide +kernel
theorem dX9_told_1 : decode cX9_told 1 = .ok (.invokestatic 101, 3) := by decide +kernel
theorem dX9_told_4 : decode cX9_told 4 = .ok (.ifCond .ne 5, 3) := by decide +kernel
theorem dX9_told_7 : decode cX9_told 7 = .ok (.iconst (-1), 1) := by decide +kernel
theorem dX9_told_8 : decode cX9_told 8 = .ok (.ireturn, 1) := by decide +kernel
theorem dX9_told_9 : decode cX9_told 9 = .ok (.iload_n 2, 1) := by decide +kernel
theorem dX9_told_10 : decode cX9_told 10 = .ok (.lookupswitch 46 #[(0, 26), (1, 36)], 26) := by decide +kernel
theorem dX9_told_36 : decode cX9_told 36 = .ok (.aload_n 0, 1) := by decide +kernel
theorem dX9_told_37 : decode cX9_told 37 = .ok (.getfield 10, 3) := by decide +kernel
theorem dX9_told_40 : decode cX9_told 40 = .ok (.getfield 104, 3) := by decide +kernel
theorem dX9_told_43 : decode cX9_told 43 = .ok (.iload_n 1, 1) := by decide +kernel
theorem dX9_told_44 : decode cX9_told 44 = .ok (.iaload, 1) := by decide +kernel
theorem dX9_told_45 : decode cX9_told 45 = .ok (.ireturn, 1) := by decide +kernel
theorem dX9_told_46 : decode cX9_told 46 = .ok (.aload_n 0, 1) := by decide +kernel
theorem dX9_told_47 : decode cX9_told 47 = .ok (.getfield 10, 3) := by decide +kernel
theorem dX9_told_50 : decode cX9_told 50 = .ok (.getfield 111, 3) := by decide +kernel
theorem dX9_told_53 : decode cX9_told 53 = .ok (.iload_n 1, 1) := by decide +kernel
theorem dX9_told_54 : decode cX9_told 54 = .ok (.iaload, 1) := by decide +kernel
theorem dX9_told_55 : decode cX9_told 55 = .ok (.ireturn, 1) := by decide +kernel
theorem dX9_told_56 : decode cX9_told 56 = .ok (.bipush (-2), 2) := by decide +kernel
theorem dX9_told_58 : decode cX9_told 58 = .ok (.ireturn, 1) := by decide +kernel
theorem dX9_of_0 : decode cX9_of 0 = .ok (.iload_n 1, 1) := by decide +kernel
theorem dX9_of_1 : decode cX9_of 1 = .ok (.invokestatic 83, 3) := by decide +kernel
theorem dX9_of_4 : decode cX9_of 4 = .ok (.ifCond .ne 5, 3) := by decide +kernel
theorem dX9_of_7 : decode cX9_of 7 = .ok (.iconst (-1), 1) := by decide +kernel
theorem dX9_of_8 : decode cX9_of 8 = .ok (.ireturn, 1) := by decide +kernel
theorem dX9_of_9 : decode cX9_of 9 = .ok (.iload_n 2, 1) := by decide +kernel
theorem dX9_of_10 : decode cX9_of 10 = .ok (.tableswitch 68 0 3 #[30, 40, 50, 59], 30) := by decide +kernel
theorem dX9_of_40 : decode cX9_of 40 = .ok (.aload_n 0, 1) := by decide +kernel
theorem dX9_of_41 : decode cX9_of 41 = .ok (.getfield 10, 3) := by decide +kernel
theorem dX9_of_44 : decode cX9_of 44 = .ok (.getfield 87, 3) := by decide +kernel
theorem dX9_of_47 : decode cX9_of 47 = .ok (.iload_n 1, 1) := by decide +kernel
theorem dX9_of_48 : decode cX9_of 48 = .ok (.iaload, 1) := by decide +kernel
theorem dX9_of_49 : decode cX9_of 49 = .ok (.ireturn, 1) := by decide +kernel
theorem dX9_of_50 : decode cX9_of 50 = .ok (.aload_n 0, 1) := by decide +kernel
theorem dX9_of_51 : decode cX9_of 51 = .ok (.getfield 10, 3) := by decide +kernel
theorem dX9_of_54 : decode cX9_of 54 = .ok (.getfield 91, 3) := by decide +kernel
theorem dX9_of_57 : decode cX9_of 57 = .ok (.iload_n 1, 1) := by decide +kernel
theorem dX9_of_58 : decode cX9_of 58 = .ok (.iaload, 1) := by decide +kernel
theorem dX9_of_59 : decode cX9_of 59 = .ok (.ireturn, 1) := by decide +kernel
theorem dX9_of_60 : decode cX9_of 60 = .ok (.aload_n 0, 1) := by decide +kernel
theorem dX9_of_61 : decode cX9_of 61 = .ok (.getfield 10, 3) := by decide +kernel
theorem dX9_of_64 : decode cX9_of 64 = .ok (.iload_n 1, 1) := by decide +kernel
theorem dX9_of_65 : decode cX9_of 65 = .ok (.invokevirtual 114, 3) := by decide +kernel
theorem dX9_of_68 : decode cX9_of 68 = .ok (.ireturn, 1) := by decide +kernel
theorem dX9_of_69 : decode cX9_of 69 = .ok (.aload_n 0, 1) := by decide +kernel
theorem dX9_of_70 : decode cX9_of 70 = .ok (.getfield 10, 3) := by decide +kernel
theorem dX9_of_73 : decode cX9_of 73 = .ok (.iload_n 1, 1) := by decide +kernel
theorem dX9_of_74 : decode cX9_of 74 = .ok (.invokevirtual 118, 3) := by decide +kernel
theorem dX9_of_77 : decode cX9_of 77 = .ok (.ireturn, 1) := by decide +kernel
theorem dX9_of_78 : decode cX9_of 78 = .ok (.bipush (-2), 2) := by decide +kernel
theorem dX9_of_80 : decode cX9_of 80 = .ok (.ireturn, 1) := by decide +kernel
theorem dX9_fits_0 : decode cX9_fits 0 = .ok (.iload_n 1, 1) := by decide +kernel
theorem dX9_fits_1 : decode cX9_fits 1 = .ok (.iconst (-1), 1) := by decide +kernel
theorem dX9_fits_2 : decode cX9_fits 2 = .ok (.if_icmp .ge 6, 3) := by decide +kernel
theorem dX9_fits_5 : decode cX9_fits 5 = .ok (.bipush (-2), 2) := by decide +kernel
theorem dX9_fits_7 : decode cX9_fits 7 = .ok (.ireturn, 1) := by decide +kernel
theorem dX9_fits_8 : decode cX9_fits 8 = .ok (.aload_n 0, 1) := by decide +kernel
theorem dX9_fits_9 : decode cX9_fits 9 = .ok (.getfield 37, 3) := by decide +kernel
theorem dX9_fits_12 : decode cX9_fits 12 = .ok (.invokevirtual 121, 3) := by decide +kernel
theorem dX9_fits_15 : decode cX9_fits 15 = .ok (.iload_n 1, 1) := by decide +kernel
theorem dX9_fits_16 : decode cX9_fits 16 = .ok (.iconst (-1), 1) := by decide +kernel
theorem dX9_fits_17 : decode cX9_fits 17 = .ok (.if_icmp .ne 11, 3) := by decide +kernel
theorem dX9_fits_20 : decode cX9_fits 20 = .ok (.aload_n 0, 1) := by decide +kernel
theorem dX9_fits_21 : decode cX9_fits 21 = .ok (.getfield 37, 3) := by decide +kernel
theorem dX9_fits_24 : decode cX9_fits 24 = .ok (.getfield 124, 3) := by decide +kernel
theorem dX9_fits_27 : decode cX9_fits 27 = .ok (.ireturn, 1) := by decide +kernel
theorem dX9_fits_28 : decode cX9_fits 28 = .ok (.aload_n 0, 1) := by decide +kernel
theorem dX9_fits_29 : decode cX9_fits 29 = .ok (.getfield 37, 3) := by decide +kernel
theorem dX9_fits_32 : decode cX9_fits 32 = .ok (.getfield 124, 3) := by decide +kernel
theorem dX9_fits_35 : decode cX9_fits 35 = .ok (.ifCond .ne 8, 3) := by decide +kernel
theorem dX9_fits_38 : decode cX9_fits 38 = .ok (.bipush (-6), 2) := by decide +kernel
theorem dX9_fits_40 : decode cX9_fits 40 = .ok (.goto 15, 3) := by decide +kernel
theorem dX9_fits_43 : decode cX9_fits 43 = .ok (.aload_n 0, 1) := by decide +kernel
theorem dX9_fits_44 : decode cX9_fits 44 = .ok (.aload_n 0, 1) := by decide +kernel
theorem dX9_fits_45 : decode cX9_fits 45 = .ok (.getfield 37, 3) := by decide +kernel
theorem dX9_fits_48 : decode cX9_fits 48 = .ok (.getfield 127, 3) := by decide +kernel
theorem dX9_fits_51 : decode cX9_fits 51 = .ok (.iload_n 1, 1) := by decide +kernel
theorem dX9_fits_52 : decode cX9_fits 52 = .ok (.invokevirtual 130, 3) := by decide +kernel
theorem dX9_fits_55 : decode cX9_fits 55 = .ok (.ireturn, 1) := by decide +kernel
theorem dX9_least_0 : decode cX9_least 0 = .ok (.iload_n 1, 1) := by decide +kernel
theorem dX9_least_1 : decode cX9_least 1 = .ok (.iconst (-1), 1) := by decide +kernel
theorem dX9_least_2 : decode cX9_least 2 = .ok (.if_icmp .ge 6, 3) := by decide +kernel
theorem dX9_least_5 : decode cX9_least 5 = .ok (.bipush (-2), 2) := by decide +kernel
theorem dX9_least_7 : decode cX9_least 7 = .ok (.ireturn, 1) := by decide +kernel
theorem dX9_least_8 : decode cX9_least 8 = .ok (.aload_n 0, 1) := by decide +kernel
theorem dX9_least_9 : decode cX9_least 9 = .ok (.getfield 44, 3) := by decide +kernel
theorem dX9_least_12 : decode cX9_least 12 = .ok (.invokevirtual 134, 3) := by decide +kernel
theorem dX9_least_15 : decode cX9_least 15 = .ok (.iload_n 1, 1) := by decide +kernel
theorem dX9_least_16 : decode cX9_least 16 = .ok (.iconst (-1), 1) := by decide +kernel
theorem dX9_least_17 : decode cX9_least 17 = .ok (.if_icmp .ne 13, 3) := by decide +kernel
theorem dX9_least_20 : decode cX9_least 20 = .ok (.aload_n 0, 1) := by decide +kernel
theorem dX9_least_21 : decode cX9_least 21 = .ok (.getfield 44, 3) := by decide +kernel
theorem dX9_least_24 : decode cX9_least 24 = .ok (.getfield 135, 3) := by decide +kernel
theorem dX9_least_27 : decode cX9_least 27 = .ok (.goto 15, 3) := by decide +kernel
theorem dX9_least_30 : decode cX9_least 30 = .ok (.aload_n 0, 1) := by decide +kernel
theorem dX9_least_31 : decode cX9_least 31 = .ok (.aload_n 0, 1) := by decide +kernel
theorem dX9_least_32 : decode cX9_least 32 = .ok (.getfield 44, 3) := by decide +kernel
theorem dX9_least_35 : decode cX9_least 35 = .ok (.getfield 138, 3) := by decide +kernel
theorem dX9_least_38 : decode cX9_least 38 = .ok (.iload_n 1, 1) := by decide +kernel
theorem dX9_least_39 : decode cX9_least 39 = .ok (.invokevirtual 130, 3) := by decide +kernel
theorem dX9_least_42 : decode cX9_least 42 = .ok (.ireturn, 1) := by decide +kernel
theorem dX9_clash_0 : decode cX9_clash 0 = .ok (.iconst 0, 1) := by decide +kernel
theorem dX9_clash_1 : decode cX9_clash 1 = .ok (.istore_n 1, 1) := by decide +kernel
theorem dX9_clash_2 : decode cX9_clash 2 = .ok (.iconst 0, 1) := by decide +kernel
theorem dX9_clash_3 : decode cX9_clash 3 = .ok (.istore_n 2, 1) := by decide +kernel
theorem dX9_clash_4 : decode cX9_clash 4 = .ok (.iload_n 2, 1) := by decide +kernel
theorem dX9_clash_5 : decode cX9_clash 5 = .ok (.iconst 4, 1) := by decide +kernel
theorem dX9_clash_6 : decode cX9_clash 6 = .ok (.if_icmp .ge 34, 3) := by decide +kernel
theorem dX9_clash_9 : decode cX9_clash 9 = .ok (.aload_n 0, 1) := by decide +kernel
theorem dX9_clash_10 : decode cX9_clash 10 = .ok (.getfield 10, 3) := by decide +kernel
theorem dX9_clash_13 : decode cX9_clash 13 = .ok (.iload_n 2, 1) := by decide +kernel
theorem dX9_clash_14 : decode cX9_clash 14 = .ok (.invokevirtual 114, 3) := by decide +kernel
theorem dX9_clash_17 : decode cX9_clash 17 = .ok (.aload_n 0, 1) := by decide +kernel
theorem dX9_clash_18 : decode cX9_clash 18 = .ok (.getfield 10, 3) := by decide +kernel
theorem dX9_clash_21 : decode cX9_clash 21 = .ok (.iload_n 2, 1) := by decide +kernel
theorem dX9_clash_22 : decode cX9_clash 22 = .ok (.invokevirtual 118, 3) := by decide +kernel
theorem dX9_clash_25 : decode cX9_clash 25 = .ok (.if_icmp .le 9, 3) := by decide +kernel
theorem dX9_clash_28 : decode cX9_clash 28 = .ok (.iload_n 1, 1) := by decide +kernel
theorem dX9_clash_29 : decode cX9_clash 29 = .ok (.iconst 1, 1) := by decide +kernel
theorem dX9_clash_30 : decode cX9_clash 30 = .ok (.iload_n 2, 1) := by decide +kernel
theorem dX9_clash_31 : decode cX9_clash 31 = .ok (.ishl, 1) := by decide +kernel
theorem dX9_clash_32 : decode cX9_clash 32 = .ok (.ior, 1) := by decide +kernel
theorem dX9_clash_33 : decode cX9_clash 33 = .ok (.istore_n 1, 1) := by decide +kernel
theorem dX9_clash_34 : decode cX9_clash 34 = .ok (.iinc 2 1, 3) := by decide +kernel
theorem dX9_clash_37 : decode cX9_clash 37 = .ok (.goto (-33), 3) := by decide +kernel
theorem dX9_clash_40 : decode cX9_clash 40 = .ok (.iload_n 1, 1) := by decide +kernel
theorem dX9_clash_41 : decode cX9_clash 41 = .ok (.ireturn, 1) := by decide +kernel
theorem dX9_orders_0 : decode cX9_orders 0 = .ok (.iload_n 1, 1) := by decide +kernel
theorem dX9_orders_1 : decode cX9_orders 1 = .ok (.tableswitch 65 0 2 #[27, 35, 50], 27) := by decide +kernel
theorem dX9_orders_28 : decode cX9_orders 28 = .ok (.aload_n 0, 1) := by decide +kernel
theorem dX9_orders_29 : decode cX9_orders 29 = .ok (.getfield 10, 3) := by decide +kernel
theorem dX9_orders_32 : decode cX9_orders 32 = .ok (.invokevirtual 139, 3) := by decide +kernel
theorem dX9_orders_35 : decode cX9_orders 35 = .ok (.ireturn, 1) := by decide +kernel
theorem dX9_orders_36 : decode cX9_orders 36 = .ok (.aload_n 0, 1) := by decide +kernel
theorem dX9_orders_37 : decode cX9_orders 37 = .ok (.getfield 51, 3) := by decide +kernel
theorem dX9_orders_40 : decode cX9_orders 40 = .ok (.invokevirtual 142, 3) := by decide +kernel
theorem dX9_orders_43 : decode cX9_orders 43 = .ok (.aload_n 0, 1) := by decide +kernel
theorem dX9_orders_44 : decode cX9_orders 44 = .ok (.getfield 51, 3) := by decide +kernel
theorem dX9_orders_47 : decode cX9_orders 47 = .ok (.getfield 143, 3) := by decide +kernel
theorem dX9_orders_50 : decode cX9_orders 50 = .ok (.ireturn, 1) := by decide +kernel
theorem dX9_orders_51 : decode cX9_orders 51 = .ok (.aload_n 0, 1) := by decide +kernel
theorem dX9_orders_52 : decode cX9_orders 52 = .ok (.getfield 44, 3) := by decide +kernel
theorem dX9_orders_55 : decode cX9_orders 55 = .ok (.invokevirtual 134, 3) := by decide +kernel
theorem dX9_orders_58 : decode cX9_orders 58 = .ok (.aload_n 0, 1) := by decide +kernel
theorem dX9_orders_59 : decode cX9_orders 59 = .ok (.getfield 44, 3) := by decide +kernel
theorem dX9_orders_62 : decode cX9_orders 62 = .ok (.getfield 145, 3) := by decide +kernel
theorem dX9_orders_65 : decode cX9_orders 65 = .ok (.ireturn, 1) := by decide +kernel
theorem dX9_orders_66 : decode cX9_orders 66 = .ok (.bipush (-2), 2) := by decide +kernel
theorem dX9_orders_68 : decode cX9_orders 68 = .ok (.ireturn, 1) := by decide +kernel
theorem dX9_at_0 : decode cX9_at 0 = .ok (.aload_n 0, 1) := by decide +kernel
theorem dX9_at_1 : decode cX9_at 1 = .ok (.getfield 37, 3) := by decide +kernel
theorem dX9_at_4 : decode cX9_at 4 = .ok (.invokevirtual 121, 3) := by decide +kernel
theorem dX9_at_7 : decode cX9_at 7 = .ok (.aload_n 0, 1) := by decide +kernel
theorem dX9_at_8 : decode cX9_at 8 = .ok (.getfield 37, 3) := by decide +kernel
theorem dX9_at_11 : decode cX9_at 11 = .ok (.getfield 124, 3) := by decide +kernel
theorem dX9_at_14 : decode cX9_at 14 = .ok (.ifCond .ne 8, 3) := by decide +kernel
theorem dX9_at_17 : decode cX9_at 17 = .ok (.bipush (-6), 2) := by decide +kernel
theorem dX9_at_19 : decode cX9_at 19 = .ok (.goto 15, 3) := by decide +kernel
theorem dX9_at_22 : decode cX9_at 22 = .ok (.aload_n 0, 1) := by decide +kernel
theorem dX9_at_23 : decode cX9_at 23 = .ok (.aload_n 0, 1) := by decide +kernel
theorem dX9_at_24 : decode cX9_at 24 = .ok (.getfield 37, 3) := by decide +kernel
theorem dX9_at_27 : decode cX9_at 27 = .ok (.getfield 146, 3) := by decide +kernel
theorem dX9_at_30 : decode cX9_at 30 = .ok (.iload_n 1, 1) := by decide +kernel
theorem dX9_at_31 : decode cX9_at 31 = .ok (.invokevirtual 130, 3) := by decide +kernel
theorem dX9_at_34 : decode cX9_at 34 = .ok (.ireturn, 1) := by decide +kernel
theorem dX9_rule_0 : decode cX9_rule 0 = .ok (.iload_n 1, 1) := by decide +kernel
theorem dX9_rule_1 : decode cX9_rule 1 = .ok (.iconst (-1), 1) := by decide +kernel
theorem dX9_rule_2 : decode cX9_rule 2 = .ok (.if_icmp .ge 6, 3) := by decide +kernel
end
section
theorem dX9_rule_5 : decode cX9_rule 5 = .ok (.bipush (-2), 2) := by decide +kernel
theorem dX9_rule_7 : decode cX9_rule 7 = .ok (.ireturn, 1) := by decide +kernel
theorem dX9_rule_8 : decode cX9_rule 8 = .ok (.aload_n 0, 1) := by decide +kernel
theorem dX9_rule_9 : decode cX9_rule 9 = .ok (.getfield 28, 3) := by decide +kernel
theorem dX9_rule_12 : decode cX9_rule 12 = .ok (.aload_n 0, 1) := by decide +kernel
theorem dX9_rule_13 : decode cX9_rule 13 = .ok (.getfield 10, 3) := by decide +kernel
theorem dX9_rule_16 : decode cX9_rule 16 = .ok (.invokevirtual 107, 3) := by decide +kernel
theorem dX9_rule_19 : decode cX9_rule 19 = .ok (.invokevirtual 147, 3) := by decide +kernel
theorem dX9_rule_22 : decode cX9_rule 22 = .ok (.iload_n 1, 1) := by decide +kernel
theorem dX9_rule_23 : decode cX9_rule 23 = .ok (.iconst (-1), 1) := by decide +kernel
theorem dX9_rule_24 : decode cX9_rule 24 = .ok (.if_icmp .ne 13, 3) := by decide +kernel
theorem dX9_rule_27 : decode cX9_rule 27 = .ok (.aload_n 0, 1) := by decide +kernel
theorem dX9_rule_28 : decode cX9_rule 28 = .ok (.getfield 28, 3) := by decide +kernel
theorem dX9_rule_31 : decode cX9_rule 31 = .ok (.invokevirtual 151, 3) := by decide +kernel
theorem dX9_rule_34 : decode cX9_rule 34 = .ok (.goto 15, 3) := by decide +kernel
theorem dX9_rule_37 : decode cX9_rule 37 = .ok (.aload_n 0, 1) := by decide +kernel
theorem dX9_rule_38 : decode cX9_rule 38 = .ok (.aload_n 0, 1) := by decide +kernel
theorem dX9_rule_39 : decode cX9_rule 39 = .ok (.getfield 28, 3) := by decide +kernel
theorem dX9_rule_42 : decode cX9_rule 42 = .ok (.getfield 154, 3) := by decide +kernel
theorem dX9_rule_45 : decode cX9_rule 45 = .ok (.iload_n 1, 1) := by decide +kernel
theorem dX9_rule_46 : decode cX9_rule 46 = .ok (.invokevirtual 130, 3) := by decide +kernel
theorem dX9_rule_49 : decode cX9_rule 49 = .ok (.ireturn, 1) := by decide +kernel
theorem dX9_near_0 : decode cX9_near 0 = .ok (.iload_n 1, 1) := by decide +kernel
theorem dX9_near_1 : decode cX9_near 1 = .ok (.iconst (-1), 1) := by decide +kernel
theorem dX9_near_2 : decode cX9_near 2 = .ok (.if_icmp .ge 6, 3) := by decide +kernel
theorem dX9_near_5 : decode cX9_near 5 = .ok (.bipush (-2), 2) := by decide +kernel
theorem dX9_near_7 : decode cX9_near 7 = .ok (.ireturn, 1) := by decide +kernel
theorem dX9_near_8 : decode cX9_near 8 = .ok (.aload_n 0, 1) := by decide +kernel
theorem dX9_near_9 : decode cX9_near 9 = .ok (.getfield 37, 3) := by decide +kernel
theorem dX9_near_12 : decode cX9_near 12 = .ok (.invokevirtual 121, 3) := by decide +kernel
theorem dX9_near_15 : decode cX9_near 15 = .ok (.aload_n 0, 1) := by decide +kernel
theorem dX9_near_16 : decode cX9_near 16 = .ok (.getfield 37, 3) := by decide +kernel
theorem dX9_near_19 : decode cX9_near 19 = .ok (.getfield 124, 3) := by decide +kernel
theorem dX9_near_22 : decode cX9_near 22 = .ok (.ifCond .ne 6, 3) := by decide +kernel
theorem dX9_near_25 : decode cX9_near 25 = .ok (.bipush (-6), 2) := by decide +kernel
theorem dX9_near_27 : decode cX9_near 27 = .ok (.ireturn, 1) := by decide +kernel
theorem dX9_near_28 : decode cX9_near 28 = .ok (.iload_n 1, 1) := by decide +kernel
theorem dX9_near_29 : decode cX9_near 29 = .ok (.iconst (-1), 1) := by decide +kernel
theorem dX9_near_30 : decode cX9_near 30 = .ok (.if_icmp .ne 13, 3) := by decide +kernel
theorem dX9_near_33 : decode cX9_near 33 = .ok (.aload_n 0, 1) := by decide +kernel
theorem dX9_near_34 : decode cX9_near 34 = .ok (.getfield 37, 3) := by decide +kernel
theorem dX9_near_37 : decode cX9_near 37 = .ok (.getfield 157, 3) := by decide +kernel
theorem dX9_near_40 : decode cX9_near 40 = .ok (.goto 15, 3) := by decide +kernel
theorem dX9_near_43 : decode cX9_near 43 = .ok (.aload_n 0, 1) := by decide +kernel
theorem dX9_near_44 : decode cX9_near 44 = .ok (.aload_n 0, 1) := by decide +kernel
theorem dX9_near_45 : decode cX9_near 45 = .ok (.getfield 37, 3) := by decide +kernel
theorem dX9_near_48 : decode cX9_near 48 = .ok (.getfield 160, 3) := by decide +kernel
theorem dX9_near_51 : decode cX9_near 51 = .ok (.iload_n 1, 1) := by decide +kernel
theorem dX9_near_52 : decode cX9_near 52 = .ok (.invokevirtual 130, 3) := by decide +kernel
theorem dX9_near_55 : decode cX9_near 55 = .ok (.ireturn, 1) := by decide +kernel
theorem dX9_say_0 : decode cX9_say 0 = .ok (.iload_n 1, 1) := by decide +kernel
theorem dX9_say_1 : decode cX9_say 1 = .ok (.bipush 48, 2) := by decide +kernel
theorem dX9_say_3 : decode cX9_say 3 = .ok (.if_icmp .lt 9, 3) := by decide +kernel
theorem dX9_say_6 : decode cX9_say 6 = .ok (.iload_n 1, 1) := by decide +kernel
theorem dX9_say_7 : decode cX9_say 7 = .ok (.bipush 53, 2) := by decide +kernel
theorem dX9_say_9 : decode cX9_say 9 = .ok (.if_icmp .lt 12, 3) := by decide +kernel
theorem dX9_say_12 : decode cX9_say 12 = .ok (.iload_n 1, 1) := by decide +kernel
theorem dX9_say_13 : decode cX9_say 13 = .ok (.bipush 63, 2) := by decide +kernel
theorem dX9_say_15 : decode cX9_say 15 = .ok (.if_icmp .eq 6, 3) := by decide +kernel
theorem dX9_say_18 : decode cX9_say 18 = .ok (.bipush (-2), 2) := by decide +kernel
theorem dX9_say_20 : decode cX9_say 20 = .ok (.ireturn, 1) := by decide +kernel
theorem dX9_say_21 : decode cX9_say 21 = .ok (.aload_n 0, 1) := by decide +kernel
theorem dX9_say_22 : decode cX9_say 22 = .ok (.getfield 19, 3) := by decide +kernel
theorem dX9_say_25 : decode cX9_say 25 = .ok (.getfield 163, 3) := by decide +kernel
theorem dX9_say_28 : decode cX9_say 28 = .ok (.bipush 9, 2) := by decide +kernel
theorem dX9_say_30 : decode cX9_say 30 = .ok (.if_icmp .lt 6, 3) := by decide +kernel
theorem dX9_say_33 : decode cX9_say 33 = .ok (.bipush (-4), 2) := by decide +kernel
theorem dX9_say_35 : decode cX9_say 35 = .ok (.ireturn, 1) := by decide +kernel
theorem dX9_say_36 : decode cX9_say 36 = .ok (.aload_n 0, 1) := by decide +kernel
theorem dX9_say_37 : decode cX9_say 37 = .ok (.getfield 19, 3) := by decide +kernel
theorem dX9_say_40 : decode cX9_say 40 = .ok (.iload_n 1, 1) := by decide +kernel
theorem dX9_say_41 : decode cX9_say 41 = .ok (.bipush 63, 2) := by decide +kernel
theorem dX9_say_43 : decode cX9_say 43 = .ok (.if_icmp .ne 7, 3) := by decide +kernel
theorem dX9_say_46 : decode cX9_say 46 = .ok (.iconst (-1), 1) := by decide +kernel
theorem dX9_say_47 : decode cX9_say 47 = .ok (.goto 7, 3) := by decide +kernel
theorem dX9_say_50 : decode cX9_say 50 = .ok (.iload_n 1, 1) := by decide +kernel
theorem dX9_say_51 : decode cX9_say 51 = .ok (.bipush 48, 2) := by decide +kernel
theorem dX9_say_53 : decode cX9_say 53 = .ok (.isub, 1) := by decide +kernel
theorem dX9_say_54 : decode cX9_say 54 = .ok (.invokevirtual 166, 3) := by decide +kernel
theorem dX9_say_57 : decode cX9_say 57 = .ok (.aload_n 0, 1) := by decide +kernel
theorem dX9_say_58 : decode cX9_say 58 = .ok (.getfield 60, 3) := by decide +kernel
theorem dX9_say_61 : decode cX9_say 61 = .ok (.invokevirtual 169, 3) := by decide +kernel
theorem dX9_say_64 : decode cX9_say 64 = .ok (.aload_n 0, 1) := by decide +kernel
theorem dX9_say_65 : decode cX9_say 65 = .ok (.getfield 19, 3) := by decide +kernel
theorem dX9_say_68 : decode cX9_say 68 = .ok (.getfield 163, 3) := by decide +kernel
theorem dX9_say_71 : decode cX9_say 71 = .ok (.ireturn, 1) := by decide +kernel
theorem dX9_wipe_0 : decode cX9_wipe 0 = .ok (.aload_n 0, 1) := by decide +kernel
theorem dX9_wipe_1 : decode cX9_wipe 1 = .ok (.getfield 19, 3) := by decide +kernel
theorem dX9_wipe_4 : decode cX9_wipe 4 = .ok (.getfield 163, 3) := by decide +kernel
theorem dX9_wipe_7 : decode cX9_wipe 7 = .ok (.istore_n 1, 1) := by decide +kernel
theorem dX9_wipe_8 : decode cX9_wipe 8 = .ok (.aload_n 0, 1) := by decide +kernel
theorem dX9_wipe_9 : decode cX9_wipe 9 = .ok (.getfield 19, 3) := by decide +kernel
theorem dX9_wipe_12 : decode cX9_wipe 12 = .ok (.iconst 0, 1) := by decide +kernel
theorem dX9_wipe_13 : decode cX9_wipe 13 = .ok (.putfield 163, 3) := by decide +kernel
theorem dX9_wipe_16 : decode cX9_wipe 16 = .ok (.aload_n 0, 1) := by decide +kernel
theorem dX9_wipe_17 : decode cX9_wipe 17 = .ok (.getfield 60, 3) := by decide +kernel
theorem dX9_wipe_20 : decode cX9_wipe 20 = .ok (.invokevirtual 169, 3) := by decide +kernel
theorem dX9_wipe_23 : decode cX9_wipe 23 = .ok (.iload_n 1, 1) := by decide +kernel
theorem dX9_wipe_24 : decode cX9_wipe 24 = .ok (.ireturn, 1) := by decide +kernel
theorem dX9_row_0 : decode cX9_row 0 = .ok (.iload_n 1, 1) := by decide +kernel
theorem dX9_row_1 : decode cX9_row 1 = .ok (.ifCond .lt 8, 3) := by decide +kernel
theorem dX9_row_4 : decode cX9_row 4 = .ok (.iload_n 1, 1) := by decide +kernel
theorem dX9_row_5 : decode cX9_row 5 = .ok (.iconst 2, 1) := by decide +kernel
theorem dX9_row_6 : decode cX9_row 6 = .ok (.if_icmp .le 6, 3) := by decide +kernel
theorem dX9_row_9 : decode cX9_row 9 = .ok (.bipush (-2), 2) := by decide +kernel
theorem dX9_row_11 : decode cX9_row 11 = .ok (.ireturn, 1) := by decide +kernel
theorem dX9_row_12 : decode cX9_row 12 = .ok (.aload_n 0, 1) := by decide +kernel
theorem dX9_row_13 : decode cX9_row 13 = .ok (.getfield 19, 3) := by decide +kernel
theorem dX9_row_16 : decode cX9_row 16 = .ok (.invokevirtual 172, 3) := by decide +kernel
theorem dX9_row_19 : decode cX9_row 19 = .ok (.ifCond .eq 6, 3) := by decide +kernel
theorem dX9_row_22 : decode cX9_row 22 = .ok (.bipush (-7), 2) := by decide +kernel
theorem dX9_row_24 : decode cX9_row 24 = .ok (.ireturn, 1) := by decide +kernel
theorem dX9_row_25 : decode cX9_row 25 = .ok (.aload_n 0, 1) := by decide +kernel
theorem dX9_row_26 : decode cX9_row 26 = .ok (.invokevirtual 176, 3) := by decide +kernel
theorem dX9_row_29 : decode cX9_row 29 = .ok (.istore_n 2, 1) := by decide +kernel
theorem dX9_row_30 : decode cX9_row 30 = .ok (.iload_n 1, 1) := by decide +kernel
theorem dX9_row_31 : decode cX9_row 31 = .ok (.lookupswitch 41 #[(0, 25), (1, 33)], 25) := by decide +kernel
theorem dX9_row_56 : decode cX9_row 56 = .ok (.aload_n 0, 1) := by decide +kernel
theorem dX9_row_57 : decode cX9_row 57 = .ok (.getfield 28, 3) := by decide +kernel
theorem dX9_row_60 : decode cX9_row 60 = .ok (.invokevirtual 151, 3) := by decide +kernel
theorem dX9_row_63 : decode cX9_row 63 = .ok (.ireturn, 1) := by decide +kernel
theorem dX9_row_64 : decode cX9_row 64 = .ok (.aload_n 0, 1) := by decide +kernel
theorem dX9_row_65 : decode cX9_row 65 = .ok (.getfield 28, 3) := by decide +kernel
theorem dX9_row_68 : decode cX9_row 68 = .ok (.invokevirtual 179, 3) := by decide +kernel
theorem dX9_row_71 : decode cX9_row 71 = .ok (.ireturn, 1) := by decide +kernel
theorem dX9_row_72 : decode cX9_row 72 = .ok (.aload_n 0, 1) := by decide +kernel
theorem dX9_row_73 : decode cX9_row 73 = .ok (.getfield 28, 3) := by decide +kernel
theorem dX9_row_76 : decode cX9_row 76 = .ok (.invokevirtual 182, 3) := by decide +kernel
theorem dX9_row_79 : decode cX9_row 79 = .ok (.ifCond .eq 7, 3) := by decide +kernel
theorem dX9_row_82 : decode cX9_row 82 = .ok (.iload_n 2, 1) := by decide +kernel
theorem dX9_row_83 : decode cX9_row 83 = .ok (.goto 5, 3) := by decide +kernel
theorem dX9_row_86 : decode cX9_row 86 = .ok (.bipush (-6), 2) := by decide +kernel
theorem dX9_row_88 : decode cX9_row 88 = .ok (.ireturn, 1) := by decide +kernel
theorem dX9_filled_0 : decode cX9_filled 0 = .ok (.iload_n 1, 1) := by decide +kernel
theorem dX9_filled_1 : decode cX9_filled 1 = .ok (.iconst (-1), 1) := by decide +kernel
theorem dX9_filled_2 : decode cX9_filled 2 = .ok (.if_icmp .ge 6, 3) := by decide +kernel
theorem dX9_filled_5 : decode cX9_filled 5 = .ok (.bipush (-2), 2) := by decide +kernel
theorem dX9_filled_7 : decode cX9_filled 7 = .ok (.ireturn, 1) := by decide +kernel
theorem dX9_filled_8 : decode cX9_filled 8 = .ok (.aload_n 0, 1) := by decide +kernel
theorem dX9_filled_9 : decode cX9_filled 9 = .ok (.getfield 60, 3) := by decide +kernel
theorem dX9_filled_12 : decode cX9_filled 12 = .ok (.invokevirtual 185, 3) := by decide +kernel
theorem dX9_filled_15 : decode cX9_filled 15 = .ok (.iload_n 1, 1) := by decide +kernel
theorem dX9_filled_16 : decode cX9_filled 16 = .ok (.iconst (-1), 1) := by decide +kernel
theorem dX9_filled_17 : decode cX9_filled 17 = .ok (.if_icmp .ne 11, 3) := by decide +kernel
theorem dX9_filled_20 : decode cX9_filled 20 = .ok (.aload_n 0, 1) := by decide +kernel
theorem dX9_filled_21 : decode cX9_filled 21 = .ok (.getfield 60, 3) := by decide +kernel
theorem dX9_filled_24 : decode cX9_filled 24 = .ok (.getfield 186, 3) := by decide +kernel
theorem dX9_filled_27 : decode cX9_filled 27 = .ok (.ireturn, 1) := by decide +kernel
theorem dX9_filled_28 : decode cX9_filled 28 = .ok (.aload_n 0, 1) := by decide +kernel
theorem dX9_filled_29 : decode cX9_filled 29 = .ok (.getfield 60, 3) := by decide +kernel
theorem dX9_filled_32 : decode cX9_filled 32 = .ok (.getfield 186, 3) := by decide +kernel
theorem dX9_filled_35 : decode cX9_filled 35 = .ok (.ifCond .ne 8, 3) := by decide +kernel
theorem dX9_filled_38 : decode cX9_filled 38 = .ok (.bipush (-6), 2) := by decide +kernel
theorem dX9_filled_40 : decode cX9_filled 40 = .ok (.goto 15, 3) := by decide +kernel
theorem dX9_filled_43 : decode cX9_filled 43 = .ok (.aload_n 0, 1) := by decide +kernel
theorem dX9_filled_44 : decode cX9_filled 44 = .ok (.aload_n 0, 1) := by decide +kernel
theorem dX9_filled_45 : decode cX9_filled 45 = .ok (.getfield 60, 3) := by decide +kernel
theorem dX9_filled_48 : decode cX9_filled 48 = .ok (.getfield 187, 3) := by decide +kernel
theorem dX9_filled_51 : decode cX9_filled 51 = .ok (.iload_n 1, 1) := by decide +kernel
theorem dX9_filled_52 : decode cX9_filled 52 = .ok (.invokevirtual 130, 3) := by decide +kernel
theorem dX9_filled_55 : decode cX9_filled 55 = .ok (.ireturn, 1) := by decide +kernel
theorem dX9_lane_0 : decode cX9_lane 0 = .ok (.iload_n 1, 1) := by decide +kernel
theorem dX9_lane_1 : decode cX9_lane 1 = .ok (.ifCond .lt 8, 3) := by decide +kernel
theorem dX9_lane_4 : decode cX9_lane 4 = .ok (.iload_n 1, 1) := by decide +kernel
theorem dX9_lane_5 : decode cX9_lane 5 = .ok (.iconst 2, 1) := by decide +kernel
theorem dX9_lane_6 : decode cX9_lane 6 = .ok (.if_icmp .le 6, 3) := by decide +kernel
theorem dX9_lane_9 : decode cX9_lane 9 = .ok (.bipush (-2), 2) := by decide +kernel
theorem dX9_lane_11 : decode cX9_lane 11 = .ok (.ireturn, 1) := by decide +kernel
theorem dX9_lane_12 : decode cX9_lane 12 = .ok (.aload_n 0, 1) := by decide +kernel
theorem dX9_lane_13 : decode cX9_lane 13 = .ok (.getfield 19, 3) := by decide +kernel
theorem dX9_lane_16 : decode cX9_lane 16 = .ok (.invokevirtual 172, 3) := by decide +kernel
theorem dX9_lane_19 : decode cX9_lane 19 = .ok (.ifCond .eq 6, 3) := by decide +kernel
theorem dX9_lane_22 : decode cX9_lane 22 = .ok (.bipush (-7), 2) := by decide +kernel
theorem dX9_lane_24 : decode cX9_lane 24 = .ok (.ireturn, 1) := by decide +kernel
theorem dX9_lane_25 : decode cX9_lane 25 = .ok (.aload_n 0, 1) := by decide +kernel
theorem dX9_lane_26 : decode cX9_lane 26 = .ok (.getfield 69, 3) := by decide +kernel
theorem dX9_lane_29 : decode cX9_lane 29 = .ok (.iload_n 1, 1) := by decide +kernel
theorem dX9_lane_30 : decode cX9_lane 30 = .ok (.invokevirtual 188, 3) := by decide +kernel
theorem dX9_lane_33 : decode cX9_lane 33 = .ok (.ireturn, 1) := by decide +kernel
theorem dX9_image_0 : decode cX9_image 0 = .ok (.iload_n 1, 1) := by decide +kernel
theorem dX9_image_1 : decode cX9_image 1 = .ok (.invokestatic 191, 3) := by decide +kernel
theorem dX9_image_4 : decode cX9_image 4 = .ok (.ifCond .ne 6, 3) := by decide +kernel
theorem dX9_image_7 : decode cX9_image 7 = .ok (.bipush (-2), 2) := by decide +kernel
theorem dX9_image_9 : decode cX9_image 9 = .ok (.ireturn, 1) := by decide +kernel
theorem dX9_image_10 : decode cX9_image 10 = .ok (.aload_n 0, 1) := by decide +kernel
theorem dX9_image_11 : decode cX9_image 11 = .ok (.iload_n 1, 1) := by decide +kernel
theorem dX9_image_12 : decode cX9_image 12 = .ok (.invokevirtual 194, 3) := by decide +kernel
theorem dX9_image_15 : decode cX9_image 15 = .ok (.aload_n 0, 1) := by decide +kernel
theorem dX9_image_16 : decode cX9_image 16 = .ok (.getfield 10, 3) := by decide +kernel
theorem dX9_image_19 : decode cX9_image 19 = .ok (.invokevirtual 198, 3) := by decide +kernel
theorem dX9_image_22 : decode cX9_image 22 = .ok (.aload_n 0, 1) := by decide +kernel
theorem dX9_image_23 : decode cX9_image 23 = .ok (.dup, 1) := by decide +kernel
theorem dX9_image_24 : decode cX9_image 24 = .ok (.getfield 79, 3) := by decide +kernel
theorem dX9_image_27 : decode cX9_image 27 = .ok (.iconst 1, 1) := by decide +kernel
theorem dX9_image_28 : decode cX9_image 28 = .ok (.iload_n 1, 1) := by decide +kernel
theorem dX9_image_29 : decode cX9_image 29 = .ok (.ishl, 1) := by decide +kernel
theorem dX9_image_30 : decode cX9_image 30 = .ok (.ior, 1) := by decide +kernel
theorem dX9_image_31 : decode cX9_image 31 = .ok (.putfield 79, 3) := by decide +kernel
theorem dX9_image_34 : decode cX9_image 34 = .ok (.iconst 1, 1) := by decide +kernel
theorem dX9_image_35 : decode cX9_image 35 = .ok (.ireturn, 1) := by decide +kernel
theorem dX9_restore_0 : decode cX9_restore 0 = .ok (.iload_n 1, 1) := by decide +kernel
theorem dX9_restore_1 : decode cX9_restore 1 = .ok (.invokestatic 191, 3) := by decide +kernel
theorem dX9_restore_4 : decode cX9_restore 4 = .ok (.ifCond .ne 6, 3) := by decide +kernel
theorem dX9_restore_7 : decode cX9_restore 7 = .ok (.bipush (-2), 2) := by decide +kernel
theorem dX9_restore_9 : decode cX9_restore 9 = .ok (.ireturn, 1) := by decide +kernel
theorem dX9_restore_10 : decode cX9_restore 10 = .ok (.aload_n 0, 1) := by decide +kernel
theorem dX9_restore_11 : decode cX9_restore 11 = .ok (.getfield 79, 3) := by decide +kernel
theorem dX9_restore_14 : decode cX9_restore 14 = .ok (.iload_n 1, 1) := by decide +kernel
theorem dX9_restore_15 : decode cX9_restore 15 = .ok (.ishr, 1) := by decide +kernel
theorem dX9_restore_16 : decode cX9_restore 16 = .ok (.iconst 1, 1) := by decide +kernel
theorem dX9_restore_17 : decode cX9_restore 17 = .ok (.iand, 1) := by decide +kernel
theorem dX9_restore_18 : decode cX9_restore 18 = .ok (.ifCond .ne 6, 3) := by decide +kernel
theorem dX9_restore_21 : decode cX9_restore 21 = .ok (.bipush (-3), 2) := by decide +kernel
theorem dX9_restore_23 : decode cX9_restore 23 = .ok (.ireturn, 1) := by decide +kernel
theorem dX9_restore_24 : decode cX9_restore 24 = .ok (.aload_n 0, 1) := by decide +kernel
theorem dX9_restore_25 : decode cX9_restore 25 = .ok (.getfield 10, 3) := by decide +kernel
theorem dX9_restore_28 : decode cX9_restore 28 = .ok (.aload_n 0, 1) := by decide +kernel
theorem dX9_restore_29 : decode cX9_restore 29 = .ok (.iload_n 1, 1) := by decide +kernel
theorem dX9_restore_30 : decode cX9_restore 30 = .ok (.invokevirtual 194, 3) := by decide +kernel
theorem dX9_restore_33 : decode cX9_restore 33 = .ok (.invokevirtual 198, 3) := by decide +kernel
theorem dX9_restore_36 : decode cX9_restore 36 = .ok (.aload_n 0, 1) := by decide +kernel
theorem dX9_restore_37 : decode cX9_restore 37 = .ok (.invokevirtual 98, 3) := by decide +kernel
theorem dX9_restore_40 : decode cX9_restore 40 = .ok (.iconst 1, 1) := by decide +kernel
theorem dX9_restore_41 : decode cX9_restore 41 = .ok (.ireturn, 1) := by decide +kernel
theorem dX9_count_0 : decode cX9_count 0 = .ok (.iload_n 1, 1) := by decide +kernel
theorem dX9_count_1 : decode cX9_count 1 = .ok (.tableswitch 77 0 4 #[35, 43, 51, 59, 72], 35) := by decide +kernel
theorem dX9_count_36 : decode cX9_count 36 = .ok (.aload_n 0, 1) := by decide +kernel
theorem dX9_count_37 : decode cX9_count 37 = .ok (.getfield 10, 3) := by decide +kernel
theorem dX9_count_40 : decode cX9_count 40 = .ok (.invokevirtual 107, 3) := by decide +kernel
theorem dX9_count_43 : decode cX9_count 43 = .ok (.ireturn, 1) := by decide +kernel
theorem dX9_count_44 : decode cX9_count 44 = .ok (.aload_n 0, 1) := by decide +kernel
theorem dX9_count_45 : decode cX9_count 45 = .ok (.getfield 10, 3) := by decide +kernel
theorem dX9_count_48 : decode cX9_count 48 = .ok (.invokevirtual 201, 3) := by decide +kernel
theorem dX9_count_51 : decode cX9_count 51 = .ok (.ireturn, 1) := by decide +kernel
theorem dX9_count_52 : decode cX9_count 52 = .ok (.aload_n 0, 1) := by decide +kernel
theorem dX9_count_53 : decode cX9_count 53 = .ok (.getfield 19, 3) := by decide +kernel
theorem dX9_count_56 : decode cX9_count 56 = .ok (.getfield 163, 3) := by decide +kernel
theorem dX9_count_59 : decode cX9_count 59 = .ok (.ireturn, 1) := by decide +kernel
theorem dX9_count_60 : decode cX9_count 60 = .ok (.aload_n 0, 1) := by decide +kernel
theorem dX9_count_61 : decode cX9_count 61 = .ok (.invokevirtual 204, 3) := by decide +kernel
theorem dX9_count_64 : decode cX9_count 64 = .ok (.ifCond .eq 7, 3) := by decide +kernel
theorem dX9_count_67 : decode cX9_count 67 = .ok (.iconst 1, 1) := by decide +kernel
theorem dX9_count_68 : decode cX9_count 68 = .ok (.goto 4, 3) := by decide +kernel
theorem dX9_count_71 : decode cX9_count 71 = .ok (.iconst 0, 1) := by decide +kernel
theorem dX9_count_72 : decode cX9_count 72 = .ok (.ireturn, 1) := by decide +kernel
theorem dX9_count_73 : decode cX9_count 73 = .ok (.aload_n 0, 1) := by decide +kernel
theorem dX9_count_74 : decode cX9_count 74 = .ok (.getfield 79, 3) := by decide +kernel
theorem dX9_count_77 : decode cX9_count 77 = .ok (.ireturn, 1) := by decide +kernel
theorem dX9_count_78 : decode cX9_count 78 = .ok (.bipush (-2), 2) := by decide +kernel
theorem dX9_count_80 : decode cX9_count 80 = .ok (.ireturn, 1) := by decide +kernel
theorem dX9_isOption_0 : decode cX9_isOption 0 = .ok (.iload_n 0, 1) := by decide +kernel
theorem dX9_isOption_1 : decode cX9_isOption 1 = .ok (.ifCond .lt 12, 3) := by decide +kernel
theorem dX9_isOption_4 : decode cX9_isOption 4 = .ok (.iload_n 0, 1) := by decide +kernel
theorem dX9_isOption_5 : decode cX9_isOption 5 = .ok (.iconst 4, 1) := by decide +kernel
theorem dX9_isOption_6 : decode cX9_isOption 6 = .ok (.if_icmp .ge 7, 3) := by decide +kernel
theorem dX9_isOption_9 : decode cX9_isOption 9 = .ok (.iconst 1, 1) := by decide +kernel
theorem dX9_isOption_10 : decode cX9_isOption 10 = .ok (.goto 4, 3) := by decide +kernel
theorem dX9_isOption_13 : decode cX9_isOption 13 = .ok (.iconst 0, 1) := by decide +kernel
theorem dX9_isOption_14 : decode cX9_isOption 14 = .ok (.ireturn, 1) := by decide +kernel
theorem dX9_isClass_0 : decode cX9_isClass 0 = .ok (.iload_n 0, 1) := by decide +kernel
theorem dX9_isClass_1 : decode cX9_isClass 1 = .ok (.ifCond .lt 12, 3) := by decide +kernel
theorem dX9_isClass_4 : decode cX9_isClass 4 = .ok (.iload_n 0, 1) := by decide +kernel
theorem dX9_isClass_5 : decode cX9_isClass 5 = .ok (.iconst 5, 1) := by decide +kernel
theorem dX9_isClass_6 : decode cX9_isClass 6 = .ok (.if_icmp .ge 7, 3) := by decide +kernel
theorem dX9_isClass_9 : decode cX9_isClass 9 = .ok (.iconst 1, 1) := by decide +kernel
theorem dX9_isClass_10 : decode cX9_isClass 10 = .ok (.goto 4, 3) := by decide +kernel
theorem dX9_isClass_13 : decode cX9_isClass 13 = .ok (.iconst 0, 1) := by decide +kernel
theorem dX9_isClass_14 : decode cX9_isClass 14 = .ok (.ireturn, 1) := by decide +kernel
theorem dX9_isImage_0 : decode cX9_isImage 0 = .ok (.iload_n 0, 1) := by decide +kernel
theorem dX9_isImage_1 : decode cX9_isImage 1 = .ok (.ifCond .lt 12, 3) := by decide +kernel
theorem dX9_isImage_4 : decode cX9_isImage 4 = .ok (.iload_n 0, 1) := by decide +kernel
theorem dX9_isImage_5 : decode cX9_isImage 5 = .ok (.iconst 2, 1) := by decide +kernel
theorem dX9_isImage_6 : decode cX9_isImage 6 = .ok (.if_icmp .ge 7, 3) := by decide +kernel
theorem dX9_isImage_9 : decode cX9_isImage 9 = .ok (.iconst 1, 1) := by decide +kernel
theorem dX9_isImage_10 : decode cX9_isImage 10 = .ok (.goto 4, 3) := by decide +kernel
theorem dX9_isImage_13 : decode cX9_isImage 13 = .ok (.iconst 0, 1) := by decide +kernel
theorem dX9_isImage_14 : decode cX9_isImage 14 = .ok (.ireturn, 1) := by decide +kernel
theorem dX9_imageOf_0 : decode cX9_imageOf 0 = .ok (.iload_n 1, 1) := by decide +kernel
theorem dX9_imageOf_1 : decode cX9_imageOf 1 = .ok (.ifCond .ne 10, 3) := by decide +kernel
theorem dX9_imageOf_4 : decode cX9_imageOf 4 = .ok (.aload_n 0, 1) := by decide +kernel
theorem dX9_imageOf_5 : decode cX9_imageOf 5 = .ok (.getfield 73, 3) := by decide +kernel
theorem dX9_imageOf_8 : decode cX9_imageOf 8 = .ok (.goto 7, 3) := by decide +kernel
theorem dX9_imageOf_11 : decode cX9_imageOf 11 = .ok (.aload_n 0, 1) := by decide +kernel
theorem dX9_imageOf_12 : decode cX9_imageOf 12 = .ok (.getfield 76, 3) := by decide +kernel
theorem dX9_imageOf_15 : decode cX9_imageOf 15 = .ok (.areturn, 1) := by decide +kernel
theorem dX9_forgetOrders_0 : decode cX9_forgetOrders 0 = .ok (.aload_n 0, 1) := by decide +kernel
theorem dX9_forgetOrders_1 : decode cX9_forgetOrders 1 = .ok (.getfield 37, 3) := by decide +kernel
theorem dX9_forgetOrders_4 : decode cX9_forgetOrders 4 = .ok (.invokevirtual 207, 3) := by decide +kernel
theorem dX9_forgetOrders_7 : decode cX9_forgetOrders 7 = .ok (.aload_n 0, 1) := by decide +kernel
theorem dX9_forgetOrders_8 : decode cX9_forgetOrders 8 = .ok (.getfield 44, 3) := by decide +kernel
theorem dX9_forgetOrders_11 : decode cX9_forgetOrders 11 = .ok (.invokevirtual 208, 3) := by decide +kernel
theorem dX9_forgetOrders_14 : decode cX9_forgetOrders 14 = .ok (.aload_n 0, 1) := by decide +kernel
theorem dX9_forgetOrders_15 : decode cX9_forgetOrders 15 = .ok (.getfield 51, 3) := by decide +kernel
theorem dX9_forgetOrders_18 : decode cX9_forgetOrders 18 = .ok (.invokevirtual 209, 3) := by decide +kernel
theorem dX9_forgetOrders_21 : decode cX9_forgetOrders 21 = .ok (.aload_n 0, 1) := by decide +kernel
theorem dX9_forgetOrders_22 : decode cX9_forgetOrders 22 = .ok (.getfield 60, 3) := by decide +kernel
theorem dX9_forgetOrders_25 : decode cX9_forgetOrders 25 = .ok (.invokevirtual 169, 3) := by decide +kernel
theorem dX9_forgetOrders_28 : decode cX9_forgetOrders 28 = .ok (.return_, 1) := by decide +kernel
theorem dX9_classAt_0 : decode cX9_classAt 0 = .ok (.iload_n 2, 1) := by decide +kernel
theorem dX9_classAt_1 : decode cX9_classAt 1 = .ok (.ifCond .lt 26, 3) := by decide +kernel
theorem dX9_classAt_4 : decode cX9_classAt 4 = .ok (.iload_n 2, 1) := by decide +kernel
theorem dX9_classAt_5 : decode cX9_classAt 5 = .ok (.aload_n 0, 1) := by decide +kernel
theorem dX9_classAt_6 : decode cX9_classAt 6 = .ok (.getfield 10, 3) := by decide +kernel
theorem dX9_classAt_9 : decode cX9_classAt 9 = .ok (.invokevirtual 107, 3) := by decide +kernel
theorem dX9_classAt_12 : decode cX9_classAt 12 = .ok (.if_icmp .ge 15, 3) := by decide +kernel
theorem dX9_classAt_15 : decode cX9_classAt 15 = .ok (.iload_n 2, 1) := by decide +kernel
theorem dX9_classAt_16 : decode cX9_classAt 16 = .ok (.aload_n 1, 1) := by decide +kernel
theorem dX9_classAt_17 : decode cX9_classAt 17 = .ok (.arraylength, 1) := by decide +kernel
theorem dX9_classAt_18 : decode cX9_classAt 18 = .ok (.if_icmp .ge 9, 3) := by decide +kernel
theorem dX9_classAt_21 : decode cX9_classAt 21 = .ok (.aload_n 1, 1) := by decide +kernel
theorem dX9_classAt_22 : decode cX9_classAt 22 = .ok (.iload_n 2, 1) := by decide +kernel
theorem dX9_classAt_23 : decode cX9_classAt 23 = .ok (.iaload, 1) := by decide +kernel
theorem dX9_classAt_24 : decode cX9_classAt 24 = .ok (.goto 5, 3) := by decide +kernel
theorem dX9_classAt_27 : decode cX9_classAt 27 = .ok (.bipush (-6), 2) := by decide +kernel
theorem dX9_classAt_29 : decode cX9_classAt 29 = .ok (.ireturn, 1) := by decide +kernel
theorem dX9_walkPad_0 : decode cX9_walkPad 0 = .ok (.iconst 0, 1) := by decide +kernel
theorem dX9_walkPad_1 : decode cX9_walkPad 1 = .ok (.istore_n 1, 1) := by decide +kernel
theorem dX9_walkPad_2 : decode cX9_walkPad 2 = .ok (.aload_n 0, 1) := by decide +kernel
theorem dX9_walkPad_3 : decode cX9_walkPad 3 = .ok (.getfield 28, 3) := by decide +kernel
theorem dX9_walkPad_6 : decode cX9_walkPad 6 = .ok (.invokevirtual 210, 3) := by decide +kernel
theorem dX9_walkPad_9 : decode cX9_walkPad 9 = .ok (.iconst 0, 1) := by decide +kernel
theorem dX9_walkPad_10 : decode cX9_walkPad 10 = .ok (.istore_n 2, 1) := by decide +kernel
theorem dX9_walkPad_11 : decode cX9_walkPad 11 = .ok (.iload_n 2, 1) := by decide +kernel
theorem dX9_walkPad_12 : decode cX9_walkPad 12 = .ok (.aload_n 0, 1) := by decide +kernel
theorem dX9_walkPad_13 : decode cX9_walkPad 13 = .ok (.getfield 19, 3) := by decide +kernel
theorem dX9_walkPad_16 : decode cX9_walkPad 16 = .ok (.getfield 163, 3) := by decide +kernel
theorem dX9_walkPad_19 : decode cX9_walkPad 19 = .ok (.if_icmp .ge 40, 3) := by decide +kernel
theorem dX9_walkPad_22 : decode cX9_walkPad 22 = .ok (.aload_n 0, 1) := by decide +kernel
theorem dX9_walkPad_23 : decode cX9_walkPad 23 = .ok (.getfield 19, 3) := by decide +kernel
theorem dX9_walkPad_26 : decode cX9_walkPad 26 = .ok (.iload_n 2, 1) := by decide +kernel
theorem dX9_walkPad_27 : decode cX9_walkPad 27 = .ok (.invokevirtual 213, 3) := by decide +kernel
theorem dX9_walkPad_30 : decode cX9_walkPad 30 = .ok (.istore_n 3, 1) := by decide +kernel
theorem dX9_walkPad_31 : decode cX9_walkPad 31 = .ok (.aload_n 0, 1) := by decide +kernel
theorem dX9_walkPad_32 : decode cX9_walkPad 32 = .ok (.getfield 28, 3) := by decide +kernel
theorem dX9_walkPad_35 : decode cX9_walkPad 35 = .ok (.invokevirtual 216, 3) := by decide +kernel
theorem dX9_walkPad_38 : decode cX9_walkPad 38 = .ok (.iload_n 3, 1) := by decide +kernel
theorem dX9_walkPad_39 : decode cX9_walkPad 39 = .ok (.if_icmp .eq 6, 3) := by decide +kernel
theorem dX9_walkPad_42 : decode cX9_walkPad 42 = .ok (.iinc 1 1, 3) := by decide +kernel
theorem dX9_walkPad_45 : decode cX9_walkPad 45 = .ok (.aload_n 0, 1) := by decide +kernel
theorem dX9_walkPad_46 : decode cX9_walkPad 46 = .ok (.getfield 28, 3) := by decide +kernel
theorem dX9_walkPad_49 : decode cX9_walkPad 49 = .ok (.iload_n 3, 1) := by decide +kernel
theorem dX9_walkPad_50 : decode cX9_walkPad 50 = .ok (.invokevirtual 219, 3) := by decide +kernel
theorem dX9_walkPad_53 : decode cX9_walkPad 53 = .ok (.iinc 2 1, 3) := by decide +kernel
theorem dX9_walkPad_56 : decode cX9_walkPad 56 = .ok (.goto (-45), 3) := by decide +kernel
theorem dX9_walkPad_59 : decode cX9_walkPad 59 = .ok (.iload_n 1, 1) := by decide +kernel
theorem dX9_walkPad_60 : decode cX9_walkPad 60 = .ok (.ireturn, 1) := by decide +kernel
theorem dX9_padIsOrder_0 : decode cX9_padIsOrder 0 = .ok (.aload_n 0, 1) := by decide +kernel
theorem dX9_padIsOrder_1 : decode cX9_padIsOrder 1 = .ok (.getfield 19, 3) := by decide +kernel
theorem dX9_padIsOrder_4 : decode cX9_padIsOrder 4 = .ok (.invokevirtual 172, 3) := by decide +kernel
theorem dX9_padIsOrder_7 : decode cX9_padIsOrder 7 = .ok (.ifCond .eq 5, 3) := by decide +kernel
theorem dX9_padIsOrder_10 : decode cX9_padIsOrder 10 = .ok (.iconst 0, 1) := by decide +kernel
theorem dX9_padIsOrder_11 : decode cX9_padIsOrder 11 = .ok (.ireturn, 1) := by decide +kernel
theorem dX9_padIsOrder_12 : decode cX9_padIsOrder 12 = .ok (.aload_n 0, 1) := by decide +kernel
theorem dX9_padIsOrder_13 : decode cX9_padIsOrder 13 = .ok (.invokevirtual 176, 3) := by decide +kernel
theorem dX9_padIsOrder_16 : decode cX9_padIsOrder 16 = .ok (.pop, 1) := by decide +kernel
theorem dX9_padIsOrder_17 : decode cX9_padIsOrder 17 = .ok (.aload_n 0, 1) := by decide +kernel
theorem dX9_padIsOrder_18 : decode cX9_padIsOrder 18 = .ok (.getfield 28, 3) := by decide +kernel
theorem dX9_padIsOrder_21 : decode cX9_padIsOrder 21 = .ok (.invokevirtual 182, 3) := by decide +kernel
theorem dX9_padIsOrder_24 : decode cX9_padIsOrder 24 = .ok (.ireturn, 1) := by decide +kernel
end
section
theorem dX10_init_0 : decode cX10_init 0 = .ok (.aload_n 0, 1) := by decide +kernel
theorem dX10_init_1 : decode cX10_init 1 = .ok (.invokespecial 1, 3) := by decide +kernel
theorem dX10_init_4 : decode cX10_init 4 = .ok (.aload_n 0, 1) := by decide +kernel
theorem dX10_init_5 : decode cX10_init 5 = .ok (.bipush 18, 2) := by decide +kernel
theorem dX10_init_7 : decode cX10_init 7 = .ok (.newarray .int, 2) := by decide +kernel
theorem dX10_init_9 : decode cX10_init 9 = .ok (.putfield 7, 3) := by decide +kernel
theorem dX10_init_12 : decode cX10_init 12 = .ok (.aload_n 0, 1) := by decide +kernel
theorem dX10_init_13 : decode cX10_init 13 = .ok (.bipush 36, 2) := by decide +kernel
theorem dX10_init_15 : decode cX10_init 15 = .ok (.newarray .int, 2) := by decide +kernel
theorem dX10_init_17 : decode cX10_init 17 = .ok (.putfield 13, 3) := by decide +kernel
theorem dX10_init_20 : decode cX10_init 20 = .ok (.aload_n 0, 1) := by decide +kernel
theorem dX10_init_21 : decode cX10_init 21 = .ok (.iconst 2, 1) := by decide +kernel
theorem dX10_init_22 : decode cX10_init 22 = .ok (.newarray .boolean, 2) := by decide +kernel
theorem dX10_init_24 : decode cX10_init 24 = .ok (.putfield 16, 3) := by decide +kernel
theorem dX10_init_27 : decode cX10_init 27 = .ok (.aload_n 0, 1) := by decide +kernel
theorem dX10_init_28 : decode cX10_init 28 = .ok (.bipush 9, 2) := by decide +kernel
theorem dX10_init_30 : decode cX10_init 30 = .ok (.newarray .int, 2) := by decide +kernel
theorem dX10_init_32 : decode cX10_init 32 = .ok (.putfield 20, 3) := by decide +kernel
theorem dX10_init_35 : decode cX10_init 35 = .ok (.aload_n 0, 1) := by decide +kernel
theorem dX10_init_36 : decode cX10_init 36 = .ok (.bipush 9, 2) := by decide +kernel
theorem dX10_init_38 : decode cX10_init 38 = .ok (.newarray .int, 2) := by decide +kernel
theorem dX10_init_40 : decode cX10_init 40 = .ok (.putfield 23, 3) := by decide +kernel
theorem dX10_init_43 : decode cX10_init 43 = .ok (.aload_n 0, 1) := by decide +kernel
theorem dX10_init_44 : decode cX10_init 44 = .ok (.bipush 9, 2) := by decide +kernel
theorem dX10_init_46 : decode cX10_init 46 = .ok (.newarray .int, 2) := by decide +kernel
theorem dX10_init_48 : decode cX10_init 48 = .ok (.putfield 26, 3) := by decide +kernel
theorem dX10_init_51 : decode cX10_init 51 = .ok (.aload_n 0, 1) := by decide +kernel
theorem dX10_init_52 : decode cX10_init 52 = .ok (.bipush 9, 2) := by decide +kernel
theorem dX10_init_54 : decode cX10_init 54 = .ok (.newarray .int, 2) := by decide +kernel
theorem dX10_init_56 : decode cX10_init 56 = .ok (.putfield 29, 3) := by decide +kernel
theorem dX10_init_59 : decode cX10_init 59 = .ok (.aload_n 0, 1) := by decide +kernel
theorem dX10_init_60 : decode cX10_init 60 = .ok (.iconst 5, 1) := by decide +kernel
theorem dX10_init_61 : decode cX10_init 61 = .ok (.newarray .int, 2) := by decide +kernel
theorem dX10_init_63 : decode cX10_init 63 = .ok (.putfield 32, 3) := by decide +kernel
theorem dX10_init_66 : decode cX10_init 66 = .ok (.aload_n 0, 1) := by decide +kernel
theorem dX10_init_67 : decode cX10_init 67 = .ok (.bipush 9, 2) := by decide +kernel
theorem dX10_init_69 : decode cX10_init 69 = .ok (.newarray .int, 2) := by decide +kernel
theorem dX10_init_71 : decode cX10_init 71 = .ok (.putfield 35, 3) := by decide +kernel
theorem dX10_init_74 : decode cX10_init 74 = .ok (.iconst 0, 1) := by decide +kernel
theorem dX10_init_75 : decode cX10_init 75 = .ok (.istore_n 1, 1) := by decide +kernel
theorem dX10_init_76 : decode cX10_init 76 = .ok (.iload_n 1, 1) := by decide +kernel
theorem dX10_init_77 : decode cX10_init 77 = .ok (.iconst 4, 1) := by decide +kernel
theorem dX10_init_78 : decode cX10_init 78 = .ok (.if_icmp .ge 27, 3) := by decide +kernel
theorem dX10_init_81 : decode cX10_init 81 = .ok (.aload_n 0, 1) := by decide +kernel
theorem dX10_init_82 : decode cX10_init 82 = .ok (.getfield 7, 3) := by decide +kernel
theorem dX10_init_85 : decode cX10_init 85 = .ok (.iconst 0, 1) := by decide +kernel
theorem dX10_init_86 : decode cX10_init 86 = .ok (.iload_n 1, 1) := by decide +kernel
theorem dX10_init_87 : decode cX10_init 87 = .ok (.iadd, 1) := by decide +kernel
theorem dX10_init_88 : decode cX10_init 88 = .ok (.iconst 1, 1) := by decide +kernel
theorem dX10_init_89 : decode cX10_init 89 = .ok (.iastore, 1) := by decide +kernel
theorem dX10_init_90 : decode cX10_init 90 = .ok (.aload_n 0, 1) := by decide +kernel
theorem dX10_init_91 : decode cX10_init 91 = .ok (.getfield 7, 3) := by decide +kernel
theorem dX10_init_94 : decode cX10_init 94 = .ok (.iconst 4, 1) := by decide +kernel
theorem dX10_init_95 : decode cX10_init 95 = .ok (.iload_n 1, 1) := by decide +kernel
theorem dX10_init_96 : decode cX10_init 96 = .ok (.iadd, 1) := by decide +kernel
theorem dX10_init_97 : decode cX10_init 97 = .ok (.iconst 2, 1) := by decide +kernel
theorem dX10_init_98 : decode cX10_init 98 = .ok (.iastore, 1) := by decide +kernel
theorem dX10_init_99 : decode cX10_init 99 = .ok (.iinc 1 1, 3) := by decide +kernel
theorem dX10_init_102 : decode cX10_init 102 = .ok (.goto (-26), 3) := by decide +kernel
theorem dX10_init_105 : decode cX10_init 105 = .ok (.return_, 1) := by decide +kernel
theorem dX10_in_0 : decode cX10_in 0 = .ok (.iload_n 0, 1) := by decide +kernel
theorem dX10_in_1 : decode cX10_in 1 = .ok (.iload_n 1, 1) := by decide +kernel
theorem dX10_in_2 : decode cX10_in 2 = .ok (.if_icmp .lt 12, 3) := by decide +kernel
theorem dX10_in_5 : decode cX10_in 5 = .ok (.iload_n 0, 1) := by decide +kernel
theorem dX10_in_6 : decode cX10_in 6 = .ok (.iload_n 2, 1) := by decide +kernel
theorem dX10_in_7 : decode cX10_in 7 = .ok (.if_icmp .gt 7, 3) := by decide +kernel
theorem dX10_in_10 : decode cX10_in 10 = .ok (.iconst 1, 1) := by decide +kernel
theorem dX10_in_11 : decode cX10_in 11 = .ok (.goto 4, 3) := by decide +kernel
theorem dX10_in_14 : decode cX10_in 14 = .ok (.iconst 0, 1) := by decide +kernel
theorem dX10_in_15 : decode cX10_in 15 = .ok (.ireturn, 1) := by decide +kernel
theorem dX10_isOption_0 : decode cX10_isOption 0 = .ok (.iload_n 0, 1) := by decide +kernel
theorem dX10_isOption_1 : decode cX10_isOption 1 = .ok (.iconst 0, 1) := by decide +kernel
theorem dX10_isOption_2 : decode cX10_isOption 2 = .ok (.iconst 3, 1) := by decide +kernel
theorem dX10_isOption_3 : decode cX10_isOption 3 = .ok (.invokestatic 38, 3) := by decide +kernel
theorem dX10_isOption_6 : decode cX10_isOption 6 = .ok (.ireturn, 1) := by decide +kernel
theorem dX10_isClass_0 : decode cX10_isClass 0 = .ok (.iload_n 0, 1) := by decide +kernel
theorem dX10_isClass_1 : decode cX10_isClass 1 = .ok (.iconst 0, 1) := by decide +kernel
theorem dX10_isClass_2 : decode cX10_isClass 2 = .ok (.iconst 4, 1) := by decide +kernel
theorem dX10_isClass_3 : decode cX10_isClass 3 = .ok (.invokestatic 38, 3) := by decide +kernel
theorem dX10_isClass_6 : decode cX10_isClass 6 = .ok (.ireturn, 1) := by decide +kernel
theorem dX10_has_0 : decode cX10_has 0 = .ok (.aload_n 0, 1) := by decide +kernel
theorem dX10_has_1 : decode cX10_has 1 = .ok (.getfield 7, 3) := by decide +kernel
theorem dX10_has_4 : decode cX10_has 4 = .ok (.bipush 8, 2) := by decide +kernel
theorem dX10_has_6 : decode cX10_has 6 = .ok (.iload_n 1, 1) := by decide +kernel
theorem dX10_has_7 : decode cX10_has 7 = .ok (.iadd, 1) := by decide +kernel
theorem dX10_has_8 : decode cX10_has 8 = .ok (.iaload, 1) := by decide +kernel
theorem dX10_has_9 : decode cX10_has 9 = .ok (.iload_n 2, 1) := by decide +kernel
theorem dX10_has_10 : decode cX10_has 10 = .ok (.ishr, 1) := by decide +kernel
theorem dX10_has_11 : decode cX10_has 11 = .ok (.iconst 1, 1) := by decide +kernel
theorem dX10_has_12 : decode cX10_has 12 = .ok (.iand, 1) := by decide +kernel
theorem dX10_has_13 : decode cX10_has 13 = .ok (.iconst 1, 1) := by decide +kernel
theorem dX10_has_14 : decode cX10_has 14 = .ok (.if_icmp .ne 7, 3) := by decide +kernel
theorem dX10_has_17 : decode cX10_has 17 = .ok (.iconst 1, 1) := by decide +kernel
theorem dX10_has_18 : decode cX10_has 18 = .ok (.goto 4, 3) := by decide +kernel
theorem dX10_has_21 : decode cX10_has 21 = .ok (.iconst 0, 1) := by decide +kernel
theorem dX10_has_22 : decode cX10_has 22 = .ok (.ireturn, 1) := by decide +kernel
theorem dX10_cars_0 : decode cX10_cars 0 = .ok (.iconst 0, 1) := by decide +kernel
theorem dX10_cars_1 : decode cX10_cars 1 = .ok (.istore_n 1, 1) := by decide +kernel
theorem dX10_cars_2 : decode cX10_cars 2 = .ok (.iconst 0, 1) := by decide +kernel
theorem dX10_cars_3 : decode cX10_cars 3 = .ok (.istore_n 2, 1) := by decide +kernel
theorem dX10_cars_4 : decode cX10_cars 4 = .ok (.iload_n 2, 1) := by decide +kernel
theorem dX10_cars_5 : decode cX10_cars 5 = .ok (.iconst 5, 1) := by decide +kernel
theorem dX10_cars_6 : decode cX10_cars 6 = .ok (.if_icmp .ge 21, 3) := by decide +kernel
theorem dX10_cars_9 : decode cX10_cars 9 = .ok (.iload_n 1, 1) := by decide +kernel
theorem dX10_cars_10 : decode cX10_cars 10 = .ok (.aload_n 0, 1) := by decide +kernel
theorem dX10_cars_11 : decode cX10_cars 11 = .ok (.getfield 7, 3) := by decide +kernel
theorem dX10_cars_14 : decode cX10_cars 14 = .ok (.bipush 13, 2) := by decide +kernel
theorem dX10_cars_16 : decode cX10_cars 16 = .ok (.iload_n 2, 1) := by decide +kernel
theorem dX10_cars_17 : decode cX10_cars 17 = .ok (.iadd, 1) := by decide +kernel
theorem dX10_cars_18 : decode cX10_cars 18 = .ok (.iaload, 1) := by decide +kernel
theorem dX10_cars_19 : decode cX10_cars 19 = .ok (.iadd, 1) := by decide +kernel
theorem dX10_cars_20 : decode cX10_cars 20 = .ok (.istore_n 1, 1) := by decide +kernel
theorem dX10_cars_21 : decode cX10_cars 21 = .ok (.iinc 2 1, 3) := by decide +kernel
theorem dX10_cars_24 : decode cX10_cars 24 = .ok (.goto (-20), 3) := by decide +kernel
theorem dX10_cars_27 : decode cX10_cars 27 = .ok (.iload_n 1, 1) := by decide +kernel
theorem dX10_cars_28 : decode cX10_cars 28 = .ok (.ireturn, 1) := by decide +kernel
theorem dX10_option_0 : decode cX10_option 0 = .ok (.iload_n 1, 1) := by decide +kernel
theorem dX10_option_1 : decode cX10_option 1 = .ok (.invokestatic 42, 3) := by decide +kernel
theorem dX10_option_4 : decode cX10_option 4 = .ok (.ifCond .ne 5, 3) := by decide +kernel
theorem dX10_option_7 : decode cX10_option 7 = .ok (.iconst (-1), 1) := by decide +kernel
theorem dX10_option_8 : decode cX10_option 8 = .ok (.ireturn, 1) := by decide +kernel
theorem dX10_option_9 : decode cX10_option 9 = .ok (.iload_n 3, 1) := by decide +kernel
theorem dX10_option_10 : decode cX10_option 10 = .ok (.iconst 1, 1) := by decide +kernel
theorem dX10_option_11 : decode cX10_option 11 = .ok (.iconst 5, 1) := by decide +kernel
theorem dX10_option_12 : decode cX10_option 12 = .ok (.invokestatic 38, 3) := by decide +kernel
theorem dX10_option_15 : decode cX10_option 15 = .ok (.ifCond .eq 12, 3) := by decide +kernel
theorem dX10_option_18 : decode cX10_option 18 = .ok (.iload_n 2, 1) := by decide +kernel
theorem dX10_option_19 : decode cX10_option 19 = .ok (.iconst 1, 1) := by decide +kernel
theorem dX10_option_20 : decode cX10_option 20 = .ok (.iload_n 3, 1) := by decide +kernel
theorem dX10_option_21 : decode cX10_option 21 = .ok (.invokestatic 38, 3) := by decide +kernel
theorem dX10_option_24 : decode cX10_option 24 = .ok (.ifCond .ne 6, 3) := by decide +kernel
theorem dX10_option_27 : decode cX10_option 27 = .ok (.bipush (-2), 2) := by decide +kernel
theorem dX10_option_29 : decode cX10_option 29 = .ok (.ireturn, 1) := by decide +kernel
theorem dX10_option_30 : decode cX10_option 30 = .ok (.bipush 10, 2) := by decide +kernel
theorem dX10_option_32 : decode cX10_option 32 = .ok (.aload_n 0, 1) := by decide +kernel
theorem dX10_option_33 : decode cX10_option 33 = .ok (.getfield 7, 3) := by decide +kernel
theorem dX10_option_36 : decode cX10_option 36 = .ok (.iconst 0, 1) := by decide +kernel
theorem dX10_option_37 : decode cX10_option 37 = .ok (.iload_n 1, 1) := by decide +kernel
theorem dX10_option_38 : decode cX10_option 38 = .ok (.iadd, 1) := by decide +kernel
theorem dX10_option_39 : decode cX10_option 39 = .ok (.iaload, 1) := by decide +kernel
theorem dX10_option_40 : decode cX10_option 40 = .ok (.imul, 1) := by decide +kernel
theorem dX10_option_41 : decode cX10_option 41 = .ok (.aload_n 0, 1) := by decide +kernel
theorem dX10_option_42 : decode cX10_option 42 = .ok (.getfield 7, 3) := by decide +kernel
theorem dX10_option_45 : decode cX10_option 45 = .ok (.iconst 4, 1) := by decide +kernel
theorem dX10_option_46 : decode cX10_option 46 = .ok (.iload_n 1, 1) := by decide +kernel
theorem dX10_option_47 : decode cX10_option 47 = .ok (.iadd, 1) := by decide +kernel
theorem dX10_option_48 : decode cX10_option 48 = .ok (.iaload, 1) := by decide +kernel
theorem dX10_option_49 : decode cX10_option 49 = .ok (.iadd, 1) := by decide +kernel
theorem dX10_option_50 : decode cX10_option 50 = .ok (.istore 4, 2) := by decide +kernel
theorem dX10_option_52 : decode cX10_option 52 = .ok (.aload_n 0, 1) := by decide +kernel
theorem dX10_option_53 : decode cX10_option 53 = .ok (.getfield 7, 3) := by decide +kernel
theorem dX10_option_56 : decode cX10_option 56 = .ok (.iconst 0, 1) := by decide +kernel
theorem dX10_option_57 : decode cX10_option 57 = .ok (.iload_n 1, 1) := by decide +kernel
theorem dX10_option_58 : decode cX10_option 58 = .ok (.iadd, 1) := by decide +kernel
theorem dX10_option_59 : decode cX10_option 59 = .ok (.iload_n 2, 1) := by decide +kernel
theorem dX10_option_60 : decode cX10_option 60 = .ok (.iastore, 1) := by decide +kernel
theorem dX10_option_61 : decode cX10_option 61 = .ok (.aload_n 0, 1) := by decide +kernel
theorem dX10_option_62 : decode cX10_option 62 = .ok (.getfield 7, 3) := by decide +kernel
theorem dX10_option_65 : decode cX10_option 65 = .ok (.iconst 4, 1) := by decide +kernel
theorem dX10_option_66 : decode cX10_option 66 = .ok (.iload_n 1, 1) := by decide +kernel
theorem dX10_option_67 : decode cX10_option 67 = .ok (.iadd, 1) := by decide +kernel
theorem dX10_option_68 : decode cX10_option 68 = .ok (.iload_n 3, 1) := by decide +kernel
theorem dX10_option_69 : decode cX10_option 69 = .ok (.iastore, 1) := by decide +kernel
theorem dX10_option_70 : decode cX10_option 70 = .ok (.iload 4, 2) := by decide +kernel
theorem dX10_option_72 : decode cX10_option 72 = .ok (.ireturn, 1) := by decide +kernel
theorem dX10_options_0 : decode cX10_options 0 = .ok (.iload_n 1, 1) := by decide +kernel
theorem dX10_options_1 : decode cX10_options 1 = .ok (.invokestatic 46, 3) := by decide +kernel
theorem dX10_options_4 : decode cX10_options 4 = .ok (.ifCond .ne 5, 3) := by decide +kernel
theorem dX10_options_7 : decode cX10_options 7 = .ok (.iconst (-1), 1) := by decide +kernel
theorem dX10_options_8 : decode cX10_options 8 = .ok (.ireturn, 1) := by decide +kernel
theorem dX10_options_9 : decode cX10_options 9 = .ok (.iload_n 2, 1) := by decide +kernel
theorem dX10_options_10 : decode cX10_options 10 = .ok (.iconst 0, 1) := by decide +kernel
theorem dX10_options_11 : decode cX10_options 11 = .ok (.bipush 15, 2) := by decide +kernel
theorem dX10_options_13 : decode cX10_options 13 = .ok (.invokestatic 38, 3) := by decide +kernel
theorem dX10_options_16 : decode cX10_options 16 = .ok (.ifCond .ne 6, 3) := by decide +kernel
theorem dX10_options_19 : decode cX10_options 19 = .ok (.bipush (-2), 2) := by decide +kernel
theorem dX10_options_21 : decode cX10_options 21 = .ok (.ireturn, 1) := by decide +kernel
theorem dX10_options_22 : decode cX10_options 22 = .ok (.aload_n 0, 1) := by decide +kernel
theorem dX10_options_23 : decode cX10_options 23 = .ok (.getfield 7, 3) := by decide +kernel
theorem dX10_options_26 : decode cX10_options 26 = .ok (.bipush 8, 2) := by decide +kernel
theorem dX10_options_28 : decode cX10_options 28 = .ok (.iload_n 1, 1) := by decide +kernel
theorem dX10_options_29 : decode cX10_options 29 = .ok (.iadd, 1) := by decide +kernel
theorem dX10_options_30 : decode cX10_options 30 = .ok (.iaload, 1) := by decide +kernel
theorem dX10_options_31 : decode cX10_options 31 = .ok (.istore_n 3, 1) := by decide +kernel
theorem dX10_options_32 : decode cX10_options 32 = .ok (.aload_n 0, 1) := by decide +kernel
theorem dX10_options_33 : decode cX10_options 33 = .ok (.getfield 7, 3) := by decide +kernel
theorem dX10_options_36 : decode cX10_options 36 = .ok (.bipush 8, 2) := by decide +kernel
theorem dX10_options_38 : decode cX10_options 38 = .ok (.iload_n 1, 1) := by decide +kernel
theorem dX10_options_39 : decode cX10_options 39 = .ok (.iadd, 1) := by decide +kernel
theorem dX10_options_40 : decode cX10_options 40 = .ok (.iload_n 2, 1) := by decide +kernel
theorem dX10_options_41 : decode cX10_options 41 = .ok (.iastore, 1) := by decide +kernel
theorem dX10_options_42 : decode cX10_options 42 = .ok (.iload_n 3, 1) := by decide +kernel
theorem dX10_options_43 : decode cX10_options 43 = .ok (.ireturn, 1) := by decide +kernel
theorem dX10_demand_0 : decode cX10_demand 0 = .ok (.iload_n 1, 1) := by decide +kernel
theorem dX10_demand_1 : decode cX10_demand 1 = .ok (.invokestatic 46, 3) := by decide +kernel
theorem dX10_demand_4 : decode cX10_demand 4 = .ok (.ifCond .ne 5, 3) := by decide +kernel
theorem dX10_demand_7 : decode cX10_demand 7 = .ok (.iconst (-1), 1) := by decide +kernel
theorem dX10_demand_8 : decode cX10_demand 8 = .ok (.ireturn, 1) := by decide +kernel
theorem dX10_demand_9 : decode cX10_demand 9 = .ok (.iload_n 2, 1) := by decide +kernel
theorem dX10_demand_10 : decode cX10_demand 10 = .ok (.iconst 0, 1) := by decide +kernel
theorem dX10_demand_11 : decode cX10_demand 11 = .ok (.bipush 9, 2) := by decide +kernel
theorem dX10_demand_13 : decode cX10_demand 13 = .ok (.invokestatic 38, 3) := by decide +kernel
theorem dX10_demand_16 : decode cX10_demand 16 = .ok (.ifCond .ne 6, 3) := by decide +kernel
theorem dX10_demand_19 : decode cX10_demand 19 = .ok (.bipush (-2), 2) := by decide +kernel
theorem dX10_demand_21 : decode cX10_demand 21 = .ok (.ireturn, 1) := by decide +kernel
theorem dX10_demand_22 : decode cX10_demand 22 = .ok (.aload_n 0, 1) := by decide +kernel
theorem dX10_demand_23 : decode cX10_demand 23 = .ok (.invokevirtual 49, 3) := by decide +kernel
theorem dX10_demand_26 : decode cX10_demand 26 = .ok (.aload_n 0, 1) := by decide +kernel
theorem dX10_demand_27 : decode cX10_demand 27 = .ok (.getfield 7, 3) := by decide +kernel
theorem dX10_demand_30 : decode cX10_demand 30 = .ok (.bipush 13, 2) := by decide +kernel
theorem dX10_demand_32 : decode cX10_demand 32 = .ok (.iload_n 1, 1) := by decide +kernel
theorem dX10_demand_33 : decode cX10_demand 33 = .ok (.iadd, 1) := by decide +kernel
theorem dX10_demand_34 : decode cX10_demand 34 = .ok (.iaload, 1) := by decide +kernel
theorem dX10_demand_35 : decode cX10_demand 35 = .ok (.isub, 1) := by decide +kernel
theorem dX10_demand_36 : decode cX10_demand 36 = .ok (.iload_n 2, 1) := by decide +kernel
theorem dX10_demand_37 : decode cX10_demand 37 = .ok (.iadd, 1) := by decide +kernel
theorem dX10_demand_38 : decode cX10_demand 38 = .ok (.bipush 9, 2) := by decide +kernel
theorem dX10_demand_40 : decode cX10_demand 40 = .ok (.if_icmp .le 6, 3) := by decide +kernel
theorem dX10_demand_43 : decode cX10_demand 43 = .ok (.bipush (-4), 2) := by decide +kernel
theorem dX10_demand_45 : decode cX10_demand 45 = .ok (.ireturn, 1) := by decide +kernel
theorem dX10_demand_46 : decode cX10_demand 46 = .ok (.aload_n 0, 1) := by decide +kernel
theorem dX10_demand_47 : decode cX10_demand 47 = .ok (.getfield 7, 3) := by decide +kernel
theorem dX10_demand_50 : decode cX10_demand 50 = .ok (.bipush 13, 2) := by decide +kernel
theorem dX10_demand_52 : decode cX10_demand 52 = .ok (.iload_n 1, 1) := by decide +kernel
theorem dX10_demand_53 : decode cX10_demand 53 = .ok (.iadd, 1) := by decide +kernel
theorem dX10_demand_54 : decode cX10_demand 54 = .ok (.iload_n 2, 1) := by decide +kernel
theorem dX10_demand_55 : decode cX10_demand 55 = .ok (.iastore, 1) := by decide +kernel
theorem dX10_demand_56 : decode cX10_demand 56 = .ok (.aload_n 0, 1) := by decide +kernel
theorem dX10_demand_57 : decode cX10_demand 57 = .ok (.invokevirtual 49, 3) := by decide +kernel
theorem dX10_demand_60 : decode cX10_demand 60 = .ok (.ireturn, 1) := by decide +kernel
theorem dX10_told_0 : decode cX10_told 0 = .ok (.iload_n 1, 1) := by decide +kernel
theorem dX10_told_1 : decode cX10_told 1 = .ok (.invokestatic 46, 3) := by decide +kernel
theorem dX10_told_4 : decode cX10_told 4 = .ok (.ifCond .ne 5, 3) := by decide +kernel
theorem dX10_told_7 : decode cX10_told 7 = .ok (.iconst (-1), 1) := by decide +kernel
theorem dX10_told_8 : decode cX10_told 8 = .ok (.ireturn, 1) := by decide +kernel
theorem dX10_told_9 : decode cX10_told 9 = .ok (.iload_n 2, 1) := by decide +kernel
theorem dX10_told_10 : decode cX10_told 10 = .ok (.ifCond .ne 15, 3) := by decide +kernel
theorem dX10_told_13 : decode cX10_told 13 = .ok (.aload_n 0, 1) := by decide +kernel
theorem dX10_told_14 : decode cX10_told 14 = .ok (.getfield 7, 3) := by decide +kernel
theorem dX10_told_17 : decode cX10_told 17 = .ok (.bipush 8, 2) := by decide +kernel
theorem dX10_told_19 : decode cX10_told 19 = .ok (.iload_n 1, 1) := by decide +kernel
theorem dX10_told_20 : decode cX10_told 20 = .ok (.iadd, 1) := by decide +kernel
theorem dX10_told_21 : decode cX10_told 21 = .ok (.iaload, 1) := by decide +kernel
theorem dX10_told_22 : decode cX10_told 22 = .ok (.goto 22, 3) := by decide +kernel
theorem dX10_told_25 : decode cX10_told 25 = .ok (.iload_n 2, 1) := by decide +kernel
theorem dX10_told_26 : decode cX10_told 26 = .ok (.iconst 1, 1) := by decide +kernel
theorem dX10_told_27 : decode cX10_told 27 = .ok (.if_icmp .ne 15, 3) := by decide +kernel
theorem dX10_told_30 : decode cX10_told 30 = .ok (.aload_n 0, 1) := by decide +kernel
theorem dX10_told_31 : decode cX10_told 31 = .ok (.getfield 7, 3) := by decide +kernel
theorem dX10_told_34 : decode cX10_told 34 = .ok (.bipush 13, 2) := by decide +kernel
theorem dX10_told_36 : decode cX10_told 36 = .ok (.iload_n 1, 1) := by decide +kernel
theorem dX10_told_37 : decode cX10_told 37 = .ok (.iadd, 1) := by decide +kernel
theorem dX10_told_38 : decode cX10_told 38 = .ok (.iaload, 1) := by decide +kernel
theorem dX10_told_39 : decode cX10_told 39 = .ok (.goto 5, 3) := by decide +kernel
theorem dX10_told_42 : decode cX10_told 42 = .ok (.bipush (-2), 2) := by decide +kernel
theorem dX10_told_44 : decode cX10_told 44 = .ok (.ireturn, 1) := by decide +kernel
theorem dX10_wanted_0 : decode cX10_wanted 0 = .ok (.iconst 0, 1) := by decide +kernel
theorem dX10_wanted_1 : decode cX10_wanted 1 = .ok (.istore_n 2, 1) := by decide +kernel
theorem dX10_wanted_2 : decode cX10_wanted 2 = .ok (.iconst 0, 1) := by decide +kernel
theorem dX10_wanted_3 : decode cX10_wanted 3 = .ok (.istore_n 3, 1) := by decide +kernel
theorem dX10_wanted_4 : decode cX10_wanted 4 = .ok (.iload_n 3, 1) := by decide +kernel
theorem dX10_wanted_5 : decode cX10_wanted 5 = .ok (.iconst 5, 1) := by decide +kernel
theorem dX10_wanted_6 : decode cX10_wanted 6 = .ok (.if_icmp .ge 34, 3) := by decide +kernel
theorem dX10_wanted_9 : decode cX10_wanted 9 = .ok (.iload_n 2, 1) := by decide +kernel
theorem dX10_wanted_10 : decode cX10_wanted 10 = .ok (.aload_n 0, 1) := by decide +kernel
theorem dX10_wanted_11 : decode cX10_wanted 11 = .ok (.iload_n 3, 1) := by decide +kernel
theorem dX10_wanted_12 : decode cX10_wanted 12 = .ok (.iload_n 1, 1) := by decide +kernel
theorem dX10_wanted_13 : decode cX10_wanted 13 = .ok (.invokevirtual 53, 3) := by decide +kernel
theorem dX10_wanted_16 : decode cX10_wanted 16 = .ok (.ifCond .eq 15, 3) := by decide +kernel
theorem dX10_wanted_19 : decode cX10_wanted 19 = .ok (.aload_n 0, 1) := by decide +kernel
theorem dX10_wanted_20 : decode cX10_wanted 20 = .ok (.getfield 7, 3) := by decide +kernel
theorem dX10_wanted_23 : decode cX10_wanted 23 = .ok (.bipush 13, 2) := by decide +kernel
theorem dX10_wanted_25 : decode cX10_wanted 25 = .ok (.iload_n 3, 1) := by decide +kernel
theorem dX10_wanted_26 : decode cX10_wanted 26 = .ok (.iadd, 1) := by decide +kernel
theorem dX10_wanted_27 : decode cX10_wanted 27 = .ok (.iaload, 1) := by decide +kernel
theorem dX10_wanted_28 : decode cX10_wanted 28 = .ok (.goto 4, 3) := by decide +kernel
theorem dX10_wanted_31 : decode cX10_wanted 31 = .ok (.iconst 0, 1) := by decide +kernel
theorem dX10_wanted_32 : decode cX10_wanted 32 = .ok (.iadd, 1) := by decide +kernel
theorem dX10_wanted_33 : decode cX10_wanted 33 = .ok (.istore_n 2, 1) := by decide +kernel
theorem dX10_wanted_34 : decode cX10_wanted 34 = .ok (.iinc 3 1, 3) := by decide +kernel
theorem dX10_wanted_37 : decode cX10_wanted 37 = .ok (.goto (-33), 3) := by decide +kernel
theorem dX10_wanted_40 : decode cX10_wanted 40 = .ok (.iload_n 2, 1) := by decide +kernel
theorem dX10_wanted_41 : decode cX10_wanted 41 = .ok (.ireturn, 1) := by decide +kernel
theorem dX10_less_0 : decode cX10_less 0 = .ok (.iload_n 0, 1) := by decide +kernel
theorem dX10_less_1 : decode cX10_less 1 = .ok (.iload_n 1, 1) := by decide +kernel
theorem dX10_less_2 : decode cX10_less 2 = .ok (.if_icmp .ge 7, 3) := by decide +kernel
theorem dX10_less_5 : decode cX10_less 5 = .ok (.iload_n 0, 1) := by decide +kernel
theorem dX10_less_6 : decode cX10_less 6 = .ok (.goto 4, 3) := by decide +kernel
theorem dX10_less_9 : decode cX10_less 9 = .ok (.iload_n 1, 1) := by decide +kernel
theorem dX10_less_10 : decode cX10_less 10 = .ok (.ireturn, 1) := by decide +kernel
theorem dX10_room_0 : decode cX10_room 0 = .ok (.aload_n 0, 1) := by decide +kernel
theorem dX10_room_1 : decode cX10_room 1 = .ok (.getfield 7, 3) := by decide +kernel
theorem dX10_room_4 : decode cX10_room 4 = .ok (.iconst 0, 1) := by decide +kernel
theorem dX10_room_5 : decode cX10_room 5 = .ok (.iload_n 1, 1) := by decide +kernel
theorem dX10_room_6 : decode cX10_room 6 = .ok (.iadd, 1) := by decide +kernel
theorem dX10_room_7 : decode cX10_room 7 = .ok (.iaload, 1) := by decide +kernel
theorem dX10_room_8 : decode cX10_room 8 = .ok (.istore_n 2, 1) := by decide +kernel
theorem dX10_room_9 : decode cX10_room 9 = .ok (.aload_n 0, 1) := by decide +kernel
theorem dX10_room_10 : decode cX10_room 10 = .ok (.getfield 7, 3) := by decide +kernel
theorem dX10_room_13 : decode cX10_room 13 = .ok (.iconst 4, 1) := by decide +kernel
theorem dX10_room_14 : decode cX10_room 14 = .ok (.iload_n 1, 1) := by decide +kernel
theorem dX10_room_15 : decode cX10_room 15 = .ok (.iadd, 1) := by decide +kernel
theorem dX10_room_16 : decode cX10_room 16 = .ok (.iaload, 1) := by decide +kernel
theorem dX10_room_17 : decode cX10_room 17 = .ok (.istore_n 3, 1) := by decide +kernel
theorem dX10_room_18 : decode cX10_room 18 = .ok (.iload_n 2, 1) := by decide +kernel
theorem dX10_room_19 : decode cX10_room 19 = .ok (.aload_n 0, 1) := by decide +kernel
theorem dX10_room_20 : decode cX10_room 20 = .ok (.invokevirtual 49, 3) := by decide +kernel
theorem dX10_room_23 : decode cX10_room 23 = .ok (.iload_n 3, 1) := by decide +kernel
theorem dX10_room_24 : decode cX10_room 24 = .ok (.idiv, 1) := by decide +kernel
theorem dX10_room_25 : decode cX10_room 25 = .ok (.imul, 1) := by decide +kernel
theorem dX10_room_26 : decode cX10_room 26 = .ok (.iload_n 2, 1) := by decide +kernel
theorem dX10_room_27 : decode cX10_room 27 = .ok (.aload_n 0, 1) := by decide +kernel
theorem dX10_room_28 : decode cX10_room 28 = .ok (.invokevirtual 49, 3) := by decide +kernel
theorem dX10_room_31 : decode cX10_room 31 = .ok (.iload_n 3, 1) := by decide +kernel
theorem dX10_room_32 : decode cX10_room 32 = .ok (.irem, 1) := by decide +kernel
theorem dX10_room_33 : decode cX10_room 33 = .ok (.invokestatic 57, 3) := by decide +kernel
theorem dX10_room_36 : decode cX10_room 36 = .ok (.iadd, 1) := by decide +kernel
theorem dX10_room_37 : decode cX10_room 37 = .ok (.ireturn, 1) := by decide +kernel
theorem dX10_of_0 : decode cX10_of 0 = .ok (.iload_n 1, 1) := by decide +kernel
theorem dX10_of_1 : decode cX10_of 1 = .ok (.invokestatic 42, 3) := by decide +kernel
theorem dX10_of_4 : decode cX10_of 4 = .ok (.ifCond .ne 5, 3) := by decide +kernel
theorem dX10_of_7 : decode cX10_of 7 = .ok (.iconst (-1), 1) := by decide +kernel
theorem dX10_of_8 : decode cX10_of 8 = .ok (.ireturn, 1) := by decide +kernel
theorem dX10_of_9 : decode cX10_of 9 = .ok (.iload_n 2, 1) := by decide +kernel
theorem dX10_of_10 : decode cX10_of 10 = .ok (.tableswitch 60 0 3 #[30, 39, 48, 54], 30) := by decide +kernel
theorem dX10_of_40 : decode cX10_of 40 = .ok (.aload_n 0, 1) := by decide +kernel
theorem dX10_of_41 : decode cX10_of 41 = .ok (.getfield 7, 3) := by decide +kernel
theorem dX10_of_44 : decode cX10_of 44 = .ok (.iconst 0, 1) := by decide +kernel
theorem dX10_of_45 : decode cX10_of 45 = .ok (.iload_n 1, 1) := by decide +kernel
theorem dX10_of_46 : decode cX10_of 46 = .ok (.iadd, 1) := by decide +kernel
theorem dX10_of_47 : decode cX10_of 47 = .ok (.iaload, 1) := by decide +kernel
theorem dX10_of_48 : decode cX10_of 48 = .ok (.ireturn, 1) := by decide +kernel
theorem dX10_of_49 : decode cX10_of 49 = .ok (.aload_n 0, 1) := by decide +kernel
theorem dX10_of_50 : decode cX10_of 50 = .ok (.getfield 7, 3) := by decide +kernel
theorem dX10_of_53 : decode cX10_of 53 = .ok (.iconst 4, 1) := by decide +kernel
theorem dX10_of_54 : decode cX10_of 54 = .ok (.iload_n 1, 1) := by decide +kernel
theorem dX10_of_55 : decode cX10_of 55 = .ok (.iadd, 1) := by decide +kernel
theorem dX10_of_56 : decode cX10_of 56 = .ok (.iaload, 1) := by decide +kernel
theorem dX10_of_57 : decode cX10_of 57 = .ok (.ireturn, 1) := by decide +kernel
theorem dX10_of_58 : decode cX10_of 58 = .ok (.aload_n 0, 1) := by decide +kernel
theorem dX10_of_59 : decode cX10_of 59 = .ok (.iload_n 1, 1) := by decide +kernel
theorem dX10_of_60 : decode cX10_of 60 = .ok (.invokevirtual 61, 3) := by decide +kernel
theorem dX10_of_63 : decode cX10_of 63 = .ok (.ireturn, 1) := by decide +kernel
theorem dX10_of_64 : decode cX10_of 64 = .ok (.aload_n 0, 1) := by decide +kernel
theorem dX10_of_65 : decode cX10_of 65 = .ok (.iload_n 1, 1) := by decide +kernel
theorem dX10_of_66 : decode cX10_of 66 = .ok (.invokevirtual 65, 3) := by decide +kernel
theorem dX10_of_69 : decode cX10_of 69 = .ok (.ireturn, 1) := by decide +kernel
theorem dX10_of_70 : decode cX10_of 70 = .ok (.bipush (-2), 2) := by decide +kernel
theorem dX10_of_72 : decode cX10_of 72 = .ok (.ireturn, 1) := by decide +kernel
theorem dX10_clash_0 : decode cX10_clash 0 = .ok (.iconst 0, 1) := by decide +kernel
theorem dX10_clash_1 : decode cX10_clash 1 = .ok (.istore_n 1, 1) := by decide +kernel
theorem dX10_clash_2 : decode cX10_clash 2 = .ok (.iconst 0, 1) := by decide +kernel
theorem dX10_clash_3 : decode cX10_clash 3 = .ok (.istore_n 2, 1) := by decide +kernel
theorem dX10_clash_4 : decode cX10_clash 4 = .ok (.iload_n 2, 1) := by decide +kernel
theorem dX10_clash_5 : decode cX10_clash 5 = .ok (.iconst 4, 1) := by decide +kernel
theorem dX10_clash_6 : decode cX10_clash 6 = .ok (.if_icmp .ge 32, 3) := by decide +kernel
theorem dX10_clash_9 : decode cX10_clash 9 = .ok (.iload_n 1, 1) := by decide +kernel
theorem dX10_clash_10 : decode cX10_clash 10 = .ok (.aload_n 0, 1) := by decide +kernel
theorem dX10_clash_11 : decode cX10_clash 11 = .ok (.iload_n 2, 1) := by decide +kernel
theorem dX10_clash_12 : decode cX10_clash 12 = .ok (.invokevirtual 61, 3) := by decide +kernel
theorem dX10_clash_15 : decode cX10_clash 15 = .ok (.aload_n 0, 1) := by decide +kernel
theorem dX10_clash_16 : decode cX10_clash 16 = .ok (.iload_n 2, 1) := by decide +kernel
theorem dX10_clash_17 : decode cX10_clash 17 = .ok (.invokevirtual 65, 3) := by decide +kernel
theorem dX10_clash_20 : decode cX10_clash 20 = .ok (.if_icmp .le 9, 3) := by decide +kernel
theorem dX10_clash_23 : decode cX10_clash 23 = .ok (.iconst 1, 1) := by decide +kernel
theorem dX10_clash_24 : decode cX10_clash 24 = .ok (.iload_n 2, 1) := by decide +kernel
theorem dX10_clash_25 : decode cX10_clash 25 = .ok (.ishl, 1) := by decide +kernel
theorem dX10_clash_26 : decode cX10_clash 26 = .ok (.goto 4, 3) := by decide +kernel
theorem dX10_clash_29 : decode cX10_clash 29 = .ok (.iconst 0, 1) := by decide +kernel
theorem dX10_clash_30 : decode cX10_clash 30 = .ok (.ior, 1) := by decide +kernel
theorem dX10_clash_31 : decode cX10_clash 31 = .ok (.istore_n 1, 1) := by decide +kernel
theorem dX10_clash_32 : decode cX10_clash 32 = .ok (.iinc 2 1, 3) := by decide +kernel
theorem dX10_clash_35 : decode cX10_clash 35 = .ok (.goto (-31), 3) := by decide +kernel
theorem dX10_clash_38 : decode cX10_clash 38 = .ok (.iload_n 1, 1) := by decide +kernel
theorem dX10_clash_39 : decode cX10_clash 39 = .ok (.ireturn, 1) := by decide +kernel
theorem dX10_isBreak_0 : decode cX10_isBreak 0 = .ok (.iload_n 1, 1) := by decide +kernel
theorem dX10_isBreak_1 : decode cX10_isBreak 1 = .ok (.aload_n 0, 1) := by decide +kernel
theorem dX10_isBreak_2 : decode cX10_isBreak 2 = .ok (.getfield 7, 3) := by decide +kernel
theorem dX10_isBreak_5 : decode cX10_isBreak 5 = .ok (.iconst 4, 1) := by decide +kernel
theorem dX10_isBreak_6 : decode cX10_isBreak 6 = .ok (.iload_n 2, 1) := by decide +kernel
theorem dX10_isBreak_7 : decode cX10_isBreak 7 = .ok (.iadd, 1) := by decide +kernel
theorem dX10_isBreak_8 : decode cX10_isBreak 8 = .ok (.iaload, 1) := by decide +kernel
theorem dX10_isBreak_9 : decode cX10_isBreak 9 = .ok (.isub, 1) := by decide +kernel
theorem dX10_isBreak_10 : decode cX10_isBreak 10 = .ok (.iconst 1, 1) := by decide +kernel
theorem dX10_isBreak_11 : decode cX10_isBreak 11 = .ok (.iadd, 1) := by decide +kernel
theorem dX10_isBreak_12 : decode cX10_isBreak 12 = .ok (.istore_n 3, 1) := by decide +kernel
theorem dX10_isBreak_13 : decode cX10_isBreak 13 = .ok (.iload_n 3, 1) := by decide +kernel
theorem dX10_isBreak_14 : decode cX10_isBreak 14 = .ok (.ifCond .ge 5, 3) := by decide +kernel
theorem dX10_isBreak_17 : decode cX10_isBreak 17 = .ok (.iconst 0, 1) := by decide +kernel
theorem dX10_isBreak_18 : decode cX10_isBreak 18 = .ok (.ireturn, 1) := by decide +kernel
theorem dX10_isBreak_19 : decode cX10_isBreak 19 = .ok (.iconst 0, 1) := by decide +kernel
theorem dX10_isBreak_20 : decode cX10_isBreak 20 = .ok (.istore 4, 2) := by decide +kernel
theorem dX10_isBreak_22 : decode cX10_isBreak 22 = .ok (.iload_n 3, 1) := by decide +kernel
theorem dX10_isBreak_23 : decode cX10_isBreak 23 = .ok (.istore 5, 2) := by decide +kernel
theorem dX10_isBreak_25 : decode cX10_isBreak 25 = .ok (.iload 5, 2) := by decide +kernel
theorem dX10_isBreak_27 : decode cX10_isBreak 27 = .ok (.iload_n 1, 1) := by decide +kernel
theorem dX10_isBreak_28 : decode cX10_isBreak 28 = .ok (.if_icmp .gt 34, 3) := by decide +kernel
theorem dX10_isBreak_31 : decode cX10_isBreak 31 = .ok (.iload 4, 2) := by decide +kernel
theorem dX10_isBreak_33 : decode cX10_isBreak 33 = .ok (.aload_n 0, 1) := by decide +kernel
theorem dX10_isBreak_34 : decode cX10_isBreak 34 = .ok (.aload_n 0, 1) := by decide +kernel
theorem dX10_isBreak_35 : decode cX10_isBreak 35 = .ok (.getfield 23, 3) := by decide +kernel
theorem dX10_isBreak_38 : decode cX10_isBreak 38 = .ok (.iload 5, 2) := by decide +kernel
theorem dX10_isBreak_40 : decode cX10_isBreak 40 = .ok (.iaload, 1) := by decide +kernel
theorem dX10_isBreak_41 : decode cX10_isBreak 41 = .ok (.iload_n 2, 1) := by decide +kernel
theorem dX10_isBreak_42 : decode cX10_isBreak 42 = .ok (.invokevirtual 53, 3) := by decide +kernel
theorem dX10_isBreak_45 : decode cX10_isBreak 45 = .ok (.ifCond .eq 7, 3) := by decide +kernel
theorem dX10_isBreak_48 : decode cX10_isBreak 48 = .ok (.iconst 1, 1) := by decide +kernel
theorem dX10_isBreak_49 : decode cX10_isBreak 49 = .ok (.goto 4, 3) := by decide +kernel
theorem dX10_isBreak_52 : decode cX10_isBreak 52 = .ok (.iconst 0, 1) := by decide +kernel
theorem dX10_isBreak_53 : decode cX10_isBreak 53 = .ok (.iadd, 1) := by decide +kernel
theorem dX10_isBreak_54 : decode cX10_isBreak 54 = .ok (.istore 4, 2) := by decide +kernel
theorem dX10_isBreak_56 : decode cX10_isBreak 56 = .ok (.iinc 5 1, 3) := by decide +kernel
theorem dX10_isBreak_59 : decode cX10_isBreak 59 = .ok (.goto (-34), 3) := by decide +kernel
theorem dX10_isBreak_62 : decode cX10_isBreak 62 = .ok (.iload 4, 2) := by decide +kernel
theorem dX10_isBreak_64 : decode cX10_isBreak 64 = .ok (.aload_n 0, 1) := by decide +kernel
theorem dX10_isBreak_65 : decode cX10_isBreak 65 = .ok (.getfield 7, 3) := by decide +kernel
theorem dX10_isBreak_68 : decode cX10_isBreak 68 = .ok (.iconst 0, 1) := by decide +kernel
theorem dX10_isBreak_69 : decode cX10_isBreak 69 = .ok (.iload_n 2, 1) := by decide +kernel
theorem dX10_isBreak_70 : decode cX10_isBreak 70 = .ok (.iadd, 1) := by decide +kernel
theorem dX10_isBreak_71 : decode cX10_isBreak 71 = .ok (.iaload, 1) := by decide +kernel
theorem dX10_isBreak_72 : decode cX10_isBreak 72 = .ok (.if_icmp .le 7, 3) := by decide +kernel
theorem dX10_isBreak_75 : decode cX10_isBreak 75 = .ok (.iconst 1, 1) := by decide +kernel
theorem dX10_isBreak_76 : decode cX10_isBreak 76 = .ok (.goto 4, 3) := by decide +kernel
theorem dX10_isBreak_79 : decode cX10_isBreak 79 = .ok (.iconst 0, 1) := by decide +kernel
theorem dX10_isBreak_80 : decode cX10_isBreak 80 = .ok (.ireturn, 1) := by decide +kernel
theorem dX10_breaksAt_0 : decode cX10_breaksAt 0 = .ok (.iconst 0, 1) := by decide +kernel
theorem dX10_breaksAt_1 : decode cX10_breaksAt 1 = .ok (.istore_n 2, 1) := by decide +kernel
theorem dX10_breaksAt_2 : decode cX10_breaksAt 2 = .ok (.iconst 0, 1) := by decide +kernel
theorem dX10_breaksAt_3 : decode cX10_breaksAt 3 = .ok (.istore_n 3, 1) := by decide +kernel
theorem dX10_breaksAt_4 : decode cX10_breaksAt 4 = .ok (.iload_n 3, 1) := by decide +kernel
theorem dX10_breaksAt_5 : decode cX10_breaksAt 5 = .ok (.iconst 4, 1) := by decide +kernel
theorem dX10_breaksAt_6 : decode cX10_breaksAt 6 = .ok (.if_icmp .ge 26, 3) := by decide +kernel
theorem dX10_breaksAt_9 : decode cX10_breaksAt 9 = .ok (.iload_n 2, 1) := by decide +kernel
theorem dX10_breaksAt_10 : decode cX10_breaksAt 10 = .ok (.aload_n 0, 1) := by decide +kernel
theorem dX10_breaksAt_11 : decode cX10_breaksAt 11 = .ok (.iload_n 1, 1) := by decide +kernel
theorem dX10_breaksAt_12 : decode cX10_breaksAt 12 = .ok (.iload_n 3, 1) := by decide +kernel
theorem dX10_breaksAt_13 : decode cX10_breaksAt 13 = .ok (.invokevirtual 68, 3) := by decide +kernel
theorem dX10_breaksAt_16 : decode cX10_breaksAt 16 = .ok (.ifCond .eq 7, 3) := by decide +kernel
theorem dX10_breaksAt_19 : decode cX10_breaksAt 19 = .ok (.iconst 1, 1) := by decide +kernel
theorem dX10_breaksAt_20 : decode cX10_breaksAt 20 = .ok (.goto 4, 3) := by decide +kernel
theorem dX10_breaksAt_23 : decode cX10_breaksAt 23 = .ok (.iconst 0, 1) := by decide +kernel
theorem dX10_breaksAt_24 : decode cX10_breaksAt 24 = .ok (.iadd, 1) := by decide +kernel
theorem dX10_breaksAt_25 : decode cX10_breaksAt 25 = .ok (.istore_n 2, 1) := by decide +kernel
theorem dX10_breaksAt_26 : decode cX10_breaksAt 26 = .ok (.iinc 3 1, 3) := by decide +kernel
theorem dX10_breaksAt_29 : decode cX10_breaksAt 29 = .ok (.goto (-25), 3) := by decide +kernel
theorem dX10_breaksAt_32 : decode cX10_breaksAt 32 = .ok (.iload_n 2, 1) := by decide +kernel
theorem dX10_breaksAt_33 : decode cX10_breaksAt 33 = .ok (.ireturn, 1) := by decide +kernel
theorem dX10_breaks_0 : decode cX10_breaks 0 = .ok (.iconst 0, 1) := by decide +kernel
theorem dX10_breaks_1 : decode cX10_breaks 1 = .ok (.istore_n 1, 1) := by decide +kernel
theorem dX10_breaks_2 : decode cX10_breaks 2 = .ok (.iconst 0, 1) := by decide +kernel
theorem dX10_breaks_3 : decode cX10_breaks 3 = .ok (.istore_n 2, 1) := by decide +kernel
theorem dX10_breaks_4 : decode cX10_breaks 4 = .ok (.iload_n 2, 1) := by decide +kernel
theorem dX10_breaks_5 : decode cX10_breaks 5 = .ok (.aload_n 0, 1) := by decide +kernel
theorem dX10_breaks_6 : decode cX10_breaks 6 = .ok (.getfield 71, 3) := by decide +kernel
theorem dX10_breaks_9 : decode cX10_breaks 9 = .ok (.if_icmp .ge 17, 3) := by decide +kernel
theorem dX10_breaks_12 : decode cX10_breaks 12 = .ok (.iload_n 1, 1) := by decide +kernel
theorem dX10_breaks_13 : decode cX10_breaks 13 = .ok (.aload_n 0, 1) := by decide +kernel
theorem dX10_breaks_14 : decode cX10_breaks 14 = .ok (.iload_n 2, 1) := by decide +kernel
theorem dX10_breaks_15 : decode cX10_breaks 15 = .ok (.invokevirtual 75, 3) := by decide +kernel
theorem dX10_breaks_18 : decode cX10_breaks 18 = .ok (.iadd, 1) := by decide +kernel
theorem dX10_breaks_19 : decode cX10_breaks 19 = .ok (.istore_n 1, 1) := by decide +kernel
theorem dX10_breaks_20 : decode cX10_breaks 20 = .ok (.iinc 2 1, 3) := by decide +kernel
theorem dX10_breaks_23 : decode cX10_breaks 23 = .ok (.goto (-19), 3) := by decide +kernel
theorem dX10_breaks_26 : decode cX10_breaks 26 = .ok (.iload_n 1, 1) := by decide +kernel
theorem dX10_breaks_27 : decode cX10_breaks 27 = .ok (.ireturn, 1) := by decide +kernel
theorem dX10_firstOrder_0 : decode cX10_firstOrder 0 = .ok (.aload_n 0, 1) := by decide +kernel
theorem dX10_firstOrder_1 : decode cX10_firstOrder 1 = .ok (.iconst 0, 1) := by decide +kernel
theorem dX10_firstOrder_2 : decode cX10_firstOrder 2 = .ok (.putfield 71, 3) := by decide +kernel
theorem dX10_firstOrder_5 : decode cX10_firstOrder 5 = .ok (.iconst 0, 1) := by decide +kernel
theorem dX10_firstOrder_6 : decode cX10_firstOrder 6 = .ok (.istore_n 1, 1) := by decide +kernel
theorem dX10_firstOrder_7 : decode cX10_firstOrder 7 = .ok (.iload_n 1, 1) := by decide +kernel
theorem dX10_firstOrder_8 : decode cX10_firstOrder 8 = .ok (.iconst 5, 1) := by decide +kernel
theorem dX10_firstOrder_9 : decode cX10_firstOrder 9 = .ok (.if_icmp .ge 50, 3) := by decide +kernel
theorem dX10_firstOrder_12 : decode cX10_firstOrder 12 = .ok (.iconst 0, 1) := by decide +kernel
theorem dX10_firstOrder_13 : decode cX10_firstOrder 13 = .ok (.istore_n 2, 1) := by decide +kernel
theorem dX10_firstOrder_14 : decode cX10_firstOrder 14 = .ok (.iload_n 2, 1) := by decide +kernel
theorem dX10_firstOrder_15 : decode cX10_firstOrder 15 = .ok (.aload_n 0, 1) := by decide +kernel
theorem dX10_firstOrder_16 : decode cX10_firstOrder 16 = .ok (.getfield 7, 3) := by decide +kernel
theorem dX10_firstOrder_19 : decode cX10_firstOrder 19 = .ok (.bipush 13, 2) := by decide +kernel
theorem dX10_firstOrder_21 : decode cX10_firstOrder 21 = .ok (.iload_n 1, 1) := by decide +kernel
theorem dX10_firstOrder_22 : decode cX10_firstOrder 22 = .ok (.iadd, 1) := by decide +kernel
theorem dX10_firstOrder_23 : decode cX10_firstOrder 23 = .ok (.iaload, 1) := by decide +kernel
theorem dX10_firstOrder_24 : decode cX10_firstOrder 24 = .ok (.if_icmp .ge 29, 3) := by decide +kernel
theorem dX10_firstOrder_27 : decode cX10_firstOrder 27 = .ok (.aload_n 0, 1) := by decide +kernel
theorem dX10_firstOrder_28 : decode cX10_firstOrder 28 = .ok (.getfield 23, 3) := by decide +kernel
theorem dX10_firstOrder_31 : decode cX10_firstOrder 31 = .ok (.aload_n 0, 1) := by decide +kernel
theorem dX10_firstOrder_32 : decode cX10_firstOrder 32 = .ok (.getfield 71, 3) := by decide +kernel
theorem dX10_firstOrder_35 : decode cX10_firstOrder 35 = .ok (.iload_n 1, 1) := by decide +kernel
theorem dX10_firstOrder_36 : decode cX10_firstOrder 36 = .ok (.iastore, 1) := by decide +kernel
theorem dX10_firstOrder_37 : decode cX10_firstOrder 37 = .ok (.aload_n 0, 1) := by decide +kernel
theorem dX10_firstOrder_38 : decode cX10_firstOrder 38 = .ok (.dup, 1) := by decide +kernel
theorem dX10_firstOrder_39 : decode cX10_firstOrder 39 = .ok (.getfield 71, 3) := by decide +kernel
theorem dX10_firstOrder_42 : decode cX10_firstOrder 42 = .ok (.iconst 1, 1) := by decide +kernel
theorem dX10_firstOrder_43 : decode cX10_firstOrder 43 = .ok (.iadd, 1) := by decide +kernel
theorem dX10_firstOrder_44 : decode cX10_firstOrder 44 = .ok (.putfield 71, 3) := by decide +kernel
theorem dX10_firstOrder_47 : decode cX10_firstOrder 47 = .ok (.iinc 2 1, 3) := by decide +kernel
theorem dX10_firstOrder_50 : decode cX10_firstOrder 50 = .ok (.goto (-36), 3) := by decide +kernel
theorem dX10_firstOrder_53 : decode cX10_firstOrder 53 = .ok (.iinc 1 1, 3) := by decide +kernel
theorem dX10_firstOrder_56 : decode cX10_firstOrder 56 = .ok (.goto (-49), 3) := by decide +kernel
theorem dX10_firstOrder_59 : decode cX10_firstOrder 59 = .ok (.return_, 1) := by decide +kernel
theorem dX10_swap_0 : decode cX10_swap 0 = .ok (.aload_n 0, 1) := by decide +kernel
theorem dX10_swap_1 : decode cX10_swap 1 = .ok (.getfield 23, 3) := by decide +kernel
theorem dX10_swap_4 : decode cX10_swap 4 = .ok (.iload_n 1, 1) := by decide +kernel
theorem dX10_swap_5 : decode cX10_swap 5 = .ok (.iaload, 1) := by decide +kernel
theorem dX10_swap_6 : decode cX10_swap 6 = .ok (.istore_n 3, 1) := by decide +kernel
theorem dX10_swap_7 : decode cX10_swap 7 = .ok (.aload_n 0, 1) := by decide +kernel
theorem dX10_swap_8 : decode cX10_swap 8 = .ok (.getfield 23, 3) := by decide +kernel
theorem dX10_swap_11 : decode cX10_swap 11 = .ok (.iload_n 1, 1) := by decide +kernel
theorem dX10_swap_12 : decode cX10_swap 12 = .ok (.aload_n 0, 1) := by decide +kernel
theorem dX10_swap_13 : decode cX10_swap 13 = .ok (.getfield 23, 3) := by decide +kernel
theorem dX10_swap_16 : decode cX10_swap 16 = .ok (.iload_n 2, 1) := by decide +kernel
theorem dX10_swap_17 : decode cX10_swap 17 = .ok (.iaload, 1) := by decide +kernel
theorem dX10_swap_18 : decode cX10_swap 18 = .ok (.iastore, 1) := by decide +kernel
theorem dX10_swap_19 : decode cX10_swap 19 = .ok (.aload_n 0, 1) := by decide +kernel
theorem dX10_swap_20 : decode cX10_swap 20 = .ok (.getfield 23, 3) := by decide +kernel
theorem dX10_swap_23 : decode cX10_swap 23 = .ok (.iload_n 2, 1) := by decide +kernel
theorem dX10_swap_24 : decode cX10_swap 24 = .ok (.iload_n 3, 1) := by decide +kernel
theorem dX10_swap_25 : decode cX10_swap 25 = .ok (.iastore, 1) := by decide +kernel
theorem dX10_swap_26 : decode cX10_swap 26 = .ok (.return_, 1) := by decide +kernel
theorem dX10_nextOrder_0 : decode cX10_nextOrder 0 = .ok (.aload_n 0, 1) := by decide +kernel
theorem dX10_nextOrder_1 : decode cX10_nextOrder 1 = .ok (.getfield 71, 3) := by decide +kernel
theorem dX10_nextOrder_4 : decode cX10_nextOrder 4 = .ok (.iconst 2, 1) := by decide +kernel
theorem dX10_nextOrder_5 : decode cX10_nextOrder 5 = .ok (.isub, 1) := by decide +kernel
theorem dX10_nextOrder_6 : decode cX10_nextOrder 6 = .ok (.istore_n 1, 1) := by decide +kernel
theorem dX10_nextOrder_7 : decode cX10_nextOrder 7 = .ok (.iload_n 1, 1) := by decide +kernel
theorem dX10_nextOrder_8 : decode cX10_nextOrder 8 = .ok (.ifCond .lt 26, 3) := by decide +kernel
theorem dX10_nextOrder_11 : decode cX10_nextOrder 11 = .ok (.aload_n 0, 1) := by decide +kernel
theorem dX10_nextOrder_12 : decode cX10_nextOrder 12 = .ok (.getfield 23, 3) := by decide +kernel
theorem dX10_nextOrder_15 : decode cX10_nextOrder 15 = .ok (.iload_n 1, 1) := by decide +kernel
theorem dX10_nextOrder_16 : decode cX10_nextOrder 16 = .ok (.iaload, 1) := by decide +kernel
theorem dX10_nextOrder_17 : decode cX10_nextOrder 17 = .ok (.aload_n 0, 1) := by decide +kernel
theorem dX10_nextOrder_18 : decode cX10_nextOrder 18 = .ok (.getfield 23, 3) := by decide +kernel
theorem dX10_nextOrder_21 : decode cX10_nextOrder 21 = .ok (.iload_n 1, 1) := by decide +kernel
theorem dX10_nextOrder_22 : decode cX10_nextOrder 22 = .ok (.iconst 1, 1) := by decide +kernel
theorem dX10_nextOrder_23 : decode cX10_nextOrder 23 = .ok (.iadd, 1) := by decide +kernel
theorem dX10_nextOrder_24 : decode cX10_nextOrder 24 = .ok (.iaload, 1) := by decide +kernel
theorem dX10_nextOrder_25 : decode cX10_nextOrder 25 = .ok (.if_icmp .lt 9, 3) := by decide +kernel
theorem dX10_nextOrder_28 : decode cX10_nextOrder 28 = .ok (.iinc 1 (-1), 3) := by decide +kernel
theorem dX10_nextOrder_31 : decode cX10_nextOrder 31 = .ok (.goto (-24), 3) := by decide +kernel
theorem dX10_nextOrder_34 : decode cX10_nextOrder 34 = .ok (.iload_n 1, 1) := by decide +kernel
theorem dX10_nextOrder_35 : decode cX10_nextOrder 35 = .ok (.ifCond .ge 5, 3) := by decide +kernel
theorem dX10_nextOrder_38 : decode cX10_nextOrder 38 = .ok (.iconst 0, 1) := by decide +kernel
theorem dX10_nextOrder_39 : decode cX10_nextOrder 39 = .ok (.ireturn, 1) := by decide +kernel
theorem dX10_nextOrder_40 : decode cX10_nextOrder 40 = .ok (.aload_n 0, 1) := by decide +kernel
theorem dX10_nextOrder_41 : decode cX10_nextOrder 41 = .ok (.getfield 71, 3) := by decide +kernel
theorem dX10_nextOrder_44 : decode cX10_nextOrder 44 = .ok (.iconst 1, 1) := by decide +kernel
theorem dX10_nextOrder_45 : decode cX10_nextOrder 45 = .ok (.isub, 1) := by decide +kernel
theorem dX10_nextOrder_46 : decode cX10_nextOrder 46 = .ok (.istore_n 2, 1) := by decide +kernel
theorem dX10_nextOrder_47 : decode cX10_nextOrder 47 = .ok (.aload_n 0, 1) := by decide +kernel
end
section
theorem dX10_nextOrder_48 : decode cX10_nextOrder 48 = .ok (.getfield 23, 3) := by decide +kernel
theorem dX10_nextOrder_51 : decode cX10_nextOrder 51 = .ok (.iload_n 2, 1) := by decide +kernel
theorem dX10_nextOrder_52 : decode cX10_nextOrder 52 = .ok (.iaload, 1) := by decide +kernel
theorem dX10_nextOrder_53 : decode cX10_nextOrder 53 = .ok (.aload_n 0, 1) := by decide +kernel
theorem dX10_nextOrder_54 : decode cX10_nextOrder 54 = .ok (.getfield 23, 3) := by decide +kernel
theorem dX10_nextOrder_57 : decode cX10_nextOrder 57 = .ok (.iload_n 1, 1) := by decide +kernel
theorem dX10_nextOrder_58 : decode cX10_nextOrder 58 = .ok (.iaload, 1) := by decide +kernel
theorem dX10_nextOrder_59 : decode cX10_nextOrder 59 = .ok (.if_icmp .gt 9, 3) := by decide +kernel
theorem dX10_nextOrder_62 : decode cX10_nextOrder 62 = .ok (.iinc 2 (-1), 3) := by decide +kernel
theorem dX10_nextOrder_65 : decode cX10_nextOrder 65 = .ok (.goto (-18), 3) := by decide +kernel
theorem dX10_nextOrder_68 : decode cX10_nextOrder 68 = .ok (.aload_n 0, 1) := by decide +kernel
theorem dX10_nextOrder_69 : decode cX10_nextOrder 69 = .ok (.iload_n 1, 1) := by decide +kernel
theorem dX10_nextOrder_70 : decode cX10_nextOrder 70 = .ok (.iload_n 2, 1) := by decide +kernel
theorem dX10_nextOrder_71 : decode cX10_nextOrder 71 = .ok (.invokevirtual 78, 3) := by decide +kernel
theorem dX10_nextOrder_74 : decode cX10_nextOrder 74 = .ok (.iload_n 1, 1) := by decide +kernel
theorem dX10_nextOrder_75 : decode cX10_nextOrder 75 = .ok (.iconst 1, 1) := by decide +kernel
theorem dX10_nextOrder_76 : decode cX10_nextOrder 76 = .ok (.iadd, 1) := by decide +kernel
theorem dX10_nextOrder_77 : decode cX10_nextOrder 77 = .ok (.istore_n 3, 1) := by decide +kernel
theorem dX10_nextOrder_78 : decode cX10_nextOrder 78 = .ok (.aload_n 0, 1) := by decide +kernel
theorem dX10_nextOrder_79 : decode cX10_nextOrder 79 = .ok (.getfield 71, 3) := by decide +kernel
theorem dX10_nextOrder_82 : decode cX10_nextOrder 82 = .ok (.iconst 1, 1) := by decide +kernel
theorem dX10_nextOrder_83 : decode cX10_nextOrder 83 = .ok (.isub, 1) := by decide +kernel
theorem dX10_nextOrder_84 : decode cX10_nextOrder 84 = .ok (.istore 4, 2) := by decide +kernel
theorem dX10_nextOrder_86 : decode cX10_nextOrder 86 = .ok (.iload_n 3, 1) := by decide +kernel
theorem dX10_nextOrder_87 : decode cX10_nextOrder 87 = .ok (.iload 4, 2) := by decide +kernel
theorem dX10_nextOrder_89 : decode cX10_nextOrder 89 = .ok (.if_icmp .ge 19, 3) := by decide +kernel
theorem dX10_nextOrder_92 : decode cX10_nextOrder 92 = .ok (.aload_n 0, 1) := by decide +kernel
theorem dX10_nextOrder_93 : decode cX10_nextOrder 93 = .ok (.iload_n 3, 1) := by decide +kernel
theorem dX10_nextOrder_94 : decode cX10_nextOrder 94 = .ok (.iload 4, 2) := by decide +kernel
theorem dX10_nextOrder_96 : decode cX10_nextOrder 96 = .ok (.invokevirtual 78, 3) := by decide +kernel
theorem dX10_nextOrder_99 : decode cX10_nextOrder 99 = .ok (.iinc 3 1, 3) := by decide +kernel
theorem dX10_nextOrder_102 : decode cX10_nextOrder 102 = .ok (.iinc 4 (-1), 3) := by decide +kernel
theorem dX10_nextOrder_105 : decode cX10_nextOrder 105 = .ok (.goto (-19), 3) := by decide +kernel
theorem dX10_nextOrder_108 : decode cX10_nextOrder 108 = .ok (.iconst 1, 1) := by decide +kernel
theorem dX10_nextOrder_109 : decode cX10_nextOrder 109 = .ok (.ireturn, 1) := by decide +kernel
theorem dX10_keepBest_0 : decode cX10_keepBest 0 = .ok (.iconst 0, 1) := by decide +kernel
theorem dX10_keepBest_1 : decode cX10_keepBest 1 = .ok (.istore_n 1, 1) := by decide +kernel
theorem dX10_keepBest_2 : decode cX10_keepBest 2 = .ok (.iload_n 1, 1) := by decide +kernel
theorem dX10_keepBest_3 : decode cX10_keepBest 3 = .ok (.aload_n 0, 1) := by decide +kernel
theorem dX10_keepBest_4 : decode cX10_keepBest 4 = .ok (.getfield 71, 3) := by decide +kernel
theorem dX10_keepBest_7 : decode cX10_keepBest 7 = .ok (.if_icmp .ge 21, 3) := by decide +kernel
theorem dX10_keepBest_10 : decode cX10_keepBest 10 = .ok (.aload_n 0, 1) := by decide +kernel
theorem dX10_keepBest_11 : decode cX10_keepBest 11 = .ok (.getfield 26, 3) := by decide +kernel
theorem dX10_keepBest_14 : decode cX10_keepBest 14 = .ok (.iload_n 1, 1) := by decide +kernel
theorem dX10_keepBest_15 : decode cX10_keepBest 15 = .ok (.aload_n 0, 1) := by decide +kernel
theorem dX10_keepBest_16 : decode cX10_keepBest 16 = .ok (.getfield 23, 3) := by decide +kernel
theorem dX10_keepBest_19 : decode cX10_keepBest 19 = .ok (.iload_n 1, 1) := by decide +kernel
theorem dX10_keepBest_20 : decode cX10_keepBest 20 = .ok (.iaload, 1) := by decide +kernel
theorem dX10_keepBest_21 : decode cX10_keepBest 21 = .ok (.iastore, 1) := by decide +kernel
theorem dX10_keepBest_22 : decode cX10_keepBest 22 = .ok (.iinc 1 1, 3) := by decide +kernel
theorem dX10_keepBest_25 : decode cX10_keepBest 25 = .ok (.goto (-23), 3) := by decide +kernel
theorem dX10_keepBest_28 : decode cX10_keepBest 28 = .ok (.return_, 1) := by decide +kernel
theorem dX10_told__0 : decode cX10_told_ 0 = .ok (.iload_n 1, 1) := by decide +kernel
theorem dX10_told__1 : decode cX10_told_ 1 = .ok (.iconst 0, 1) := by decide +kernel
theorem dX10_told__2 : decode cX10_told_ 2 = .ok (.aload_n 0, 1) := by decide +kernel
theorem dX10_told__3 : decode cX10_told_ 3 = .ok (.getfield 71, 3) := by decide +kernel
theorem dX10_told__6 : decode cX10_told_ 6 = .ok (.iconst 1, 1) := by decide +kernel
theorem dX10_told__7 : decode cX10_told_ 7 = .ok (.isub, 1) := by decide +kernel
theorem dX10_told__8 : decode cX10_told_ 8 = .ok (.invokestatic 38, 3) := by decide +kernel
theorem dX10_told__11 : decode cX10_told_ 11 = .ok (.ifCond .eq 19, 3) := by decide +kernel
theorem dX10_told__14 : decode cX10_told_ 14 = .ok (.aload_n 0, 1) := by decide +kernel
theorem dX10_told__15 : decode cX10_told_ 15 = .ok (.getfield 82, 3) := by decide +kernel
theorem dX10_told__18 : decode cX10_told_ 18 = .ok (.ifCond .le 12, 3) := by decide +kernel
theorem dX10_told__21 : decode cX10_told_ 21 = .ok (.aload_n 0, 1) := by decide +kernel
theorem dX10_told__22 : decode cX10_told_ 22 = .ok (.getfield 26, 3) := by decide +kernel
theorem dX10_told__25 : decode cX10_told_ 25 = .ok (.iload_n 1, 1) := by decide +kernel
theorem dX10_told__26 : decode cX10_told_ 26 = .ok (.iaload, 1) := by decide +kernel
theorem dX10_told__27 : decode cX10_told_ 27 = .ok (.goto 5, 3) := by decide +kernel
theorem dX10_told__30 : decode cX10_told_ 30 = .ok (.bipush (-6), 2) := by decide +kernel
theorem dX10_told__32 : decode cX10_told_ 32 = .ok (.ireturn, 1) := by decide +kernel
theorem dX10_goFits_0 : decode cX10_goFits 0 = .ok (.aload_n 0, 1) := by decide +kernel
theorem dX10_goFits_1 : decode cX10_goFits 1 = .ok (.iconst 0, 1) := by decide +kernel
theorem dX10_goFits_2 : decode cX10_goFits 2 = .ok (.putfield 82, 3) := by decide +kernel
theorem dX10_goFits_5 : decode cX10_goFits 5 = .ok (.iconst 0, 1) := by decide +kernel
theorem dX10_goFits_6 : decode cX10_goFits 6 = .ok (.istore_n 1, 1) := by decide +kernel
theorem dX10_goFits_7 : decode cX10_goFits 7 = .ok (.iload_n 1, 1) := by decide +kernel
theorem dX10_goFits_8 : decode cX10_goFits 8 = .ok (.bipush 9, 2) := by decide +kernel
theorem dX10_goFits_10 : decode cX10_goFits 10 = .ok (.if_icmp .ge 16, 3) := by decide +kernel
theorem dX10_goFits_13 : decode cX10_goFits 13 = .ok (.aload_n 0, 1) := by decide +kernel
theorem dX10_goFits_14 : decode cX10_goFits 14 = .ok (.getfield 29, 3) := by decide +kernel
theorem dX10_goFits_17 : decode cX10_goFits 17 = .ok (.iload_n 1, 1) := by decide +kernel
theorem dX10_goFits_18 : decode cX10_goFits 18 = .ok (.iconst 0, 1) := by decide +kernel
theorem dX10_goFits_19 : decode cX10_goFits 19 = .ok (.iastore, 1) := by decide +kernel
theorem dX10_goFits_20 : decode cX10_goFits 20 = .ok (.iinc 1 1, 3) := by decide +kernel
theorem dX10_goFits_23 : decode cX10_goFits 23 = .ok (.goto (-16), 3) := by decide +kernel
theorem dX10_goFits_26 : decode cX10_goFits 26 = .ok (.aload_n 0, 1) := by decide +kernel
theorem dX10_goFits_27 : decode cX10_goFits 27 = .ok (.invokevirtual 85, 3) := by decide +kernel
theorem dX10_goFits_30 : decode cX10_goFits 30 = .ok (.iconst 1, 1) := by decide +kernel
theorem dX10_goFits_31 : decode cX10_goFits 31 = .ok (.istore_n 1, 1) := by decide +kernel
theorem dX10_goFits_32 : decode cX10_goFits 32 = .ok (.iload_n 1, 1) := by decide +kernel
theorem dX10_goFits_33 : decode cX10_goFits 33 = .ok (.ifCond .eq 72, 3) := by decide +kernel
theorem dX10_goFits_36 : decode cX10_goFits 36 = .ok (.aload_n 0, 1) := by decide +kernel
theorem dX10_goFits_37 : decode cX10_goFits 37 = .ok (.invokevirtual 88, 3) := by decide +kernel
theorem dX10_goFits_40 : decode cX10_goFits 40 = .ok (.ifCond .ne 57, 3) := by decide +kernel
theorem dX10_goFits_43 : decode cX10_goFits 43 = .ok (.aload_n 0, 1) := by decide +kernel
theorem dX10_goFits_44 : decode cX10_goFits 44 = .ok (.getfield 82, 3) := by decide +kernel
theorem dX10_goFits_47 : decode cX10_goFits 47 = .ok (.ifCond .ne 7, 3) := by decide +kernel
theorem dX10_goFits_50 : decode cX10_goFits 50 = .ok (.aload_n 0, 1) := by decide +kernel
theorem dX10_goFits_51 : decode cX10_goFits 51 = .ok (.invokevirtual 91, 3) := by decide +kernel
theorem dX10_goFits_54 : decode cX10_goFits 54 = .ok (.aload_n 0, 1) := by decide +kernel
theorem dX10_goFits_55 : decode cX10_goFits 55 = .ok (.dup, 1) := by decide +kernel
theorem dX10_goFits_56 : decode cX10_goFits 56 = .ok (.getfield 82, 3) := by decide +kernel
theorem dX10_goFits_59 : decode cX10_goFits 59 = .ok (.iconst 1, 1) := by decide +kernel
theorem dX10_goFits_60 : decode cX10_goFits 60 = .ok (.iadd, 1) := by decide +kernel
theorem dX10_goFits_61 : decode cX10_goFits 61 = .ok (.putfield 82, 3) := by decide +kernel
theorem dX10_goFits_64 : decode cX10_goFits 64 = .ok (.iconst 0, 1) := by decide +kernel
theorem dX10_goFits_65 : decode cX10_goFits 65 = .ok (.istore_n 2, 1) := by decide +kernel
theorem dX10_goFits_66 : decode cX10_goFits 66 = .ok (.iload_n 2, 1) := by decide +kernel
theorem dX10_goFits_67 : decode cX10_goFits 67 = .ok (.aload_n 0, 1) := by decide +kernel
theorem dX10_goFits_68 : decode cX10_goFits 68 = .ok (.getfield 71, 3) := by decide +kernel
theorem dX10_goFits_71 : decode cX10_goFits 71 = .ok (.if_icmp .ge 26, 3) := by decide +kernel
theorem dX10_goFits_74 : decode cX10_goFits 74 = .ok (.aload_n 0, 1) := by decide +kernel
theorem dX10_goFits_75 : decode cX10_goFits 75 = .ok (.getfield 29, 3) := by decide +kernel
theorem dX10_goFits_78 : decode cX10_goFits 78 = .ok (.iload_n 2, 1) := by decide +kernel
theorem dX10_goFits_79 : decode cX10_goFits 79 = .ok (.dup2, 1) := by decide +kernel
theorem dX10_goFits_80 : decode cX10_goFits 80 = .ok (.iaload, 1) := by decide +kernel
theorem dX10_goFits_81 : decode cX10_goFits 81 = .ok (.iconst 1, 1) := by decide +kernel
theorem dX10_goFits_82 : decode cX10_goFits 82 = .ok (.aload_n 0, 1) := by decide +kernel
theorem dX10_goFits_83 : decode cX10_goFits 83 = .ok (.getfield 23, 3) := by decide +kernel
theorem dX10_goFits_86 : decode cX10_goFits 86 = .ok (.iload_n 2, 1) := by decide +kernel
theorem dX10_goFits_87 : decode cX10_goFits 87 = .ok (.iaload, 1) := by decide +kernel
theorem dX10_goFits_88 : decode cX10_goFits 88 = .ok (.ishl, 1) := by decide +kernel
theorem dX10_goFits_89 : decode cX10_goFits 89 = .ok (.ior, 1) := by decide +kernel
theorem dX10_goFits_90 : decode cX10_goFits 90 = .ok (.iastore, 1) := by decide +kernel
theorem dX10_goFits_91 : decode cX10_goFits 91 = .ok (.iinc 2 1, 3) := by decide +kernel
theorem dX10_goFits_94 : decode cX10_goFits 94 = .ok (.goto (-28), 3) := by decide +kernel
theorem dX10_goFits_97 : decode cX10_goFits 97 = .ok (.aload_n 0, 1) := by decide +kernel
theorem dX10_goFits_98 : decode cX10_goFits 98 = .ok (.invokevirtual 94, 3) := by decide +kernel
theorem dX10_goFits_101 : decode cX10_goFits 101 = .ok (.istore_n 1, 1) := by decide +kernel
theorem dX10_goFits_102 : decode cX10_goFits 102 = .ok (.goto (-70), 3) := by decide +kernel
theorem dX10_goFits_105 : decode cX10_goFits 105 = .ok (.return_, 1) := by decide +kernel
theorem dX10_fits_0 : decode cX10_fits 0 = .ok (.iload_n 1, 1) := by decide +kernel
theorem dX10_fits_1 : decode cX10_fits 1 = .ok (.iconst (-1), 1) := by decide +kernel
theorem dX10_fits_2 : decode cX10_fits 2 = .ok (.if_icmp .ge 6, 3) := by decide +kernel
theorem dX10_fits_5 : decode cX10_fits 5 = .ok (.bipush (-2), 2) := by decide +kernel
theorem dX10_fits_7 : decode cX10_fits 7 = .ok (.ireturn, 1) := by decide +kernel
theorem dX10_fits_8 : decode cX10_fits 8 = .ok (.aload_n 0, 1) := by decide +kernel
theorem dX10_fits_9 : decode cX10_fits 9 = .ok (.invokevirtual 98, 3) := by decide +kernel
theorem dX10_fits_12 : decode cX10_fits 12 = .ok (.iload_n 1, 1) := by decide +kernel
theorem dX10_fits_13 : decode cX10_fits 13 = .ok (.iconst (-1), 1) := by decide +kernel
theorem dX10_fits_14 : decode cX10_fits 14 = .ok (.if_icmp .ne 10, 3) := by decide +kernel
theorem dX10_fits_17 : decode cX10_fits 17 = .ok (.aload_n 0, 1) := by decide +kernel
theorem dX10_fits_18 : decode cX10_fits 18 = .ok (.getfield 82, 3) := by decide +kernel
theorem dX10_fits_21 : decode cX10_fits 21 = .ok (.goto 8, 3) := by decide +kernel
theorem dX10_fits_24 : decode cX10_fits 24 = .ok (.aload_n 0, 1) := by decide +kernel
theorem dX10_fits_25 : decode cX10_fits 25 = .ok (.iload_n 1, 1) := by decide +kernel
theorem dX10_fits_26 : decode cX10_fits 26 = .ok (.invokevirtual 101, 3) := by decide +kernel
theorem dX10_fits_29 : decode cX10_fits 29 = .ok (.ireturn, 1) := by decide +kernel
theorem dX10_at_0 : decode cX10_at 0 = .ok (.aload_n 0, 1) := by decide +kernel
theorem dX10_at_1 : decode cX10_at 1 = .ok (.invokevirtual 98, 3) := by decide +kernel
theorem dX10_at_4 : decode cX10_at 4 = .ok (.aload_n 0, 1) := by decide +kernel
theorem dX10_at_5 : decode cX10_at 5 = .ok (.getfield 82, 3) := by decide +kernel
theorem dX10_at_8 : decode cX10_at 8 = .ok (.ifCond .le 26, 3) := by decide +kernel
theorem dX10_at_11 : decode cX10_at 11 = .ok (.iload_n 1, 1) := by decide +kernel
theorem dX10_at_12 : decode cX10_at 12 = .ok (.iconst 0, 1) := by decide +kernel
theorem dX10_at_13 : decode cX10_at 13 = .ok (.aload_n 0, 1) := by decide +kernel
theorem dX10_at_14 : decode cX10_at 14 = .ok (.getfield 71, 3) := by decide +kernel
theorem dX10_at_17 : decode cX10_at 17 = .ok (.iconst 1, 1) := by decide +kernel
theorem dX10_at_18 : decode cX10_at 18 = .ok (.isub, 1) := by decide +kernel
theorem dX10_at_19 : decode cX10_at 19 = .ok (.invokestatic 38, 3) := by decide +kernel
theorem dX10_at_22 : decode cX10_at 22 = .ok (.ifCond .eq 12, 3) := by decide +kernel
theorem dX10_at_25 : decode cX10_at 25 = .ok (.aload_n 0, 1) := by decide +kernel
theorem dX10_at_26 : decode cX10_at 26 = .ok (.getfield 29, 3) := by decide +kernel
theorem dX10_at_29 : decode cX10_at 29 = .ok (.iload_n 1, 1) := by decide +kernel
theorem dX10_at_30 : decode cX10_at 30 = .ok (.iaload, 1) := by decide +kernel
theorem dX10_at_31 : decode cX10_at 31 = .ok (.goto 5, 3) := by decide +kernel
theorem dX10_at_34 : decode cX10_at 34 = .ok (.bipush (-6), 2) := by decide +kernel
theorem dX10_at_36 : decode cX10_at 36 = .ok (.ireturn, 1) := by decide +kernel
theorem dX10_goLeast_0 : decode cX10_goLeast 0 = .ok (.aload_n 0, 1) := by decide +kernel
theorem dX10_goLeast_1 : decode cX10_goLeast 1 = .ok (.sipush 1000, 3) := by decide +kernel
theorem dX10_goLeast_4 : decode cX10_goLeast 4 = .ok (.putfield 104, 3) := by decide +kernel
theorem dX10_goLeast_7 : decode cX10_goLeast 7 = .ok (.aload_n 0, 1) := by decide +kernel
theorem dX10_goLeast_8 : decode cX10_goLeast 8 = .ok (.iconst 0, 1) := by decide +kernel
theorem dX10_goLeast_9 : decode cX10_goLeast 9 = .ok (.putfield 107, 3) := by decide +kernel
theorem dX10_goLeast_12 : decode cX10_goLeast 12 = .ok (.aload_n 0, 1) := by decide +kernel
theorem dX10_goLeast_13 : decode cX10_goLeast 13 = .ok (.iconst 0, 1) := by decide +kernel
theorem dX10_goLeast_14 : decode cX10_goLeast 14 = .ok (.putfield 110, 3) := by decide +kernel
theorem dX10_goLeast_17 : decode cX10_goLeast 17 = .ok (.aload_n 0, 1) := by decide +kernel
theorem dX10_goLeast_18 : decode cX10_goLeast 18 = .ok (.iconst 0, 1) := by decide +kernel
theorem dX10_goLeast_19 : decode cX10_goLeast 19 = .ok (.putfield 113, 3) := by decide +kernel
theorem dX10_goLeast_22 : decode cX10_goLeast 22 = .ok (.aload_n 0, 1) := by decide +kernel
theorem dX10_goLeast_23 : decode cX10_goLeast 23 = .ok (.iconst 1, 1) := by decide +kernel
theorem dX10_goLeast_24 : decode cX10_goLeast 24 = .ok (.putfield 82, 3) := by decide +kernel
theorem dX10_goLeast_27 : decode cX10_goLeast 27 = .ok (.aload_n 0, 1) := by decide +kernel
theorem dX10_goLeast_28 : decode cX10_goLeast 28 = .ok (.invokevirtual 85, 3) := by decide +kernel
theorem dX10_goLeast_31 : decode cX10_goLeast 31 = .ok (.iconst 1, 1) := by decide +kernel
theorem dX10_goLeast_32 : decode cX10_goLeast 32 = .ok (.istore_n 1, 1) := by decide +kernel
theorem dX10_goLeast_33 : decode cX10_goLeast 33 = .ok (.iload_n 1, 1) := by decide +kernel
theorem dX10_goLeast_34 : decode cX10_goLeast 34 = .ok (.ifCond .eq 90, 3) := by decide +kernel
theorem dX10_goLeast_37 : decode cX10_goLeast 37 = .ok (.aload_n 0, 1) := by decide +kernel
theorem dX10_goLeast_38 : decode cX10_goLeast 38 = .ok (.invokevirtual 88, 3) := by decide +kernel
theorem dX10_goLeast_41 : decode cX10_goLeast 41 = .ok (.istore_n 2, 1) := by decide +kernel
theorem dX10_goLeast_42 : decode cX10_goLeast 42 = .ok (.iload_n 2, 1) := by decide +kernel
theorem dX10_goLeast_43 : decode cX10_goLeast 43 = .ok (.aload_n 0, 1) := by decide +kernel
theorem dX10_goLeast_44 : decode cX10_goLeast 44 = .ok (.getfield 104, 3) := by decide +kernel
theorem dX10_goLeast_47 : decode cX10_goLeast 47 = .ok (.if_icmp .ge 17, 3) := by decide +kernel
theorem dX10_goLeast_50 : decode cX10_goLeast 50 = .ok (.aload_n 0, 1) := by decide +kernel
theorem dX10_goLeast_51 : decode cX10_goLeast 51 = .ok (.iload_n 2, 1) := by decide +kernel
theorem dX10_goLeast_52 : decode cX10_goLeast 52 = .ok (.putfield 104, 3) := by decide +kernel
theorem dX10_goLeast_55 : decode cX10_goLeast 55 = .ok (.aload_n 0, 1) := by decide +kernel
theorem dX10_goLeast_56 : decode cX10_goLeast 56 = .ok (.iconst 0, 1) := by decide +kernel
theorem dX10_goLeast_57 : decode cX10_goLeast 57 = .ok (.putfield 110, 3) := by decide +kernel
theorem dX10_goLeast_60 : decode cX10_goLeast 60 = .ok (.aload_n 0, 1) := by decide +kernel
theorem dX10_goLeast_61 : decode cX10_goLeast 61 = .ok (.invokevirtual 91, 3) := by decide +kernel
theorem dX10_goLeast_64 : decode cX10_goLeast 64 = .ok (.aload_n 0, 1) := by decide +kernel
theorem dX10_goLeast_65 : decode cX10_goLeast 65 = .ok (.dup, 1) := by decide +kernel
theorem dX10_goLeast_66 : decode cX10_goLeast 66 = .ok (.getfield 110, 3) := by decide +kernel
theorem dX10_goLeast_69 : decode cX10_goLeast 69 = .ok (.iload_n 2, 1) := by decide +kernel
theorem dX10_goLeast_70 : decode cX10_goLeast 70 = .ok (.aload_n 0, 1) := by decide +kernel
theorem dX10_goLeast_71 : decode cX10_goLeast 71 = .ok (.getfield 104, 3) := by decide +kernel
theorem dX10_goLeast_74 : decode cX10_goLeast 74 = .ok (.if_icmp .ne 7, 3) := by decide +kernel
theorem dX10_goLeast_77 : decode cX10_goLeast 77 = .ok (.iconst 1, 1) := by decide +kernel
theorem dX10_goLeast_78 : decode cX10_goLeast 78 = .ok (.goto 4, 3) := by decide +kernel
theorem dX10_goLeast_81 : decode cX10_goLeast 81 = .ok (.iconst 0, 1) := by decide +kernel
theorem dX10_goLeast_82 : decode cX10_goLeast 82 = .ok (.iadd, 1) := by decide +kernel
theorem dX10_goLeast_83 : decode cX10_goLeast 83 = .ok (.putfield 110, 3) := by decide +kernel
theorem dX10_goLeast_86 : decode cX10_goLeast 86 = .ok (.aload_n 0, 1) := by decide +kernel
theorem dX10_goLeast_87 : decode cX10_goLeast 87 = .ok (.iload_n 2, 1) := by decide +kernel
theorem dX10_goLeast_88 : decode cX10_goLeast 88 = .ok (.aload_n 0, 1) := by decide +kernel
theorem dX10_goLeast_89 : decode cX10_goLeast 89 = .ok (.getfield 107, 3) := by decide +kernel
theorem dX10_goLeast_92 : decode cX10_goLeast 92 = .ok (.if_icmp .le 7, 3) := by decide +kernel
theorem dX10_goLeast_95 : decode cX10_goLeast 95 = .ok (.iload_n 2, 1) := by decide +kernel
theorem dX10_goLeast_96 : decode cX10_goLeast 96 = .ok (.goto 7, 3) := by decide +kernel
theorem dX10_goLeast_99 : decode cX10_goLeast 99 = .ok (.aload_n 0, 1) := by decide +kernel
theorem dX10_goLeast_100 : decode cX10_goLeast 100 = .ok (.getfield 107, 3) := by decide +kernel
theorem dX10_goLeast_103 : decode cX10_goLeast 103 = .ok (.putfield 107, 3) := by decide +kernel
theorem dX10_goLeast_106 : decode cX10_goLeast 106 = .ok (.aload_n 0, 1) := by decide +kernel
theorem dX10_goLeast_107 : decode cX10_goLeast 107 = .ok (.dup, 1) := by decide +kernel
theorem dX10_goLeast_108 : decode cX10_goLeast 108 = .ok (.getfield 113, 3) := by decide +kernel
theorem dX10_goLeast_111 : decode cX10_goLeast 111 = .ok (.iconst 1, 1) := by decide +kernel
theorem dX10_goLeast_112 : decode cX10_goLeast 112 = .ok (.iadd, 1) := by decide +kernel
theorem dX10_goLeast_113 : decode cX10_goLeast 113 = .ok (.putfield 113, 3) := by decide +kernel
theorem dX10_goLeast_116 : decode cX10_goLeast 116 = .ok (.aload_n 0, 1) := by decide +kernel
theorem dX10_goLeast_117 : decode cX10_goLeast 117 = .ok (.invokevirtual 94, 3) := by decide +kernel
theorem dX10_goLeast_120 : decode cX10_goLeast 120 = .ok (.istore_n 1, 1) := by decide +kernel
theorem dX10_goLeast_121 : decode cX10_goLeast 121 = .ok (.goto (-88), 3) := by decide +kernel
theorem dX10_goLeast_124 : decode cX10_goLeast 124 = .ok (.return_, 1) := by decide +kernel
theorem dX10_least_0 : decode cX10_least 0 = .ok (.iload_n 1, 1) := by decide +kernel
theorem dX10_least_1 : decode cX10_least 1 = .ok (.iconst (-1), 1) := by decide +kernel
theorem dX10_least_2 : decode cX10_least 2 = .ok (.if_icmp .ge 6, 3) := by decide +kernel
theorem dX10_least_5 : decode cX10_least 5 = .ok (.bipush (-2), 2) := by decide +kernel
theorem dX10_least_7 : decode cX10_least 7 = .ok (.ireturn, 1) := by decide +kernel
theorem dX10_least_8 : decode cX10_least 8 = .ok (.aload_n 0, 1) := by decide +kernel
theorem dX10_least_9 : decode cX10_least 9 = .ok (.invokevirtual 116, 3) := by decide +kernel
theorem dX10_least_12 : decode cX10_least 12 = .ok (.iload_n 1, 1) := by decide +kernel
theorem dX10_least_13 : decode cX10_least 13 = .ok (.iconst (-1), 1) := by decide +kernel
theorem dX10_least_14 : decode cX10_least 14 = .ok (.if_icmp .ne 10, 3) := by decide +kernel
theorem dX10_least_17 : decode cX10_least 17 = .ok (.aload_n 0, 1) := by decide +kernel
theorem dX10_least_18 : decode cX10_least 18 = .ok (.getfield 104, 3) := by decide +kernel
theorem dX10_least_21 : decode cX10_least 21 = .ok (.goto 8, 3) := by decide +kernel
theorem dX10_least_24 : decode cX10_least 24 = .ok (.aload_n 0, 1) := by decide +kernel
theorem dX10_least_25 : decode cX10_least 25 = .ok (.iload_n 1, 1) := by decide +kernel
theorem dX10_least_26 : decode cX10_least 26 = .ok (.invokevirtual 101, 3) := by decide +kernel
theorem dX10_least_29 : decode cX10_least 29 = .ok (.ireturn, 1) := by decide +kernel
theorem dX10_orders_0 : decode cX10_orders 0 = .ok (.iload_n 1, 1) := by decide +kernel
theorem dX10_orders_1 : decode cX10_orders 1 = .ok (.iconst 0, 1) := by decide +kernel
theorem dX10_orders_2 : decode cX10_orders 2 = .ok (.iconst 2, 1) := by decide +kernel
theorem dX10_orders_3 : decode cX10_orders 3 = .ok (.invokestatic 38, 3) := by decide +kernel
theorem dX10_orders_6 : decode cX10_orders 6 = .ok (.ifCond .ne 6, 3) := by decide +kernel
theorem dX10_orders_9 : decode cX10_orders 9 = .ok (.bipush (-2), 2) := by decide +kernel
theorem dX10_orders_11 : decode cX10_orders 11 = .ok (.ireturn, 1) := by decide +kernel
theorem dX10_orders_12 : decode cX10_orders 12 = .ok (.aload_n 0, 1) := by decide +kernel
theorem dX10_orders_13 : decode cX10_orders 13 = .ok (.invokevirtual 116, 3) := by decide +kernel
theorem dX10_orders_16 : decode cX10_orders 16 = .ok (.iload_n 1, 1) := by decide +kernel
theorem dX10_orders_17 : decode cX10_orders 17 = .ok (.ifCond .ne 10, 3) := by decide +kernel
theorem dX10_orders_20 : decode cX10_orders 20 = .ok (.aload_n 0, 1) := by decide +kernel
theorem dX10_orders_21 : decode cX10_orders 21 = .ok (.getfield 113, 3) := by decide +kernel
theorem dX10_orders_24 : decode cX10_orders 24 = .ok (.goto 19, 3) := by decide +kernel
theorem dX10_orders_27 : decode cX10_orders 27 = .ok (.iload_n 1, 1) := by decide +kernel
theorem dX10_orders_28 : decode cX10_orders 28 = .ok (.iconst 1, 1) := by decide +kernel
theorem dX10_orders_29 : decode cX10_orders 29 = .ok (.if_icmp .ne 10, 3) := by decide +kernel
theorem dX10_orders_32 : decode cX10_orders 32 = .ok (.aload_n 0, 1) := by decide +kernel
theorem dX10_orders_33 : decode cX10_orders 33 = .ok (.getfield 107, 3) := by decide +kernel
theorem dX10_orders_36 : decode cX10_orders 36 = .ok (.goto 7, 3) := by decide +kernel
theorem dX10_orders_39 : decode cX10_orders 39 = .ok (.aload_n 0, 1) := by decide +kernel
theorem dX10_orders_40 : decode cX10_orders 40 = .ok (.getfield 110, 3) := by decide +kernel
theorem dX10_orders_43 : decode cX10_orders 43 = .ok (.ireturn, 1) := by decide +kernel
theorem dX10_size_0 : decode cX10_size 0 = .ok (.iload_n 0, 1) := by decide +kernel
theorem dX10_size_1 : decode cX10_size 1 = .ok (.iconst 1, 1) := by decide +kernel
theorem dX10_size_2 : decode cX10_size 2 = .ok (.iand, 1) := by decide +kernel
theorem dX10_size_3 : decode cX10_size 3 = .ok (.iload_n 0, 1) := by decide +kernel
theorem dX10_size_4 : decode cX10_size 4 = .ok (.iconst 1, 1) := by decide +kernel
theorem dX10_size_5 : decode cX10_size 5 = .ok (.ishr, 1) := by decide +kernel
theorem dX10_size_6 : decode cX10_size 6 = .ok (.iconst 1, 1) := by decide +kernel
theorem dX10_size_7 : decode cX10_size 7 = .ok (.iand, 1) := by decide +kernel
theorem dX10_size_8 : decode cX10_size 8 = .ok (.iadd, 1) := by decide +kernel
theorem dX10_size_9 : decode cX10_size 9 = .ok (.iload_n 0, 1) := by decide +kernel
theorem dX10_size_10 : decode cX10_size 10 = .ok (.iconst 2, 1) := by decide +kernel
theorem dX10_size_11 : decode cX10_size 11 = .ok (.ishr, 1) := by decide +kernel
theorem dX10_size_12 : decode cX10_size 12 = .ok (.iconst 1, 1) := by decide +kernel
theorem dX10_size_13 : decode cX10_size 13 = .ok (.iand, 1) := by decide +kernel
theorem dX10_size_14 : decode cX10_size 14 = .ok (.iadd, 1) := by decide +kernel
theorem dX10_size_15 : decode cX10_size 15 = .ok (.iload_n 0, 1) := by decide +kernel
theorem dX10_size_16 : decode cX10_size 16 = .ok (.iconst 3, 1) := by decide +kernel
theorem dX10_size_17 : decode cX10_size 17 = .ok (.ishr, 1) := by decide +kernel
theorem dX10_size_18 : decode cX10_size 18 = .ok (.iconst 1, 1) := by decide +kernel
theorem dX10_size_19 : decode cX10_size 19 = .ok (.iand, 1) := by decide +kernel
theorem dX10_size_20 : decode cX10_size 20 = .ok (.iadd, 1) := by decide +kernel
theorem dX10_size_21 : decode cX10_size 21 = .ok (.ireturn, 1) := by decide +kernel
theorem dX10_layLeft_0 : decode cX10_layLeft 0 = .ok (.iconst 0, 1) := by decide +kernel
theorem dX10_layLeft_1 : decode cX10_layLeft 1 = .ok (.istore_n 2, 1) := by decide +kernel
theorem dX10_layLeft_2 : decode cX10_layLeft 2 = .ok (.iload_n 2, 1) := by decide +kernel
theorem dX10_layLeft_3 : decode cX10_layLeft 3 = .ok (.iconst 5, 1) := by decide +kernel
theorem dX10_layLeft_4 : decode cX10_layLeft 4 = .ok (.if_icmp .ge 24, 3) := by decide +kernel
theorem dX10_layLeft_7 : decode cX10_layLeft 7 = .ok (.aload_n 0, 1) := by decide +kernel
theorem dX10_layLeft_8 : decode cX10_layLeft 8 = .ok (.getfield 32, 3) := by decide +kernel
theorem dX10_layLeft_11 : decode cX10_layLeft 11 = .ok (.iload_n 2, 1) := by decide +kernel
theorem dX10_layLeft_12 : decode cX10_layLeft 12 = .ok (.aload_n 0, 1) := by decide +kernel
theorem dX10_layLeft_13 : decode cX10_layLeft 13 = .ok (.getfield 7, 3) := by decide +kernel
theorem dX10_layLeft_16 : decode cX10_layLeft 16 = .ok (.bipush 13, 2) := by decide +kernel
theorem dX10_layLeft_18 : decode cX10_layLeft 18 = .ok (.iload_n 2, 1) := by decide +kernel
theorem dX10_layLeft_19 : decode cX10_layLeft 19 = .ok (.iadd, 1) := by decide +kernel
theorem dX10_layLeft_20 : decode cX10_layLeft 20 = .ok (.iaload, 1) := by decide +kernel
theorem dX10_layLeft_21 : decode cX10_layLeft 21 = .ok (.iastore, 1) := by decide +kernel
theorem dX10_layLeft_22 : decode cX10_layLeft 22 = .ok (.iinc 2 1, 3) := by decide +kernel
theorem dX10_layLeft_25 : decode cX10_layLeft 25 = .ok (.goto (-23), 3) := by decide +kernel
theorem dX10_layLeft_28 : decode cX10_layLeft 28 = .ok (.iconst 0, 1) := by decide +kernel
theorem dX10_layLeft_29 : decode cX10_layLeft 29 = .ok (.istore_n 2, 1) := by decide +kernel
theorem dX10_layLeft_30 : decode cX10_layLeft 30 = .ok (.iload_n 2, 1) := by decide +kernel
theorem dX10_layLeft_31 : decode cX10_layLeft 31 = .ok (.iload_n 1, 1) := by decide +kernel
theorem dX10_layLeft_32 : decode cX10_layLeft 32 = .ok (.if_icmp .ge 24, 3) := by decide +kernel
theorem dX10_layLeft_35 : decode cX10_layLeft 35 = .ok (.aload_n 0, 1) := by decide +kernel
theorem dX10_layLeft_36 : decode cX10_layLeft 36 = .ok (.getfield 32, 3) := by decide +kernel
theorem dX10_layLeft_39 : decode cX10_layLeft 39 = .ok (.aload_n 0, 1) := by decide +kernel
theorem dX10_layLeft_40 : decode cX10_layLeft 40 = .ok (.getfield 23, 3) := by decide +kernel
theorem dX10_layLeft_43 : decode cX10_layLeft 43 = .ok (.iload_n 2, 1) := by decide +kernel
theorem dX10_layLeft_44 : decode cX10_layLeft 44 = .ok (.iaload, 1) := by decide +kernel
theorem dX10_layLeft_45 : decode cX10_layLeft 45 = .ok (.dup2, 1) := by decide +kernel
theorem dX10_layLeft_46 : decode cX10_layLeft 46 = .ok (.iaload, 1) := by decide +kernel
theorem dX10_layLeft_47 : decode cX10_layLeft 47 = .ok (.iconst 1, 1) := by decide +kernel
theorem dX10_layLeft_48 : decode cX10_layLeft 48 = .ok (.isub, 1) := by decide +kernel
theorem dX10_layLeft_49 : decode cX10_layLeft 49 = .ok (.iastore, 1) := by decide +kernel
theorem dX10_layLeft_50 : decode cX10_layLeft 50 = .ok (.iinc 2 1, 3) := by decide +kernel
theorem dX10_layLeft_53 : decode cX10_layLeft 53 = .ok (.goto (-23), 3) := by decide +kernel
theorem dX10_layLeft_56 : decode cX10_layLeft 56 = .ok (.return_, 1) := by decide +kernel
theorem dX10_isBetter_0 : decode cX10_isBetter 0 = .ok (.aload_n 0, 1) := by decide +kernel
theorem dX10_isBetter_1 : decode cX10_isBetter 1 = .ok (.getfield 7, 3) := by decide +kernel
theorem dX10_isBetter_4 : decode cX10_isBetter 4 = .ok (.bipush 8, 2) := by decide +kernel
theorem dX10_isBetter_6 : decode cX10_isBetter 6 = .ok (.iload_n 1, 1) := by decide +kernel
theorem dX10_isBetter_7 : decode cX10_isBetter 7 = .ok (.iadd, 1) := by decide +kernel
theorem dX10_isBetter_8 : decode cX10_isBetter 8 = .ok (.iaload, 1) := by decide +kernel
theorem dX10_isBetter_9 : decode cX10_isBetter 9 = .ok (.invokestatic 119, 3) := by decide +kernel
theorem dX10_isBetter_12 : decode cX10_isBetter 12 = .ok (.aload_n 0, 1) := by decide +kernel
theorem dX10_isBetter_13 : decode cX10_isBetter 13 = .ok (.getfield 7, 3) := by decide +kernel
theorem dX10_isBetter_16 : decode cX10_isBetter 16 = .ok (.bipush 8, 2) := by decide +kernel
theorem dX10_isBetter_18 : decode cX10_isBetter 18 = .ok (.iload_n 3, 1) := by decide +kernel
theorem dX10_isBetter_19 : decode cX10_isBetter 19 = .ok (.iadd, 1) := by decide +kernel
theorem dX10_isBetter_20 : decode cX10_isBetter 20 = .ok (.iaload, 1) := by decide +kernel
theorem dX10_isBetter_21 : decode cX10_isBetter 21 = .ok (.invokestatic 119, 3) := by decide +kernel
theorem dX10_isBetter_24 : decode cX10_isBetter 24 = .ok (.isub, 1) := by decide +kernel
theorem dX10_isBetter_25 : decode cX10_isBetter 25 = .ok (.istore 5, 2) := by decide +kernel
theorem dX10_isBetter_27 : decode cX10_isBetter 27 = .ok (.iload_n 2, 1) := by decide +kernel
theorem dX10_isBetter_28 : decode cX10_isBetter 28 = .ok (.iload 4, 2) := by decide +kernel
theorem dX10_isBetter_30 : decode cX10_isBetter 30 = .ok (.if_icmp .eq 17, 3) := by decide +kernel
theorem dX10_isBetter_33 : decode cX10_isBetter 33 = .ok (.iload_n 2, 1) := by decide +kernel
theorem dX10_isBetter_34 : decode cX10_isBetter 34 = .ok (.iload 4, 2) := by decide +kernel
theorem dX10_isBetter_36 : decode cX10_isBetter 36 = .ok (.if_icmp .ge 7, 3) := by decide +kernel
theorem dX10_isBetter_39 : decode cX10_isBetter 39 = .ok (.iconst 1, 1) := by decide +kernel
theorem dX10_isBetter_40 : decode cX10_isBetter 40 = .ok (.goto 45, 3) := by decide +kernel
theorem dX10_isBetter_43 : decode cX10_isBetter 43 = .ok (.iconst 0, 1) := by decide +kernel
theorem dX10_isBetter_44 : decode cX10_isBetter 44 = .ok (.goto 41, 3) := by decide +kernel
theorem dX10_isBetter_47 : decode cX10_isBetter 47 = .ok (.iload 5, 2) := by decide +kernel
theorem dX10_isBetter_49 : decode cX10_isBetter 49 = .ok (.ifCond .eq 16, 3) := by decide +kernel
theorem dX10_isBetter_52 : decode cX10_isBetter 52 = .ok (.iload 5, 2) := by decide +kernel
theorem dX10_isBetter_54 : decode cX10_isBetter 54 = .ok (.ifCond .le 7, 3) := by decide +kernel
theorem dX10_isBetter_57 : decode cX10_isBetter 57 = .ok (.iconst 1, 1) := by decide +kernel
theorem dX10_isBetter_58 : decode cX10_isBetter 58 = .ok (.goto 27, 3) := by decide +kernel
theorem dX10_isBetter_61 : decode cX10_isBetter 61 = .ok (.iconst 0, 1) := by decide +kernel
theorem dX10_isBetter_62 : decode cX10_isBetter 62 = .ok (.goto 23, 3) := by decide +kernel
theorem dX10_isBetter_65 : decode cX10_isBetter 65 = .ok (.aload_n 0, 1) := by decide +kernel
theorem dX10_isBetter_66 : decode cX10_isBetter 66 = .ok (.getfield 32, 3) := by decide +kernel
theorem dX10_isBetter_69 : decode cX10_isBetter 69 = .ok (.iload_n 1, 1) := by decide +kernel
theorem dX10_isBetter_70 : decode cX10_isBetter 70 = .ok (.iaload, 1) := by decide +kernel
theorem dX10_isBetter_71 : decode cX10_isBetter 71 = .ok (.aload_n 0, 1) := by decide +kernel
theorem dX10_isBetter_72 : decode cX10_isBetter 72 = .ok (.getfield 32, 3) := by decide +kernel
theorem dX10_isBetter_75 : decode cX10_isBetter 75 = .ok (.iload_n 3, 1) := by decide +kernel
theorem dX10_isBetter_76 : decode cX10_isBetter 76 = .ok (.iaload, 1) := by decide +kernel
theorem dX10_isBetter_77 : decode cX10_isBetter 77 = .ok (.if_icmp .le 7, 3) := by decide +kernel
theorem dX10_isBetter_80 : decode cX10_isBetter 80 = .ok (.iconst 1, 1) := by decide +kernel
theorem dX10_isBetter_81 : decode cX10_isBetter 81 = .ok (.goto 4, 3) := by decide +kernel
theorem dX10_isBetter_84 : decode cX10_isBetter 84 = .ok (.iconst 0, 1) := by decide +kernel
theorem dX10_isBetter_85 : decode cX10_isBetter 85 = .ok (.ireturn, 1) := by decide +kernel
theorem dX10_taken_0 : decode cX10_taken 0 = .ok (.aload_n 0, 1) := by decide +kernel
theorem dX10_taken_1 : decode cX10_taken 1 = .ok (.iload_n 1, 1) := by decide +kernel
theorem dX10_taken_2 : decode cX10_taken 2 = .ok (.invokevirtual 122, 3) := by decide +kernel
theorem dX10_taken_5 : decode cX10_taken 5 = .ok (.aload_n 0, 1) := by decide +kernel
theorem dX10_taken_6 : decode cX10_taken 6 = .ok (.getfield 23, 3) := by decide +kernel
theorem dX10_taken_9 : decode cX10_taken 9 = .ok (.iload_n 1, 1) := by decide +kernel
theorem dX10_taken_10 : decode cX10_taken 10 = .ok (.iaload, 1) := by decide +kernel
theorem dX10_taken_11 : decode cX10_taken 11 = .ok (.istore_n 2, 1) := by decide +kernel
theorem dX10_taken_12 : decode cX10_taken 12 = .ok (.bipush (-6), 2) := by decide +kernel
theorem dX10_taken_14 : decode cX10_taken 14 = .ok (.istore_n 3, 1) := by decide +kernel
theorem dX10_taken_15 : decode cX10_taken 15 = .ok (.iconst 0, 1) := by decide +kernel
theorem dX10_taken_16 : decode cX10_taken 16 = .ok (.istore 4, 2) := by decide +kernel
theorem dX10_taken_18 : decode cX10_taken 18 = .ok (.iconst 0, 1) := by decide +kernel
theorem dX10_taken_19 : decode cX10_taken 19 = .ok (.istore 5, 2) := by decide +kernel
theorem dX10_taken_21 : decode cX10_taken 21 = .ok (.iload 5, 2) := by decide +kernel
theorem dX10_taken_23 : decode cX10_taken 23 = .ok (.iconst 5, 1) := by decide +kernel
theorem dX10_taken_24 : decode cX10_taken 24 = .ok (.if_icmp .ge 59, 3) := by decide +kernel
theorem dX10_taken_27 : decode cX10_taken 27 = .ok (.aload_n 0, 1) := by decide +kernel
theorem dX10_taken_28 : decode cX10_taken 28 = .ok (.getfield 32, 3) := by decide +kernel
theorem dX10_taken_31 : decode cX10_taken 31 = .ok (.iload 5, 2) := by decide +kernel
theorem dX10_taken_33 : decode cX10_taken 33 = .ok (.iaload, 1) := by decide +kernel
theorem dX10_taken_34 : decode cX10_taken 34 = .ok (.ifCond .le 43, 3) := by decide +kernel
theorem dX10_taken_37 : decode cX10_taken 37 = .ok (.aload_n 0, 1) := by decide +kernel
theorem dX10_taken_38 : decode cX10_taken 38 = .ok (.getfield 23, 3) := by decide +kernel
theorem dX10_taken_41 : decode cX10_taken 41 = .ok (.iload_n 1, 1) := by decide +kernel
theorem dX10_taken_42 : decode cX10_taken 42 = .ok (.iload 5, 2) := by decide +kernel
theorem dX10_taken_44 : decode cX10_taken 44 = .ok (.iastore, 1) := by decide +kernel
theorem dX10_taken_45 : decode cX10_taken 45 = .ok (.aload_n 0, 1) := by decide +kernel
theorem dX10_taken_46 : decode cX10_taken 46 = .ok (.iload_n 1, 1) := by decide +kernel
theorem dX10_taken_47 : decode cX10_taken 47 = .ok (.invokevirtual 75, 3) := by decide +kernel
theorem dX10_taken_50 : decode cX10_taken 50 = .ok (.istore 6, 2) := by decide +kernel
theorem dX10_taken_52 : decode cX10_taken 52 = .ok (.iload_n 3, 1) := by decide +kernel
theorem dX10_taken_53 : decode cX10_taken 53 = .ok (.ifCond .lt 17, 3) := by decide +kernel
theorem dX10_taken_56 : decode cX10_taken 56 = .ok (.aload_n 0, 1) := by decide +kernel
theorem dX10_taken_57 : decode cX10_taken 57 = .ok (.iload 5, 2) := by decide +kernel
theorem dX10_taken_59 : decode cX10_taken 59 = .ok (.iload 6, 2) := by decide +kernel
theorem dX10_taken_61 : decode cX10_taken 61 = .ok (.iload_n 3, 1) := by decide +kernel
theorem dX10_taken_62 : decode cX10_taken 62 = .ok (.iload 4, 2) := by decide +kernel
theorem dX10_taken_64 : decode cX10_taken 64 = .ok (.invokevirtual 126, 3) := by decide +kernel
theorem dX10_taken_67 : decode cX10_taken 67 = .ok (.ifCond .eq 10, 3) := by decide +kernel
theorem dX10_taken_70 : decode cX10_taken 70 = .ok (.iload 5, 2) := by decide +kernel
theorem dX10_taken_72 : decode cX10_taken 72 = .ok (.istore_n 3, 1) := by decide +kernel
theorem dX10_taken_73 : decode cX10_taken 73 = .ok (.iload 6, 2) := by decide +kernel
theorem dX10_taken_75 : decode cX10_taken 75 = .ok (.istore 4, 2) := by decide +kernel
theorem dX10_taken_77 : decode cX10_taken 77 = .ok (.iinc 5 1, 3) := by decide +kernel
theorem dX10_taken_80 : decode cX10_taken 80 = .ok (.goto (-59), 3) := by decide +kernel
theorem dX10_taken_83 : decode cX10_taken 83 = .ok (.aload_n 0, 1) := by decide +kernel
theorem dX10_taken_84 : decode cX10_taken 84 = .ok (.getfield 23, 3) := by decide +kernel
theorem dX10_taken_87 : decode cX10_taken 87 = .ok (.iload_n 1, 1) := by decide +kernel
theorem dX10_taken_88 : decode cX10_taken 88 = .ok (.iload_n 2, 1) := by decide +kernel
theorem dX10_taken_89 : decode cX10_taken 89 = .ok (.iastore, 1) := by decide +kernel
theorem dX10_taken_90 : decode cX10_taken 90 = .ok (.iload_n 3, 1) := by decide +kernel
theorem dX10_taken_91 : decode cX10_taken 91 = .ok (.ireturn, 1) := by decide +kernel
theorem dX10_goRule_0 : decode cX10_goRule 0 = .ok (.aload_n 0, 1) := by decide +kernel
theorem dX10_goRule_1 : decode cX10_goRule 1 = .ok (.invokevirtual 85, 3) := by decide +kernel
theorem dX10_goRule_4 : decode cX10_goRule 4 = .ok (.iconst 0, 1) := by decide +kernel
theorem dX10_goRule_5 : decode cX10_goRule 5 = .ok (.istore_n 1, 1) := by decide +kernel
theorem dX10_goRule_6 : decode cX10_goRule 6 = .ok (.iload_n 1, 1) := by decide +kernel
theorem dX10_goRule_7 : decode cX10_goRule 7 = .ok (.aload_n 0, 1) := by decide +kernel
theorem dX10_goRule_8 : decode cX10_goRule 8 = .ok (.getfield 71, 3) := by decide +kernel
theorem dX10_goRule_11 : decode cX10_goRule 11 = .ok (.if_icmp .ge 20, 3) := by decide +kernel
theorem dX10_goRule_14 : decode cX10_goRule 14 = .ok (.aload_n 0, 1) := by decide +kernel
theorem dX10_goRule_15 : decode cX10_goRule 15 = .ok (.getfield 23, 3) := by decide +kernel
theorem dX10_goRule_18 : decode cX10_goRule 18 = .ok (.iload_n 1, 1) := by decide +kernel
theorem dX10_goRule_19 : decode cX10_goRule 19 = .ok (.aload_n 0, 1) := by decide +kernel
theorem dX10_goRule_20 : decode cX10_goRule 20 = .ok (.iload_n 1, 1) := by decide +kernel
theorem dX10_goRule_21 : decode cX10_goRule 21 = .ok (.invokevirtual 130, 3) := by decide +kernel
theorem dX10_goRule_24 : decode cX10_goRule 24 = .ok (.iastore, 1) := by decide +kernel
theorem dX10_goRule_25 : decode cX10_goRule 25 = .ok (.iinc 1 1, 3) := by decide +kernel
theorem dX10_goRule_28 : decode cX10_goRule 28 = .ok (.goto (-22), 3) := by decide +kernel
theorem dX10_goRule_31 : decode cX10_goRule 31 = .ok (.return_, 1) := by decide +kernel
theorem dX10_rule_0 : decode cX10_rule 0 = .ok (.iload_n 1, 1) := by decide +kernel
theorem dX10_rule_1 : decode cX10_rule 1 = .ok (.iconst (-1), 1) := by decide +kernel
theorem dX10_rule_2 : decode cX10_rule 2 = .ok (.if_icmp .ge 6, 3) := by decide +kernel
theorem dX10_rule_5 : decode cX10_rule 5 = .ok (.bipush (-2), 2) := by decide +kernel
theorem dX10_rule_7 : decode cX10_rule 7 = .ok (.ireturn, 1) := by decide +kernel
theorem dX10_rule_8 : decode cX10_rule 8 = .ok (.aload_n 0, 1) := by decide +kernel
theorem dX10_rule_9 : decode cX10_rule 9 = .ok (.invokevirtual 133, 3) := by decide +kernel
theorem dX10_rule_12 : decode cX10_rule 12 = .ok (.iload_n 1, 1) := by decide +kernel
theorem dX10_rule_13 : decode cX10_rule 13 = .ok (.iconst (-1), 1) := by decide +kernel
theorem dX10_rule_14 : decode cX10_rule 14 = .ok (.if_icmp .ne 10, 3) := by decide +kernel
theorem dX10_rule_17 : decode cX10_rule 17 = .ok (.aload_n 0, 1) := by decide +kernel
theorem dX10_rule_18 : decode cX10_rule 18 = .ok (.invokevirtual 88, 3) := by decide +kernel
theorem dX10_rule_21 : decode cX10_rule 21 = .ok (.goto 22, 3) := by decide +kernel
theorem dX10_rule_24 : decode cX10_rule 24 = .ok (.iload_n 1, 1) := by decide +kernel
theorem dX10_rule_25 : decode cX10_rule 25 = .ok (.aload_n 0, 1) := by decide +kernel
theorem dX10_rule_26 : decode cX10_rule 26 = .ok (.getfield 71, 3) := by decide +kernel
theorem dX10_rule_29 : decode cX10_rule 29 = .ok (.if_icmp .ge 12, 3) := by decide +kernel
theorem dX10_rule_32 : decode cX10_rule 32 = .ok (.aload_n 0, 1) := by decide +kernel
theorem dX10_rule_33 : decode cX10_rule 33 = .ok (.getfield 23, 3) := by decide +kernel
theorem dX10_rule_36 : decode cX10_rule 36 = .ok (.iload_n 1, 1) := by decide +kernel
theorem dX10_rule_37 : decode cX10_rule 37 = .ok (.iaload, 1) := by decide +kernel
theorem dX10_rule_38 : decode cX10_rule 38 = .ok (.goto 5, 3) := by decide +kernel
theorem dX10_rule_41 : decode cX10_rule 41 = .ok (.bipush (-6), 2) := by decide +kernel
theorem dX10_rule_43 : decode cX10_rule 43 = .ok (.ireturn, 1) := by decide +kernel
theorem dX10_off_0 : decode cX10_off 0 = .ok (.iconst 0, 1) := by decide +kernel
theorem dX10_off_1 : decode cX10_off 1 = .ok (.istore_n 1, 1) := by decide +kernel
theorem dX10_off_2 : decode cX10_off 2 = .ok (.iconst 0, 1) := by decide +kernel
theorem dX10_off_3 : decode cX10_off 3 = .ok (.istore_n 2, 1) := by decide +kernel
theorem dX10_off_4 : decode cX10_off 4 = .ok (.iload_n 2, 1) := by decide +kernel
theorem dX10_off_5 : decode cX10_off 5 = .ok (.aload_n 0, 1) := by decide +kernel
theorem dX10_off_6 : decode cX10_off 6 = .ok (.getfield 71, 3) := by decide +kernel
theorem dX10_off_9 : decode cX10_off 9 = .ok (.if_icmp .ge 31, 3) := by decide +kernel
theorem dX10_off_12 : decode cX10_off 12 = .ok (.iload_n 1, 1) := by decide +kernel
theorem dX10_off_13 : decode cX10_off 13 = .ok (.aload_n 0, 1) := by decide +kernel
theorem dX10_off_14 : decode cX10_off 14 = .ok (.iload_n 2, 1) := by decide +kernel
theorem dX10_off_15 : decode cX10_off 15 = .ok (.invokevirtual 130, 3) := by decide +kernel
theorem dX10_off_18 : decode cX10_off 18 = .ok (.aload_n 0, 1) := by decide +kernel
theorem dX10_off_19 : decode cX10_off 19 = .ok (.getfield 23, 3) := by decide +kernel
theorem dX10_off_22 : decode cX10_off 22 = .ok (.iload_n 2, 1) := by decide +kernel
theorem dX10_off_23 : decode cX10_off 23 = .ok (.iaload, 1) := by decide +kernel
theorem dX10_off_24 : decode cX10_off 24 = .ok (.if_icmp .ne 7, 3) := by decide +kernel
theorem dX10_off_27 : decode cX10_off 27 = .ok (.iconst 0, 1) := by decide +kernel
theorem dX10_off_28 : decode cX10_off 28 = .ok (.goto 4, 3) := by decide +kernel
theorem dX10_off_31 : decode cX10_off 31 = .ok (.iconst 1, 1) := by decide +kernel
theorem dX10_off_32 : decode cX10_off 32 = .ok (.iadd, 1) := by decide +kernel
theorem dX10_off_33 : decode cX10_off 33 = .ok (.istore_n 1, 1) := by decide +kernel
theorem dX10_off_34 : decode cX10_off 34 = .ok (.iinc 2 1, 3) := by decide +kernel
theorem dX10_off_37 : decode cX10_off 37 = .ok (.goto (-33), 3) := by decide +kernel
theorem dX10_off_40 : decode cX10_off 40 = .ok (.iload_n 1, 1) := by decide +kernel
theorem dX10_off_41 : decode cX10_off 41 = .ok (.ireturn, 1) := by decide +kernel
theorem dX10_near_0 : decode cX10_near 0 = .ok (.iload_n 1, 1) := by decide +kernel
theorem dX10_near_1 : decode cX10_near 1 = .ok (.iconst (-1), 1) := by decide +kernel
theorem dX10_near_2 : decode cX10_near 2 = .ok (.if_icmp .ge 6, 3) := by decide +kernel
theorem dX10_near_5 : decode cX10_near 5 = .ok (.bipush (-2), 2) := by decide +kernel
theorem dX10_near_7 : decode cX10_near 7 = .ok (.ireturn, 1) := by decide +kernel
theorem dX10_near_8 : decode cX10_near 8 = .ok (.aload_n 0, 1) := by decide +kernel
theorem dX10_near_9 : decode cX10_near 9 = .ok (.iconst 0, 1) := by decide +kernel
theorem dX10_near_10 : decode cX10_near 10 = .ok (.putfield 82, 3) := by decide +kernel
theorem dX10_near_13 : decode cX10_near 13 = .ok (.bipush (-6), 2) := by decide +kernel
theorem dX10_near_15 : decode cX10_near 15 = .ok (.istore_n 2, 1) := by decide +kernel
theorem dX10_near_16 : decode cX10_near 16 = .ok (.aload_n 0, 1) := by decide +kernel
theorem dX10_near_17 : decode cX10_near 17 = .ok (.invokevirtual 85, 3) := by decide +kernel
theorem dX10_near_20 : decode cX10_near 20 = .ok (.iconst 1, 1) := by decide +kernel
theorem dX10_near_21 : decode cX10_near 21 = .ok (.istore_n 3, 1) := by decide +kernel
theorem dX10_near_22 : decode cX10_near 22 = .ok (.iload_n 3, 1) := by decide +kernel
theorem dX10_near_23 : decode cX10_near 23 = .ok (.ifCond .eq 49, 3) := by decide +kernel
theorem dX10_near_26 : decode cX10_near 26 = .ok (.aload_n 0, 1) := by decide +kernel
theorem dX10_near_27 : decode cX10_near 27 = .ok (.invokevirtual 88, 3) := by decide +kernel
theorem dX10_near_30 : decode cX10_near 30 = .ok (.ifCond .ne 34, 3) := by decide +kernel
theorem dX10_near_33 : decode cX10_near 33 = .ok (.aload_n 0, 1) := by decide +kernel
theorem dX10_near_34 : decode cX10_near 34 = .ok (.invokevirtual 136, 3) := by decide +kernel
theorem dX10_near_37 : decode cX10_near 37 = .ok (.istore 4, 2) := by decide +kernel
theorem dX10_near_39 : decode cX10_near 39 = .ok (.aload_n 0, 1) := by decide +kernel
theorem dX10_near_40 : decode cX10_near 40 = .ok (.getfield 82, 3) := by decide +kernel
theorem dX10_near_43 : decode cX10_near 43 = .ok (.ifCond .eq 9, 3) := by decide +kernel
theorem dX10_near_46 : decode cX10_near 46 = .ok (.iload 4, 2) := by decide +kernel
theorem dX10_near_48 : decode cX10_near 48 = .ok (.iload_n 2, 1) := by decide +kernel
theorem dX10_near_49 : decode cX10_near 49 = .ok (.if_icmp .ge 15, 3) := by decide +kernel
theorem dX10_near_52 : decode cX10_near 52 = .ok (.iload 4, 2) := by decide +kernel
theorem dX10_near_54 : decode cX10_near 54 = .ok (.istore_n 2, 1) := by decide +kernel
theorem dX10_near_55 : decode cX10_near 55 = .ok (.aload_n 0, 1) := by decide +kernel
theorem dX10_near_56 : decode cX10_near 56 = .ok (.iconst 1, 1) := by decide +kernel
theorem dX10_near_57 : decode cX10_near 57 = .ok (.putfield 82, 3) := by decide +kernel
theorem dX10_near_60 : decode cX10_near 60 = .ok (.aload_n 0, 1) := by decide +kernel
theorem dX10_near_61 : decode cX10_near 61 = .ok (.invokevirtual 91, 3) := by decide +kernel
theorem dX10_near_64 : decode cX10_near 64 = .ok (.aload_n 0, 1) := by decide +kernel
theorem dX10_near_65 : decode cX10_near 65 = .ok (.invokevirtual 94, 3) := by decide +kernel
theorem dX10_near_68 : decode cX10_near 68 = .ok (.istore_n 3, 1) := by decide +kernel
theorem dX10_near_69 : decode cX10_near 69 = .ok (.goto (-47), 3) := by decide +kernel
theorem dX10_near_72 : decode cX10_near 72 = .ok (.iload_n 1, 1) := by decide +kernel
theorem dX10_near_73 : decode cX10_near 73 = .ok (.iconst (-1), 1) := by decide +kernel
theorem dX10_near_74 : decode cX10_near 74 = .ok (.if_icmp .ne 7, 3) := by decide +kernel
theorem dX10_near_77 : decode cX10_near 77 = .ok (.iload_n 2, 1) := by decide +kernel
theorem dX10_near_78 : decode cX10_near 78 = .ok (.goto 8, 3) := by decide +kernel
theorem dX10_near_81 : decode cX10_near 81 = .ok (.aload_n 0, 1) := by decide +kernel
theorem dX10_near_82 : decode cX10_near 82 = .ok (.iload_n 1, 1) := by decide +kernel
end
section
theorem dX10_near_83 : decode cX10_near 83 = .ok (.invokevirtual 101, 3) := by decide +kernel
theorem dX10_near_86 : decode cX10_near 86 = .ok (.ireturn, 1) := by decide +kernel
theorem dX10_say_0 : decode cX10_say 0 = .ok (.iload_n 1, 1) := by decide +kernel
theorem dX10_say_1 : decode cX10_say 1 = .ok (.bipush 48, 2) := by decide +kernel
theorem dX10_say_3 : decode cX10_say 3 = .ok (.bipush 52, 2) := by decide +kernel
theorem dX10_say_5 : decode cX10_say 5 = .ok (.invokestatic 38, 3) := by decide +kernel
theorem dX10_say_8 : decode cX10_say 8 = .ok (.ifCond .ne 12, 3) := by decide +kernel
theorem dX10_say_11 : decode cX10_say 11 = .ok (.iload_n 1, 1) := by decide +kernel
theorem dX10_say_12 : decode cX10_say 12 = .ok (.bipush 63, 2) := by decide +kernel
theorem dX10_say_14 : decode cX10_say 14 = .ok (.if_icmp .eq 6, 3) := by decide +kernel
theorem dX10_say_17 : decode cX10_say 17 = .ok (.bipush (-2), 2) := by decide +kernel
theorem dX10_say_19 : decode cX10_say 19 = .ok (.ireturn, 1) := by decide +kernel
theorem dX10_say_20 : decode cX10_say 20 = .ok (.aload_n 0, 1) := by decide +kernel
theorem dX10_say_21 : decode cX10_say 21 = .ok (.getfield 139, 3) := by decide +kernel
theorem dX10_say_24 : decode cX10_say 24 = .ok (.bipush 9, 2) := by decide +kernel
theorem dX10_say_26 : decode cX10_say 26 = .ok (.if_icmp .ne 6, 3) := by decide +kernel
theorem dX10_say_29 : decode cX10_say 29 = .ok (.bipush (-4), 2) := by decide +kernel
theorem dX10_say_31 : decode cX10_say 31 = .ok (.ireturn, 1) := by decide +kernel
theorem dX10_say_32 : decode cX10_say 32 = .ok (.aload_n 0, 1) := by decide +kernel
theorem dX10_say_33 : decode cX10_say 33 = .ok (.getfield 20, 3) := by decide +kernel
theorem dX10_say_36 : decode cX10_say 36 = .ok (.aload_n 0, 1) := by decide +kernel
theorem dX10_say_37 : decode cX10_say 37 = .ok (.getfield 139, 3) := by decide +kernel
theorem dX10_say_40 : decode cX10_say 40 = .ok (.iload_n 1, 1) := by decide +kernel
theorem dX10_say_41 : decode cX10_say 41 = .ok (.iastore, 1) := by decide +kernel
theorem dX10_say_42 : decode cX10_say 42 = .ok (.aload_n 0, 1) := by decide +kernel
theorem dX10_say_43 : decode cX10_say 43 = .ok (.dup, 1) := by decide +kernel
theorem dX10_say_44 : decode cX10_say 44 = .ok (.getfield 139, 3) := by decide +kernel
theorem dX10_say_47 : decode cX10_say 47 = .ok (.iconst 1, 1) := by decide +kernel
theorem dX10_say_48 : decode cX10_say 48 = .ok (.iadd, 1) := by decide +kernel
theorem dX10_say_49 : decode cX10_say 49 = .ok (.putfield 139, 3) := by decide +kernel
theorem dX10_say_52 : decode cX10_say 52 = .ok (.aload_n 0, 1) := by decide +kernel
theorem dX10_say_53 : decode cX10_say 53 = .ok (.getfield 139, 3) := by decide +kernel
theorem dX10_say_56 : decode cX10_say 56 = .ok (.ireturn, 1) := by decide +kernel
theorem dX10_wipe_0 : decode cX10_wipe 0 = .ok (.aload_n 0, 1) := by decide +kernel
theorem dX10_wipe_1 : decode cX10_wipe 1 = .ok (.getfield 139, 3) := by decide +kernel
theorem dX10_wipe_4 : decode cX10_wipe 4 = .ok (.istore_n 1, 1) := by decide +kernel
theorem dX10_wipe_5 : decode cX10_wipe 5 = .ok (.aload_n 0, 1) := by decide +kernel
theorem dX10_wipe_6 : decode cX10_wipe 6 = .ok (.iconst 0, 1) := by decide +kernel
theorem dX10_wipe_7 : decode cX10_wipe 7 = .ok (.putfield 139, 3) := by decide +kernel
theorem dX10_wipe_10 : decode cX10_wipe 10 = .ok (.iload_n 1, 1) := by decide +kernel
theorem dX10_wipe_11 : decode cX10_wipe 11 = .ok (.ireturn, 1) := by decide +kernel
theorem dX10_isOpen_0 : decode cX10_isOpen 0 = .ok (.iconst 0, 1) := by decide +kernel
theorem dX10_isOpen_1 : decode cX10_isOpen 1 = .ok (.istore_n 1, 1) := by decide +kernel
theorem dX10_isOpen_2 : decode cX10_isOpen 2 = .ok (.iconst 0, 1) := by decide +kernel
theorem dX10_isOpen_3 : decode cX10_isOpen 3 = .ok (.istore_n 2, 1) := by decide +kernel
theorem dX10_isOpen_4 : decode cX10_isOpen 4 = .ok (.iload_n 2, 1) := by decide +kernel
theorem dX10_isOpen_5 : decode cX10_isOpen 5 = .ok (.aload_n 0, 1) := by decide +kernel
theorem dX10_isOpen_6 : decode cX10_isOpen 6 = .ok (.getfield 139, 3) := by decide +kernel
theorem dX10_isOpen_9 : decode cX10_isOpen 9 = .ok (.if_icmp .ge 30, 3) := by decide +kernel
theorem dX10_isOpen_12 : decode cX10_isOpen 12 = .ok (.iload_n 1, 1) := by decide +kernel
theorem dX10_isOpen_13 : decode cX10_isOpen 13 = .ok (.ifCond .ne 14, 3) := by decide +kernel
theorem dX10_isOpen_16 : decode cX10_isOpen 16 = .ok (.aload_n 0, 1) := by decide +kernel
theorem dX10_isOpen_17 : decode cX10_isOpen 17 = .ok (.getfield 20, 3) := by decide +kernel
theorem dX10_isOpen_20 : decode cX10_isOpen 20 = .ok (.iload_n 2, 1) := by decide +kernel
theorem dX10_isOpen_21 : decode cX10_isOpen 21 = .ok (.iaload, 1) := by decide +kernel
theorem dX10_isOpen_22 : decode cX10_isOpen 22 = .ok (.bipush 63, 2) := by decide +kernel
theorem dX10_isOpen_24 : decode cX10_isOpen 24 = .ok (.if_icmp .ne 7, 3) := by decide +kernel
theorem dX10_isOpen_27 : decode cX10_isOpen 27 = .ok (.iconst 1, 1) := by decide +kernel
theorem dX10_isOpen_28 : decode cX10_isOpen 28 = .ok (.goto 4, 3) := by decide +kernel
theorem dX10_isOpen_31 : decode cX10_isOpen 31 = .ok (.iconst 0, 1) := by decide +kernel
theorem dX10_isOpen_32 : decode cX10_isOpen 32 = .ok (.istore_n 1, 1) := by decide +kernel
theorem dX10_isOpen_33 : decode cX10_isOpen 33 = .ok (.iinc 2 1, 3) := by decide +kernel
theorem dX10_isOpen_36 : decode cX10_isOpen 36 = .ok (.goto (-32), 3) := by decide +kernel
theorem dX10_isOpen_39 : decode cX10_isOpen 39 = .ok (.iload_n 1, 1) := by decide +kernel
theorem dX10_isOpen_40 : decode cX10_isOpen 40 = .ok (.ireturn, 1) := by decide +kernel
theorem dX10_layPad_0 : decode cX10_layPad 0 = .ok (.aload_n 0, 1) := by decide +kernel
theorem dX10_layPad_1 : decode cX10_layPad 1 = .ok (.aload_n 0, 1) := by decide +kernel
theorem dX10_layPad_2 : decode cX10_layPad 2 = .ok (.getfield 139, 3) := by decide +kernel
theorem dX10_layPad_5 : decode cX10_layPad 5 = .ok (.putfield 71, 3) := by decide +kernel
theorem dX10_layPad_8 : decode cX10_layPad 8 = .ok (.iconst 0, 1) := by decide +kernel
theorem dX10_layPad_9 : decode cX10_layPad 9 = .ok (.istore_n 1, 1) := by decide +kernel
theorem dX10_layPad_10 : decode cX10_layPad 10 = .ok (.iload_n 1, 1) := by decide +kernel
theorem dX10_layPad_11 : decode cX10_layPad 11 = .ok (.aload_n 0, 1) := by decide +kernel
theorem dX10_layPad_12 : decode cX10_layPad 12 = .ok (.getfield 139, 3) := by decide +kernel
theorem dX10_layPad_15 : decode cX10_layPad 15 = .ok (.if_icmp .ge 24, 3) := by decide +kernel
theorem dX10_layPad_18 : decode cX10_layPad 18 = .ok (.aload_n 0, 1) := by decide +kernel
theorem dX10_layPad_19 : decode cX10_layPad 19 = .ok (.getfield 23, 3) := by decide +kernel
theorem dX10_layPad_22 : decode cX10_layPad 22 = .ok (.iload_n 1, 1) := by decide +kernel
theorem dX10_layPad_23 : decode cX10_layPad 23 = .ok (.aload_n 0, 1) := by decide +kernel
theorem dX10_layPad_24 : decode cX10_layPad 24 = .ok (.getfield 20, 3) := by decide +kernel
theorem dX10_layPad_27 : decode cX10_layPad 27 = .ok (.iload_n 1, 1) := by decide +kernel
theorem dX10_layPad_28 : decode cX10_layPad 28 = .ok (.iaload, 1) := by decide +kernel
theorem dX10_layPad_29 : decode cX10_layPad 29 = .ok (.bipush 48, 2) := by decide +kernel
theorem dX10_layPad_31 : decode cX10_layPad 31 = .ok (.isub, 1) := by decide +kernel
theorem dX10_layPad_32 : decode cX10_layPad 32 = .ok (.iastore, 1) := by decide +kernel
theorem dX10_layPad_33 : decode cX10_layPad 33 = .ok (.iinc 1 1, 3) := by decide +kernel
theorem dX10_layPad_36 : decode cX10_layPad 36 = .ok (.goto (-26), 3) := by decide +kernel
theorem dX10_layPad_39 : decode cX10_layPad 39 = .ok (.return_, 1) := by decide +kernel
theorem dX10_onPad_0 : decode cX10_onPad 0 = .ok (.iconst 0, 1) := by decide +kernel
theorem dX10_onPad_1 : decode cX10_onPad 1 = .ok (.istore_n 2, 1) := by decide +kernel
theorem dX10_onPad_2 : decode cX10_onPad 2 = .ok (.iconst 0, 1) := by decide +kernel
theorem dX10_onPad_3 : decode cX10_onPad 3 = .ok (.istore_n 3, 1) := by decide +kernel
theorem dX10_onPad_4 : decode cX10_onPad 4 = .ok (.iload_n 3, 1) := by decide +kernel
theorem dX10_onPad_5 : decode cX10_onPad 5 = .ok (.aload_n 0, 1) := by decide +kernel
theorem dX10_onPad_6 : decode cX10_onPad 6 = .ok (.getfield 139, 3) := by decide +kernel
theorem dX10_onPad_9 : decode cX10_onPad 9 = .ok (.if_icmp .ge 30, 3) := by decide +kernel
theorem dX10_onPad_12 : decode cX10_onPad 12 = .ok (.iload_n 2, 1) := by decide +kernel
theorem dX10_onPad_13 : decode cX10_onPad 13 = .ok (.aload_n 0, 1) := by decide +kernel
theorem dX10_onPad_14 : decode cX10_onPad 14 = .ok (.getfield 20, 3) := by decide +kernel
theorem dX10_onPad_17 : decode cX10_onPad 17 = .ok (.iload_n 3, 1) := by decide +kernel
theorem dX10_onPad_18 : decode cX10_onPad 18 = .ok (.iaload, 1) := by decide +kernel
theorem dX10_onPad_19 : decode cX10_onPad 19 = .ok (.bipush 48, 2) := by decide +kernel
theorem dX10_onPad_21 : decode cX10_onPad 21 = .ok (.iload_n 1, 1) := by decide +kernel
theorem dX10_onPad_22 : decode cX10_onPad 22 = .ok (.iadd, 1) := by decide +kernel
theorem dX10_onPad_23 : decode cX10_onPad 23 = .ok (.if_icmp .ne 7, 3) := by decide +kernel
theorem dX10_onPad_26 : decode cX10_onPad 26 = .ok (.iconst 1, 1) := by decide +kernel
theorem dX10_onPad_27 : decode cX10_onPad 27 = .ok (.goto 4, 3) := by decide +kernel
theorem dX10_onPad_30 : decode cX10_onPad 30 = .ok (.iconst 0, 1) := by decide +kernel
theorem dX10_onPad_31 : decode cX10_onPad 31 = .ok (.iadd, 1) := by decide +kernel
theorem dX10_onPad_32 : decode cX10_onPad 32 = .ok (.istore_n 2, 1) := by decide +kernel
theorem dX10_onPad_33 : decode cX10_onPad 33 = .ok (.iinc 3 1, 3) := by decide +kernel
theorem dX10_onPad_36 : decode cX10_onPad 36 = .ok (.goto (-32), 3) := by decide +kernel
theorem dX10_onPad_39 : decode cX10_onPad 39 = .ok (.iload_n 2, 1) := by decide +kernel
theorem dX10_onPad_40 : decode cX10_onPad 40 = .ok (.ireturn, 1) := by decide +kernel
theorem dX10_isOrder_0 : decode cX10_isOrder 0 = .ok (.aload_n 0, 1) := by decide +kernel
theorem dX10_isOrder_1 : decode cX10_isOrder 1 = .ok (.invokevirtual 142, 3) := by decide +kernel
theorem dX10_isOrder_4 : decode cX10_isOrder 4 = .ok (.ifCond .ne 7, 3) := by decide +kernel
theorem dX10_isOrder_7 : decode cX10_isOrder 7 = .ok (.iconst 1, 1) := by decide +kernel
theorem dX10_isOrder_8 : decode cX10_isOrder 8 = .ok (.goto 4, 3) := by decide +kernel
theorem dX10_isOrder_11 : decode cX10_isOrder 11 = .ok (.iconst 0, 1) := by decide +kernel
theorem dX10_isOrder_12 : decode cX10_isOrder 12 = .ok (.istore_n 1, 1) := by decide +kernel
theorem dX10_isOrder_13 : decode cX10_isOrder 13 = .ok (.iconst 0, 1) := by decide +kernel
theorem dX10_isOrder_14 : decode cX10_isOrder 14 = .ok (.istore_n 2, 1) := by decide +kernel
theorem dX10_isOrder_15 : decode cX10_isOrder 15 = .ok (.iload_n 2, 1) := by decide +kernel
theorem dX10_isOrder_16 : decode cX10_isOrder 16 = .ok (.iconst 5, 1) := by decide +kernel
theorem dX10_isOrder_17 : decode cX10_isOrder 17 = .ok (.if_icmp .ge 36, 3) := by decide +kernel
theorem dX10_isOrder_20 : decode cX10_isOrder 20 = .ok (.iload_n 1, 1) := by decide +kernel
theorem dX10_isOrder_21 : decode cX10_isOrder 21 = .ok (.ifCond .eq 24, 3) := by decide +kernel
theorem dX10_isOrder_24 : decode cX10_isOrder 24 = .ok (.aload_n 0, 1) := by decide +kernel
theorem dX10_isOrder_25 : decode cX10_isOrder 25 = .ok (.iload_n 2, 1) := by decide +kernel
theorem dX10_isOrder_26 : decode cX10_isOrder 26 = .ok (.invokevirtual 145, 3) := by decide +kernel
theorem dX10_isOrder_29 : decode cX10_isOrder 29 = .ok (.aload_n 0, 1) := by decide +kernel
theorem dX10_isOrder_30 : decode cX10_isOrder 30 = .ok (.getfield 7, 3) := by decide +kernel
theorem dX10_isOrder_33 : decode cX10_isOrder 33 = .ok (.bipush 13, 2) := by decide +kernel
theorem dX10_isOrder_35 : decode cX10_isOrder 35 = .ok (.iload_n 2, 1) := by decide +kernel
theorem dX10_isOrder_36 : decode cX10_isOrder 36 = .ok (.iadd, 1) := by decide +kernel
theorem dX10_isOrder_37 : decode cX10_isOrder 37 = .ok (.iaload, 1) := by decide +kernel
theorem dX10_isOrder_38 : decode cX10_isOrder 38 = .ok (.if_icmp .ne 7, 3) := by decide +kernel
theorem dX10_isOrder_41 : decode cX10_isOrder 41 = .ok (.iconst 1, 1) := by decide +kernel
theorem dX10_isOrder_42 : decode cX10_isOrder 42 = .ok (.goto 4, 3) := by decide +kernel
theorem dX10_isOrder_45 : decode cX10_isOrder 45 = .ok (.iconst 0, 1) := by decide +kernel
theorem dX10_isOrder_46 : decode cX10_isOrder 46 = .ok (.istore_n 1, 1) := by decide +kernel
theorem dX10_isOrder_47 : decode cX10_isOrder 47 = .ok (.iinc 2 1, 3) := by decide +kernel
theorem dX10_isOrder_50 : decode cX10_isOrder 50 = .ok (.goto (-35), 3) := by decide +kernel
theorem dX10_isOrder_53 : decode cX10_isOrder 53 = .ok (.iload_n 1, 1) := by decide +kernel
theorem dX10_isOrder_54 : decode cX10_isOrder 54 = .ok (.ireturn, 1) := by decide +kernel
theorem dX10_firstBreak_0 : decode cX10_firstBreak 0 = .ok (.iconst 0, 1) := by decide +kernel
theorem dX10_firstBreak_1 : decode cX10_firstBreak 1 = .ok (.istore_n 1, 1) := by decide +kernel
theorem dX10_firstBreak_2 : decode cX10_firstBreak 2 = .ok (.iload_n 1, 1) := by decide +kernel
theorem dX10_firstBreak_3 : decode cX10_firstBreak 3 = .ok (.aload_n 0, 1) := by decide +kernel
theorem dX10_firstBreak_4 : decode cX10_firstBreak 4 = .ok (.getfield 71, 3) := by decide +kernel
theorem dX10_firstBreak_7 : decode cX10_firstBreak 7 = .ok (.if_icmp .ge 17, 3) := by decide +kernel
theorem dX10_firstBreak_10 : decode cX10_firstBreak 10 = .ok (.aload_n 0, 1) := by decide +kernel
theorem dX10_firstBreak_11 : decode cX10_firstBreak 11 = .ok (.iload_n 1, 1) := by decide +kernel
theorem dX10_firstBreak_12 : decode cX10_firstBreak 12 = .ok (.invokevirtual 75, 3) := by decide +kernel
theorem dX10_firstBreak_15 : decode cX10_firstBreak 15 = .ok (.ifCond .ne 9, 3) := by decide +kernel
theorem dX10_firstBreak_18 : decode cX10_firstBreak 18 = .ok (.iinc 1 1, 3) := by decide +kernel
theorem dX10_firstBreak_21 : decode cX10_firstBreak 21 = .ok (.goto (-19), 3) := by decide +kernel
theorem dX10_firstBreak_24 : decode cX10_firstBreak 24 = .ok (.iload_n 1, 1) := by decide +kernel
theorem dX10_firstBreak_25 : decode cX10_firstBreak 25 = .ok (.aload_n 0, 1) := by decide +kernel
theorem dX10_firstBreak_26 : decode cX10_firstBreak 26 = .ok (.getfield 71, 3) := by decide +kernel
theorem dX10_firstBreak_29 : decode cX10_firstBreak 29 = .ok (.if_icmp .ge 7, 3) := by decide +kernel
theorem dX10_firstBreak_32 : decode cX10_firstBreak 32 = .ok (.iload_n 1, 1) := by decide +kernel
theorem dX10_firstBreak_33 : decode cX10_firstBreak 33 = .ok (.goto 5, 3) := by decide +kernel
theorem dX10_firstBreak_36 : decode cX10_firstBreak 36 = .ok (.bipush (-6), 2) := by decide +kernel
theorem dX10_firstBreak_38 : decode cX10_firstBreak 38 = .ok (.ireturn, 1) := by decide +kernel
theorem dX10_row_0 : decode cX10_row 0 = .ok (.iload_n 1, 1) := by decide +kernel
theorem dX10_row_1 : decode cX10_row 1 = .ok (.iconst 0, 1) := by decide +kernel
theorem dX10_row_2 : decode cX10_row 2 = .ok (.iconst 2, 1) := by decide +kernel
theorem dX10_row_3 : decode cX10_row 3 = .ok (.invokestatic 38, 3) := by decide +kernel
theorem dX10_row_6 : decode cX10_row 6 = .ok (.ifCond .ne 6, 3) := by decide +kernel
theorem dX10_row_9 : decode cX10_row 9 = .ok (.bipush (-2), 2) := by decide +kernel
theorem dX10_row_11 : decode cX10_row 11 = .ok (.ireturn, 1) := by decide +kernel
theorem dX10_row_12 : decode cX10_row 12 = .ok (.aload_n 0, 1) := by decide +kernel
theorem dX10_row_13 : decode cX10_row 13 = .ok (.invokevirtual 142, 3) := by decide +kernel
theorem dX10_row_16 : decode cX10_row 16 = .ok (.ifCond .eq 6, 3) := by decide +kernel
theorem dX10_row_19 : decode cX10_row 19 = .ok (.bipush (-7), 2) := by decide +kernel
theorem dX10_row_21 : decode cX10_row 21 = .ok (.ireturn, 1) := by decide +kernel
theorem dX10_row_22 : decode cX10_row 22 = .ok (.aload_n 0, 1) := by decide +kernel
theorem dX10_row_23 : decode cX10_row 23 = .ok (.invokevirtual 148, 3) := by decide +kernel
theorem dX10_row_26 : decode cX10_row 26 = .ok (.iload_n 1, 1) := by decide +kernel
theorem dX10_row_27 : decode cX10_row 27 = .ok (.ifCond .ne 10, 3) := by decide +kernel
theorem dX10_row_30 : decode cX10_row 30 = .ok (.aload_n 0, 1) := by decide +kernel
theorem dX10_row_31 : decode cX10_row 31 = .ok (.invokevirtual 88, 3) := by decide +kernel
theorem dX10_row_34 : decode cX10_row 34 = .ok (.goto 31, 3) := by decide +kernel
theorem dX10_row_37 : decode cX10_row 37 = .ok (.iload_n 1, 1) := by decide +kernel
theorem dX10_row_38 : decode cX10_row 38 = .ok (.iconst 1, 1) := by decide +kernel
theorem dX10_row_39 : decode cX10_row 39 = .ok (.if_icmp .ne 10, 3) := by decide +kernel
theorem dX10_row_42 : decode cX10_row 42 = .ok (.aload_n 0, 1) := by decide +kernel
theorem dX10_row_43 : decode cX10_row 43 = .ok (.invokevirtual 151, 3) := by decide +kernel
theorem dX10_row_46 : decode cX10_row 46 = .ok (.goto 19, 3) := by decide +kernel
theorem dX10_row_49 : decode cX10_row 49 = .ok (.aload_n 0, 1) := by decide +kernel
theorem dX10_row_50 : decode cX10_row 50 = .ok (.invokevirtual 154, 3) := by decide +kernel
theorem dX10_row_53 : decode cX10_row 53 = .ok (.ifCond .eq 10, 3) := by decide +kernel
theorem dX10_row_56 : decode cX10_row 56 = .ok (.aload_n 0, 1) := by decide +kernel
theorem dX10_row_57 : decode cX10_row 57 = .ok (.invokevirtual 136, 3) := by decide +kernel
theorem dX10_row_60 : decode cX10_row 60 = .ok (.goto 5, 3) := by decide +kernel
theorem dX10_row_63 : decode cX10_row 63 = .ok (.bipush (-6), 2) := by decide +kernel
theorem dX10_row_65 : decode cX10_row 65 = .ok (.ireturn, 1) := by decide +kernel
theorem dX10_isAsTold_0 : decode cX10_isAsTold 0 = .ok (.aload_n 0, 1) := by decide +kernel
theorem dX10_isAsTold_1 : decode cX10_isAsTold 1 = .ok (.getfield 71, 3) := by decide +kernel
theorem dX10_isAsTold_4 : decode cX10_isAsTold 4 = .ok (.aload_n 0, 1) := by decide +kernel
theorem dX10_isAsTold_5 : decode cX10_isAsTold 5 = .ok (.getfield 139, 3) := by decide +kernel
theorem dX10_isAsTold_8 : decode cX10_isAsTold 8 = .ok (.if_icmp .ne 7, 3) := by decide +kernel
theorem dX10_isAsTold_11 : decode cX10_isAsTold 11 = .ok (.iconst 1, 1) := by decide +kernel
theorem dX10_isAsTold_12 : decode cX10_isAsTold 12 = .ok (.goto 4, 3) := by decide +kernel
theorem dX10_isAsTold_15 : decode cX10_isAsTold 15 = .ok (.iconst 0, 1) := by decide +kernel
theorem dX10_isAsTold_16 : decode cX10_isAsTold 16 = .ok (.istore_n 1, 1) := by decide +kernel
theorem dX10_isAsTold_17 : decode cX10_isAsTold 17 = .ok (.iconst 0, 1) := by decide +kernel
theorem dX10_isAsTold_18 : decode cX10_isAsTold 18 = .ok (.istore_n 2, 1) := by decide +kernel
theorem dX10_isAsTold_19 : decode cX10_isAsTold 19 = .ok (.iload_n 2, 1) := by decide +kernel
theorem dX10_isAsTold_20 : decode cX10_isAsTold 20 = .ok (.aload_n 0, 1) := by decide +kernel
theorem dX10_isAsTold_21 : decode cX10_isAsTold 21 = .ok (.getfield 71, 3) := by decide +kernel
theorem dX10_isAsTold_24 : decode cX10_isAsTold 24 = .ok (.if_icmp .ge 48, 3) := by decide +kernel
theorem dX10_isAsTold_27 : decode cX10_isAsTold 27 = .ok (.iload_n 1, 1) := by decide +kernel
theorem dX10_isAsTold_28 : decode cX10_isAsTold 28 = .ok (.ifCond .eq 44, 3) := by decide +kernel
theorem dX10_isAsTold_31 : decode cX10_isAsTold 31 = .ok (.aload_n 0, 1) := by decide +kernel
theorem dX10_isAsTold_32 : decode cX10_isAsTold 32 = .ok (.getfield 20, 3) := by decide +kernel
theorem dX10_isAsTold_35 : decode cX10_isAsTold 35 = .ok (.iload_n 2, 1) := by decide +kernel
theorem dX10_isAsTold_36 : decode cX10_isAsTold 36 = .ok (.iaload, 1) := by decide +kernel
theorem dX10_isAsTold_37 : decode cX10_isAsTold 37 = .ok (.bipush 63, 2) := by decide +kernel
theorem dX10_isAsTold_39 : decode cX10_isAsTold 39 = .ok (.if_icmp .eq 21, 3) := by decide +kernel
theorem dX10_isAsTold_42 : decode cX10_isAsTold 42 = .ok (.aload_n 0, 1) := by decide +kernel
theorem dX10_isAsTold_43 : decode cX10_isAsTold 43 = .ok (.getfield 20, 3) := by decide +kernel
theorem dX10_isAsTold_46 : decode cX10_isAsTold 46 = .ok (.iload_n 2, 1) := by decide +kernel
theorem dX10_isAsTold_47 : decode cX10_isAsTold 47 = .ok (.iaload, 1) := by decide +kernel
theorem dX10_isAsTold_48 : decode cX10_isAsTold 48 = .ok (.bipush 48, 2) := by decide +kernel
theorem dX10_isAsTold_50 : decode cX10_isAsTold 50 = .ok (.isub, 1) := by decide +kernel
theorem dX10_isAsTold_51 : decode cX10_isAsTold 51 = .ok (.aload_n 0, 1) := by decide +kernel
theorem dX10_isAsTold_52 : decode cX10_isAsTold 52 = .ok (.getfield 23, 3) := by decide +kernel
theorem dX10_isAsTold_55 : decode cX10_isAsTold 55 = .ok (.iload_n 2, 1) := by decide +kernel
theorem dX10_isAsTold_56 : decode cX10_isAsTold 56 = .ok (.iaload, 1) := by decide +kernel
theorem dX10_isAsTold_57 : decode cX10_isAsTold 57 = .ok (.if_icmp .ne 7, 3) := by decide +kernel
theorem dX10_isAsTold_60 : decode cX10_isAsTold 60 = .ok (.iconst 1, 1) := by decide +kernel
theorem dX10_isAsTold_61 : decode cX10_isAsTold 61 = .ok (.goto 4, 3) := by decide +kernel
theorem dX10_isAsTold_64 : decode cX10_isAsTold 64 = .ok (.iconst 0, 1) := by decide +kernel
theorem dX10_isAsTold_65 : decode cX10_isAsTold 65 = .ok (.istore_n 1, 1) := by decide +kernel
theorem dX10_isAsTold_66 : decode cX10_isAsTold 66 = .ok (.iinc 2 1, 3) := by decide +kernel
theorem dX10_isAsTold_69 : decode cX10_isAsTold 69 = .ok (.goto (-50), 3) := by decide +kernel
theorem dX10_isAsTold_72 : decode cX10_isAsTold 72 = .ok (.iload_n 1, 1) := by decide +kernel
theorem dX10_isAsTold_73 : decode cX10_isAsTold 73 = .ok (.ireturn, 1) := by decide +kernel
theorem dX10_filled_0 : decode cX10_filled 0 = .ok (.iload_n 1, 1) := by decide +kernel
theorem dX10_filled_1 : decode cX10_filled 1 = .ok (.iconst (-1), 1) := by decide +kernel
theorem dX10_filled_2 : decode cX10_filled 2 = .ok (.if_icmp .ge 6, 3) := by decide +kernel
theorem dX10_filled_5 : decode cX10_filled 5 = .ok (.bipush (-2), 2) := by decide +kernel
theorem dX10_filled_7 : decode cX10_filled 7 = .ok (.ireturn, 1) := by decide +kernel
theorem dX10_filled_8 : decode cX10_filled 8 = .ok (.aload_n 0, 1) := by decide +kernel
theorem dX10_filled_9 : decode cX10_filled 9 = .ok (.iconst 0, 1) := by decide +kernel
theorem dX10_filled_10 : decode cX10_filled 10 = .ok (.putfield 82, 3) := by decide +kernel
theorem dX10_filled_13 : decode cX10_filled 13 = .ok (.aload_n 0, 1) := by decide +kernel
theorem dX10_filled_14 : decode cX10_filled 14 = .ok (.invokevirtual 85, 3) := by decide +kernel
theorem dX10_filled_17 : decode cX10_filled 17 = .ok (.iconst 1, 1) := by decide +kernel
theorem dX10_filled_18 : decode cX10_filled 18 = .ok (.istore_n 2, 1) := by decide +kernel
theorem dX10_filled_19 : decode cX10_filled 19 = .ok (.iload_n 2, 1) := by decide +kernel
theorem dX10_filled_20 : decode cX10_filled 20 = .ok (.ifCond .eq 46, 3) := by decide +kernel
theorem dX10_filled_23 : decode cX10_filled 23 = .ok (.aload_n 0, 1) := by decide +kernel
theorem dX10_filled_24 : decode cX10_filled 24 = .ok (.invokevirtual 157, 3) := by decide +kernel
theorem dX10_filled_27 : decode cX10_filled 27 = .ok (.ifCond .eq 31, 3) := by decide +kernel
theorem dX10_filled_30 : decode cX10_filled 30 = .ok (.aload_n 0, 1) := by decide +kernel
theorem dX10_filled_31 : decode cX10_filled 31 = .ok (.invokevirtual 88, 3) := by decide +kernel
theorem dX10_filled_34 : decode cX10_filled 34 = .ok (.ifCond .ne 24, 3) := by decide +kernel
theorem dX10_filled_37 : decode cX10_filled 37 = .ok (.aload_n 0, 1) := by decide +kernel
theorem dX10_filled_38 : decode cX10_filled 38 = .ok (.getfield 82, 3) := by decide +kernel
theorem dX10_filled_41 : decode cX10_filled 41 = .ok (.ifCond .ne 7, 3) := by decide +kernel
theorem dX10_filled_44 : decode cX10_filled 44 = .ok (.aload_n 0, 1) := by decide +kernel
theorem dX10_filled_45 : decode cX10_filled 45 = .ok (.invokevirtual 91, 3) := by decide +kernel
theorem dX10_filled_48 : decode cX10_filled 48 = .ok (.aload_n 0, 1) := by decide +kernel
theorem dX10_filled_49 : decode cX10_filled 49 = .ok (.dup, 1) := by decide +kernel
theorem dX10_filled_50 : decode cX10_filled 50 = .ok (.getfield 82, 3) := by decide +kernel
theorem dX10_filled_53 : decode cX10_filled 53 = .ok (.iconst 1, 1) := by decide +kernel
theorem dX10_filled_54 : decode cX10_filled 54 = .ok (.iadd, 1) := by decide +kernel
theorem dX10_filled_55 : decode cX10_filled 55 = .ok (.putfield 82, 3) := by decide +kernel
theorem dX10_filled_58 : decode cX10_filled 58 = .ok (.aload_n 0, 1) := by decide +kernel
theorem dX10_filled_59 : decode cX10_filled 59 = .ok (.invokevirtual 94, 3) := by decide +kernel
theorem dX10_filled_62 : decode cX10_filled 62 = .ok (.istore_n 2, 1) := by decide +kernel
theorem dX10_filled_63 : decode cX10_filled 63 = .ok (.goto (-44), 3) := by decide +kernel
theorem dX10_filled_66 : decode cX10_filled 66 = .ok (.iload_n 1, 1) := by decide +kernel
theorem dX10_filled_67 : decode cX10_filled 67 = .ok (.iconst (-1), 1) := by decide +kernel
theorem dX10_filled_68 : decode cX10_filled 68 = .ok (.if_icmp .ne 10, 3) := by decide +kernel
theorem dX10_filled_71 : decode cX10_filled 71 = .ok (.aload_n 0, 1) := by decide +kernel
theorem dX10_filled_72 : decode cX10_filled 72 = .ok (.getfield 82, 3) := by decide +kernel
theorem dX10_filled_75 : decode cX10_filled 75 = .ok (.goto 8, 3) := by decide +kernel
theorem dX10_filled_78 : decode cX10_filled 78 = .ok (.aload_n 0, 1) := by decide +kernel
theorem dX10_filled_79 : decode cX10_filled 79 = .ok (.iload_n 1, 1) := by decide +kernel
theorem dX10_filled_80 : decode cX10_filled 80 = .ok (.invokevirtual 101, 3) := by decide +kernel
theorem dX10_filled_83 : decode cX10_filled 83 = .ok (.ireturn, 1) := by decide +kernel
theorem dX10_goOn_0 : decode cX10_goOn 0 = .ok (.iload_n 1, 1) := by decide +kernel
theorem dX10_goOn_1 : decode cX10_goOn 1 = .ok (.istore_n 3, 1) := by decide +kernel
theorem dX10_goOn_2 : decode cX10_goOn 2 = .ok (.iconst 0, 1) := by decide +kernel
theorem dX10_goOn_3 : decode cX10_goOn 3 = .ok (.istore 4, 2) := by decide +kernel
theorem dX10_goOn_5 : decode cX10_goOn 5 = .ok (.iload 4, 2) := by decide +kernel
theorem dX10_goOn_7 : decode cX10_goOn 7 = .ok (.aload_n 0, 1) := by decide +kernel
theorem dX10_goOn_8 : decode cX10_goOn 8 = .ok (.getfield 139, 3) := by decide +kernel
theorem dX10_goOn_11 : decode cX10_goOn 11 = .ok (.if_icmp .ge 26, 3) := by decide +kernel
theorem dX10_goOn_14 : decode cX10_goOn 14 = .ok (.aload_n 0, 1) := by decide +kernel
theorem dX10_goOn_15 : decode cX10_goOn 15 = .ok (.getfield 35, 3) := by decide +kernel
theorem dX10_goOn_18 : decode cX10_goOn 18 = .ok (.iload 4, 2) := by decide +kernel
theorem dX10_goOn_20 : decode cX10_goOn 20 = .ok (.aload_n 0, 1) := by decide +kernel
theorem dX10_goOn_21 : decode cX10_goOn 21 = .ok (.getfield 20, 3) := by decide +kernel
theorem dX10_goOn_24 : decode cX10_goOn 24 = .ok (.iload 4, 2) := by decide +kernel
theorem dX10_goOn_26 : decode cX10_goOn 26 = .ok (.iaload, 1) := by decide +kernel
theorem dX10_goOn_27 : decode cX10_goOn 27 = .ok (.bipush 48, 2) := by decide +kernel
theorem dX10_goOn_29 : decode cX10_goOn 29 = .ok (.isub, 1) := by decide +kernel
theorem dX10_goOn_30 : decode cX10_goOn 30 = .ok (.iastore, 1) := by decide +kernel
theorem dX10_goOn_31 : decode cX10_goOn 31 = .ok (.iinc 4 1, 3) := by decide +kernel
theorem dX10_goOn_34 : decode cX10_goOn 34 = .ok (.goto (-29), 3) := by decide +kernel
theorem dX10_goOn_37 : decode cX10_goOn 37 = .ok (.aload_n 0, 1) := by decide +kernel
theorem dX10_goOn_38 : decode cX10_goOn 38 = .ok (.aload_n 0, 1) := by decide +kernel
theorem dX10_goOn_39 : decode cX10_goOn 39 = .ok (.getfield 139, 3) := by decide +kernel
theorem dX10_goOn_42 : decode cX10_goOn 42 = .ok (.putfield 71, 3) := by decide +kernel
theorem dX10_goOn_45 : decode cX10_goOn 45 = .ok (.iconst 0, 1) := by decide +kernel
theorem dX10_goOn_46 : decode cX10_goOn 46 = .ok (.istore 4, 2) := by decide +kernel
theorem dX10_goOn_48 : decode cX10_goOn 48 = .ok (.iload 4, 2) := by decide +kernel
theorem dX10_goOn_50 : decode cX10_goOn 50 = .ok (.aload_n 0, 1) := by decide +kernel
theorem dX10_goOn_51 : decode cX10_goOn 51 = .ok (.getfield 139, 3) := by decide +kernel
theorem dX10_goOn_54 : decode cX10_goOn 54 = .ok (.if_icmp .ge 87, 3) := by decide +kernel
theorem dX10_goOn_57 : decode cX10_goOn 57 = .ok (.iload_n 3, 1) := by decide +kernel
theorem dX10_goOn_58 : decode cX10_goOn 58 = .ok (.iload_n 2, 1) := by decide +kernel
theorem dX10_goOn_59 : decode cX10_goOn 59 = .ok (.iconst 1, 1) := by decide +kernel
theorem dX10_goOn_60 : decode cX10_goOn 60 = .ok (.iadd, 1) := by decide +kernel
theorem dX10_goOn_61 : decode cX10_goOn 61 = .ok (.irem, 1) := by decide +kernel
theorem dX10_goOn_62 : decode cX10_goOn 62 = .ok (.istore 5, 2) := by decide +kernel
theorem dX10_goOn_64 : decode cX10_goOn 64 = .ok (.iload_n 3, 1) := by decide +kernel
theorem dX10_goOn_65 : decode cX10_goOn 65 = .ok (.iload_n 2, 1) := by decide +kernel
theorem dX10_goOn_66 : decode cX10_goOn 66 = .ok (.iconst 1, 1) := by decide +kernel
theorem dX10_goOn_67 : decode cX10_goOn 67 = .ok (.iadd, 1) := by decide +kernel
theorem dX10_goOn_68 : decode cX10_goOn 68 = .ok (.idiv, 1) := by decide +kernel
theorem dX10_goOn_69 : decode cX10_goOn 69 = .ok (.istore_n 3, 1) := by decide +kernel
theorem dX10_goOn_70 : decode cX10_goOn 70 = .ok (.iload 5, 2) := by decide +kernel
theorem dX10_goOn_72 : decode cX10_goOn 72 = .ok (.aload_n 0, 1) := by decide +kernel
theorem dX10_goOn_73 : decode cX10_goOn 73 = .ok (.getfield 139, 3) := by decide +kernel
theorem dX10_goOn_76 : decode cX10_goOn 76 = .ok (.iload 4, 2) := by decide +kernel
theorem dX10_goOn_78 : decode cX10_goOn 78 = .ok (.isub, 1) := by decide +kernel
theorem dX10_goOn_79 : decode cX10_goOn 79 = .ok (.if_icmp .lt 5, 3) := by decide +kernel
theorem dX10_goOn_82 : decode cX10_goOn 82 = .ok (.iconst 0, 1) := by decide +kernel
theorem dX10_goOn_83 : decode cX10_goOn 83 = .ok (.ireturn, 1) := by decide +kernel
theorem dX10_goOn_84 : decode cX10_goOn 84 = .ok (.aload_n 0, 1) := by decide +kernel
theorem dX10_goOn_85 : decode cX10_goOn 85 = .ok (.getfield 23, 3) := by decide +kernel
theorem dX10_goOn_88 : decode cX10_goOn 88 = .ok (.iload 4, 2) := by decide +kernel
theorem dX10_goOn_90 : decode cX10_goOn 90 = .ok (.aload_n 0, 1) := by decide +kernel
theorem dX10_goOn_91 : decode cX10_goOn 91 = .ok (.getfield 35, 3) := by decide +kernel
theorem dX10_goOn_94 : decode cX10_goOn 94 = .ok (.iload 5, 2) := by decide +kernel
theorem dX10_goOn_96 : decode cX10_goOn 96 = .ok (.iaload, 1) := by decide +kernel
theorem dX10_goOn_97 : decode cX10_goOn 97 = .ok (.iastore, 1) := by decide +kernel
theorem dX10_goOn_98 : decode cX10_goOn 98 = .ok (.iload 5, 2) := by decide +kernel
theorem dX10_goOn_100 : decode cX10_goOn 100 = .ok (.istore 6, 2) := by decide +kernel
theorem dX10_goOn_102 : decode cX10_goOn 102 = .ok (.iload 6, 2) := by decide +kernel
theorem dX10_goOn_104 : decode cX10_goOn 104 = .ok (.iconst 1, 1) := by decide +kernel
theorem dX10_goOn_105 : decode cX10_goOn 105 = .ok (.iadd, 1) := by decide +kernel
theorem dX10_goOn_106 : decode cX10_goOn 106 = .ok (.aload_n 0, 1) := by decide +kernel
theorem dX10_goOn_107 : decode cX10_goOn 107 = .ok (.getfield 139, 3) := by decide +kernel
theorem dX10_goOn_110 : decode cX10_goOn 110 = .ok (.if_icmp .ge 25, 3) := by decide +kernel
theorem dX10_goOn_113 : decode cX10_goOn 113 = .ok (.aload_n 0, 1) := by decide +kernel
theorem dX10_goOn_114 : decode cX10_goOn 114 = .ok (.getfield 35, 3) := by decide +kernel
theorem dX10_goOn_117 : decode cX10_goOn 117 = .ok (.iload 6, 2) := by decide +kernel
theorem dX10_goOn_119 : decode cX10_goOn 119 = .ok (.aload_n 0, 1) := by decide +kernel
theorem dX10_goOn_120 : decode cX10_goOn 120 = .ok (.getfield 35, 3) := by decide +kernel
theorem dX10_goOn_123 : decode cX10_goOn 123 = .ok (.iload 6, 2) := by decide +kernel
theorem dX10_goOn_125 : decode cX10_goOn 125 = .ok (.iconst 1, 1) := by decide +kernel
theorem dX10_goOn_126 : decode cX10_goOn 126 = .ok (.iadd, 1) := by decide +kernel
theorem dX10_goOn_127 : decode cX10_goOn 127 = .ok (.iaload, 1) := by decide +kernel
theorem dX10_goOn_128 : decode cX10_goOn 128 = .ok (.iastore, 1) := by decide +kernel
theorem dX10_goOn_129 : decode cX10_goOn 129 = .ok (.iinc 6 1, 3) := by decide +kernel
theorem dX10_goOn_132 : decode cX10_goOn 132 = .ok (.goto (-30), 3) := by decide +kernel
theorem dX10_goOn_135 : decode cX10_goOn 135 = .ok (.iinc 4 1, 3) := by decide +kernel
theorem dX10_goOn_138 : decode cX10_goOn 138 = .ok (.goto (-90), 3) := by decide +kernel
theorem dX10_goOn_141 : decode cX10_goOn 141 = .ok (.iconst 1, 1) := by decide +kernel
theorem dX10_goOn_142 : decode cX10_goOn 142 = .ok (.ireturn, 1) := by decide +kernel
theorem dX10_lane_0 : decode cX10_lane 0 = .ok (.iload_n 1, 1) := by decide +kernel
theorem dX10_lane_1 : decode cX10_lane 1 = .ok (.iconst 0, 1) := by decide +kernel
theorem dX10_lane_2 : decode cX10_lane 2 = .ok (.iconst 2, 1) := by decide +kernel
theorem dX10_lane_3 : decode cX10_lane 3 = .ok (.invokestatic 38, 3) := by decide +kernel
theorem dX10_lane_6 : decode cX10_lane 6 = .ok (.ifCond .ne 6, 3) := by decide +kernel
theorem dX10_lane_9 : decode cX10_lane 9 = .ok (.bipush (-2), 2) := by decide +kernel
theorem dX10_lane_11 : decode cX10_lane 11 = .ok (.ireturn, 1) := by decide +kernel
theorem dX10_lane_12 : decode cX10_lane 12 = .ok (.aload_n 0, 1) := by decide +kernel
theorem dX10_lane_13 : decode cX10_lane 13 = .ok (.invokevirtual 142, 3) := by decide +kernel
theorem dX10_lane_16 : decode cX10_lane 16 = .ok (.ifCond .eq 6, 3) := by decide +kernel
theorem dX10_lane_19 : decode cX10_lane 19 = .ok (.bipush (-7), 2) := by decide +kernel
theorem dX10_lane_21 : decode cX10_lane 21 = .ok (.ireturn, 1) := by decide +kernel
theorem dX10_lane_22 : decode cX10_lane 22 = .ok (.iconst 1, 1) := by decide +kernel
theorem dX10_lane_23 : decode cX10_lane 23 = .ok (.istore_n 2, 1) := by decide +kernel
theorem dX10_lane_24 : decode cX10_lane 24 = .ok (.iconst 0, 1) := by decide +kernel
theorem dX10_lane_25 : decode cX10_lane 25 = .ok (.istore_n 3, 1) := by decide +kernel
theorem dX10_lane_26 : decode cX10_lane 26 = .ok (.iload_n 3, 1) := by decide +kernel
theorem dX10_lane_27 : decode cX10_lane 27 = .ok (.aload_n 0, 1) := by decide +kernel
theorem dX10_lane_28 : decode cX10_lane 28 = .ok (.getfield 139, 3) := by decide +kernel
theorem dX10_lane_31 : decode cX10_lane 31 = .ok (.if_icmp .ge 15, 3) := by decide +kernel
theorem dX10_lane_34 : decode cX10_lane 34 = .ok (.iload_n 2, 1) := by decide +kernel
theorem dX10_lane_35 : decode cX10_lane 35 = .ok (.iload_n 1, 1) := by decide +kernel
theorem dX10_lane_36 : decode cX10_lane 36 = .ok (.iconst 1, 1) := by decide +kernel
theorem dX10_lane_37 : decode cX10_lane 37 = .ok (.iadd, 1) := by decide +kernel
theorem dX10_lane_38 : decode cX10_lane 38 = .ok (.imul, 1) := by decide +kernel
theorem dX10_lane_39 : decode cX10_lane 39 = .ok (.istore_n 2, 1) := by decide +kernel
theorem dX10_lane_40 : decode cX10_lane 40 = .ok (.iinc 3 1, 3) := by decide +kernel
theorem dX10_lane_43 : decode cX10_lane 43 = .ok (.goto (-17), 3) := by decide +kernel
theorem dX10_lane_46 : decode cX10_lane 46 = .ok (.sipush 1000, 3) := by decide +kernel
theorem dX10_lane_49 : decode cX10_lane 49 = .ok (.istore_n 3, 1) := by decide +kernel
theorem dX10_lane_50 : decode cX10_lane 50 = .ok (.iconst 0, 1) := by decide +kernel
theorem dX10_lane_51 : decode cX10_lane 51 = .ok (.istore 4, 2) := by decide +kernel
theorem dX10_lane_53 : decode cX10_lane 53 = .ok (.iload 4, 2) := by decide +kernel
theorem dX10_lane_55 : decode cX10_lane 55 = .ok (.iload_n 2, 1) := by decide +kernel
theorem dX10_lane_56 : decode cX10_lane 56 = .ok (.if_icmp .ge 28, 3) := by decide +kernel
theorem dX10_lane_59 : decode cX10_lane 59 = .ok (.aload_n 0, 1) := by decide +kernel
theorem dX10_lane_60 : decode cX10_lane 60 = .ok (.iload 4, 2) := by decide +kernel
theorem dX10_lane_62 : decode cX10_lane 62 = .ok (.iload_n 1, 1) := by decide +kernel
theorem dX10_lane_63 : decode cX10_lane 63 = .ok (.invokevirtual 160, 3) := by decide +kernel
theorem dX10_lane_66 : decode cX10_lane 66 = .ok (.ifCond .eq 12, 3) := by decide +kernel
theorem dX10_lane_69 : decode cX10_lane 69 = .ok (.iload_n 3, 1) := by decide +kernel
theorem dX10_lane_70 : decode cX10_lane 70 = .ok (.aload_n 0, 1) := by decide +kernel
theorem dX10_lane_71 : decode cX10_lane 71 = .ok (.invokevirtual 88, 3) := by decide +kernel
theorem dX10_lane_74 : decode cX10_lane 74 = .ok (.invokestatic 57, 3) := by decide +kernel
theorem dX10_lane_77 : decode cX10_lane 77 = .ok (.istore_n 3, 1) := by decide +kernel
theorem dX10_lane_78 : decode cX10_lane 78 = .ok (.iinc 4 1, 3) := by decide +kernel
theorem dX10_lane_81 : decode cX10_lane 81 = .ok (.goto (-28), 3) := by decide +kernel
theorem dX10_lane_84 : decode cX10_lane 84 = .ok (.iload_n 3, 1) := by decide +kernel
theorem dX10_lane_85 : decode cX10_lane 85 = .ok (.ireturn, 1) := by decide +kernel
theorem dX10_image_0 : decode cX10_image 0 = .ok (.iload_n 1, 1) := by decide +kernel
theorem dX10_image_1 : decode cX10_image 1 = .ok (.iconst 0, 1) := by decide +kernel
theorem dX10_image_2 : decode cX10_image 2 = .ok (.iconst 1, 1) := by decide +kernel
theorem dX10_image_3 : decode cX10_image 3 = .ok (.invokestatic 38, 3) := by decide +kernel
theorem dX10_image_6 : decode cX10_image 6 = .ok (.ifCond .ne 6, 3) := by decide +kernel
theorem dX10_image_9 : decode cX10_image 9 = .ok (.bipush (-2), 2) := by decide +kernel
theorem dX10_image_11 : decode cX10_image 11 = .ok (.ireturn, 1) := by decide +kernel
theorem dX10_image_12 : decode cX10_image 12 = .ok (.iconst 0, 1) := by decide +kernel
theorem dX10_image_13 : decode cX10_image 13 = .ok (.istore_n 2, 1) := by decide +kernel
theorem dX10_image_14 : decode cX10_image 14 = .ok (.iload_n 2, 1) := by decide +kernel
theorem dX10_image_15 : decode cX10_image 15 = .ok (.bipush 18, 2) := by decide +kernel
theorem dX10_image_17 : decode cX10_image 17 = .ok (.if_icmp .ge 26, 3) := by decide +kernel
theorem dX10_image_20 : decode cX10_image 20 = .ok (.aload_n 0, 1) := by decide +kernel
theorem dX10_image_21 : decode cX10_image 21 = .ok (.getfield 13, 3) := by decide +kernel
theorem dX10_image_24 : decode cX10_image 24 = .ok (.bipush 18, 2) := by decide +kernel
theorem dX10_image_26 : decode cX10_image 26 = .ok (.iload_n 1, 1) := by decide +kernel
theorem dX10_image_27 : decode cX10_image 27 = .ok (.imul, 1) := by decide +kernel
theorem dX10_image_28 : decode cX10_image 28 = .ok (.iload_n 2, 1) := by decide +kernel
theorem dX10_image_29 : decode cX10_image 29 = .ok (.iadd, 1) := by decide +kernel
theorem dX10_image_30 : decode cX10_image 30 = .ok (.aload_n 0, 1) := by decide +kernel
theorem dX10_image_31 : decode cX10_image 31 = .ok (.getfield 7, 3) := by decide +kernel
theorem dX10_image_34 : decode cX10_image 34 = .ok (.iload_n 2, 1) := by decide +kernel
theorem dX10_image_35 : decode cX10_image 35 = .ok (.iaload, 1) := by decide +kernel
theorem dX10_image_36 : decode cX10_image 36 = .ok (.iastore, 1) := by decide +kernel
theorem dX10_image_37 : decode cX10_image 37 = .ok (.iinc 2 1, 3) := by decide +kernel
theorem dX10_image_40 : decode cX10_image 40 = .ok (.goto (-26), 3) := by decide +kernel
theorem dX10_image_43 : decode cX10_image 43 = .ok (.aload_n 0, 1) := by decide +kernel
theorem dX10_image_44 : decode cX10_image 44 = .ok (.getfield 16, 3) := by decide +kernel
theorem dX10_image_47 : decode cX10_image 47 = .ok (.iload_n 1, 1) := by decide +kernel
theorem dX10_image_48 : decode cX10_image 48 = .ok (.iconst 1, 1) := by decide +kernel
theorem dX10_image_49 : decode cX10_image 49 = .ok (.bastore, 1) := by decide +kernel
theorem dX10_image_50 : decode cX10_image 50 = .ok (.iconst 1, 1) := by decide +kernel
theorem dX10_image_51 : decode cX10_image 51 = .ok (.ireturn, 1) := by decide +kernel
theorem dX10_restore_0 : decode cX10_restore 0 = .ok (.iload_n 1, 1) := by decide +kernel
theorem dX10_restore_1 : decode cX10_restore 1 = .ok (.iconst 0, 1) := by decide +kernel
theorem dX10_restore_2 : decode cX10_restore 2 = .ok (.iconst 1, 1) := by decide +kernel
theorem dX10_restore_3 : decode cX10_restore 3 = .ok (.invokestatic 38, 3) := by decide +kernel
theorem dX10_restore_6 : decode cX10_restore 6 = .ok (.ifCond .ne 6, 3) := by decide +kernel
theorem dX10_restore_9 : decode cX10_restore 9 = .ok (.bipush (-2), 2) := by decide +kernel
theorem dX10_restore_11 : decode cX10_restore 11 = .ok (.ireturn, 1) := by decide +kernel
theorem dX10_restore_12 : decode cX10_restore 12 = .ok (.aload_n 0, 1) := by decide +kernel
theorem dX10_restore_13 : decode cX10_restore 13 = .ok (.getfield 16, 3) := by decide +kernel
theorem dX10_restore_16 : decode cX10_restore 16 = .ok (.iload_n 1, 1) := by decide +kernel
theorem dX10_restore_17 : decode cX10_restore 17 = .ok (.baload, 1) := by decide +kernel
theorem dX10_restore_18 : decode cX10_restore 18 = .ok (.ifCond .ne 6, 3) := by decide +kernel
theorem dX10_restore_21 : decode cX10_restore 21 = .ok (.bipush (-3), 2) := by decide +kernel
theorem dX10_restore_23 : decode cX10_restore 23 = .ok (.ireturn, 1) := by decide +kernel
theorem dX10_restore_24 : decode cX10_restore 24 = .ok (.iconst 0, 1) := by decide +kernel
theorem dX10_restore_25 : decode cX10_restore 25 = .ok (.istore_n 2, 1) := by decide +kernel
theorem dX10_restore_26 : decode cX10_restore 26 = .ok (.iload_n 2, 1) := by decide +kernel
theorem dX10_restore_27 : decode cX10_restore 27 = .ok (.bipush 18, 2) := by decide +kernel
theorem dX10_restore_29 : decode cX10_restore 29 = .ok (.if_icmp .ge 26, 3) := by decide +kernel
theorem dX10_restore_32 : decode cX10_restore 32 = .ok (.aload_n 0, 1) := by decide +kernel
theorem dX10_restore_33 : decode cX10_restore 33 = .ok (.getfield 7, 3) := by decide +kernel
theorem dX10_restore_36 : decode cX10_restore 36 = .ok (.iload_n 2, 1) := by decide +kernel
theorem dX10_restore_37 : decode cX10_restore 37 = .ok (.aload_n 0, 1) := by decide +kernel
theorem dX10_restore_38 : decode cX10_restore 38 = .ok (.getfield 13, 3) := by decide +kernel
theorem dX10_restore_41 : decode cX10_restore 41 = .ok (.bipush 18, 2) := by decide +kernel
theorem dX10_restore_43 : decode cX10_restore 43 = .ok (.iload_n 1, 1) := by decide +kernel
theorem dX10_restore_44 : decode cX10_restore 44 = .ok (.imul, 1) := by decide +kernel
theorem dX10_restore_45 : decode cX10_restore 45 = .ok (.iload_n 2, 1) := by decide +kernel
theorem dX10_restore_46 : decode cX10_restore 46 = .ok (.iadd, 1) := by decide +kernel
theorem dX10_restore_47 : decode cX10_restore 47 = .ok (.iaload, 1) := by decide +kernel
theorem dX10_restore_48 : decode cX10_restore 48 = .ok (.iastore, 1) := by decide +kernel
theorem dX10_restore_49 : decode cX10_restore 49 = .ok (.iinc 2 1, 3) := by decide +kernel
theorem dX10_restore_52 : decode cX10_restore 52 = .ok (.goto (-26), 3) := by decide +kernel
theorem dX10_restore_55 : decode cX10_restore 55 = .ok (.iconst 1, 1) := by decide +kernel
theorem dX10_restore_56 : decode cX10_restore 56 = .ok (.ireturn, 1) := by decide +kernel
theorem dX10_demanded_0 : decode cX10_demanded 0 = .ok (.iconst 0, 1) := by decide +kernel
theorem dX10_demanded_1 : decode cX10_demanded 1 = .ok (.istore_n 1, 1) := by decide +kernel
theorem dX10_demanded_2 : decode cX10_demanded 2 = .ok (.iconst 0, 1) := by decide +kernel
theorem dX10_demanded_3 : decode cX10_demanded 3 = .ok (.istore_n 2, 1) := by decide +kernel
theorem dX10_demanded_4 : decode cX10_demanded 4 = .ok (.iload_n 2, 1) := by decide +kernel
theorem dX10_demanded_5 : decode cX10_demanded 5 = .ok (.iconst 5, 1) := by decide +kernel
theorem dX10_demanded_6 : decode cX10_demanded 6 = .ok (.if_icmp .ge 29, 3) := by decide +kernel
theorem dX10_demanded_9 : decode cX10_demanded 9 = .ok (.iload_n 1, 1) := by decide +kernel
theorem dX10_demanded_10 : decode cX10_demanded 10 = .ok (.aload_n 0, 1) := by decide +kernel
theorem dX10_demanded_11 : decode cX10_demanded 11 = .ok (.getfield 7, 3) := by decide +kernel
theorem dX10_demanded_14 : decode cX10_demanded 14 = .ok (.bipush 13, 2) := by decide +kernel
theorem dX10_demanded_16 : decode cX10_demanded 16 = .ok (.iload_n 2, 1) := by decide +kernel
theorem dX10_demanded_17 : decode cX10_demanded 17 = .ok (.iadd, 1) := by decide +kernel
theorem dX10_demanded_18 : decode cX10_demanded 18 = .ok (.iaload, 1) := by decide +kernel
theorem dX10_demanded_19 : decode cX10_demanded 19 = .ok (.ifCond .le 7, 3) := by decide +kernel
theorem dX10_demanded_22 : decode cX10_demanded 22 = .ok (.iconst 1, 1) := by decide +kernel
theorem dX10_demanded_23 : decode cX10_demanded 23 = .ok (.goto 4, 3) := by decide +kernel
theorem dX10_demanded_26 : decode cX10_demanded 26 = .ok (.iconst 0, 1) := by decide +kernel
theorem dX10_demanded_27 : decode cX10_demanded 27 = .ok (.iadd, 1) := by decide +kernel
theorem dX10_demanded_28 : decode cX10_demanded 28 = .ok (.istore_n 1, 1) := by decide +kernel
theorem dX10_demanded_29 : decode cX10_demanded 29 = .ok (.iinc 2 1, 3) := by decide +kernel
theorem dX10_demanded_32 : decode cX10_demanded 32 = .ok (.goto (-28), 3) := by decide +kernel
theorem dX10_demanded_35 : decode cX10_demanded 35 = .ok (.iload_n 1, 1) := by decide +kernel
theorem dX10_demanded_36 : decode cX10_demanded 36 = .ok (.ireturn, 1) := by decide +kernel
theorem dX10_count_0 : decode cX10_count 0 = .ok (.iload_n 1, 1) := by decide +kernel
theorem dX10_count_1 : decode cX10_count 1 = .ok (.tableswitch 93 0 4 #[35, 40, 45, 50, 63], 35) := by decide +kernel
theorem dX10_count_36 : decode cX10_count 36 = .ok (.aload_n 0, 1) := by decide +kernel
theorem dX10_count_37 : decode cX10_count 37 = .ok (.invokevirtual 49, 3) := by decide +kernel
theorem dX10_count_40 : decode cX10_count 40 = .ok (.ireturn, 1) := by decide +kernel
theorem dX10_count_41 : decode cX10_count 41 = .ok (.aload_n 0, 1) := by decide +kernel
theorem dX10_count_42 : decode cX10_count 42 = .ok (.invokevirtual 163, 3) := by decide +kernel
theorem dX10_count_45 : decode cX10_count 45 = .ok (.ireturn, 1) := by decide +kernel
theorem dX10_count_46 : decode cX10_count 46 = .ok (.aload_n 0, 1) := by decide +kernel
theorem dX10_count_47 : decode cX10_count 47 = .ok (.getfield 139, 3) := by decide +kernel
theorem dX10_count_50 : decode cX10_count 50 = .ok (.ireturn, 1) := by decide +kernel
theorem dX10_count_51 : decode cX10_count 51 = .ok (.aload_n 0, 1) := by decide +kernel
theorem dX10_count_52 : decode cX10_count 52 = .ok (.invokevirtual 154, 3) := by decide +kernel
theorem dX10_count_55 : decode cX10_count 55 = .ok (.ifCond .eq 7, 3) := by decide +kernel
theorem dX10_count_58 : decode cX10_count 58 = .ok (.iconst 1, 1) := by decide +kernel
theorem dX10_count_59 : decode cX10_count 59 = .ok (.goto 4, 3) := by decide +kernel
theorem dX10_count_62 : decode cX10_count 62 = .ok (.iconst 0, 1) := by decide +kernel
theorem dX10_count_63 : decode cX10_count 63 = .ok (.ireturn, 1) := by decide +kernel
theorem dX10_count_64 : decode cX10_count 64 = .ok (.aload_n 0, 1) := by decide +kernel
theorem dX10_count_65 : decode cX10_count 65 = .ok (.getfield 16, 3) := by decide +kernel
theorem dX10_count_68 : decode cX10_count 68 = .ok (.iconst 0, 1) := by decide +kernel
theorem dX10_count_69 : decode cX10_count 69 = .ok (.baload, 1) := by decide +kernel
theorem dX10_count_70 : decode cX10_count 70 = .ok (.ifCond .eq 7, 3) := by decide +kernel
theorem dX10_count_73 : decode cX10_count 73 = .ok (.iconst 1, 1) := by decide +kernel
theorem dX10_count_74 : decode cX10_count 74 = .ok (.goto 4, 3) := by decide +kernel
theorem dX10_count_77 : decode cX10_count 77 = .ok (.iconst 0, 1) := by decide +kernel
theorem dX10_count_78 : decode cX10_count 78 = .ok (.aload_n 0, 1) := by decide +kernel
theorem dX10_count_79 : decode cX10_count 79 = .ok (.getfield 16, 3) := by decide +kernel
theorem dX10_count_82 : decode cX10_count 82 = .ok (.iconst 1, 1) := by decide +kernel
theorem dX10_count_83 : decode cX10_count 83 = .ok (.baload, 1) := by decide +kernel
theorem dX10_count_84 : decode cX10_count 84 = .ok (.ifCond .eq 7, 3) := by decide +kernel
theorem dX10_count_87 : decode cX10_count 87 = .ok (.iconst 2, 1) := by decide +kernel
theorem dX10_count_88 : decode cX10_count 88 = .ok (.goto 4, 3) := by decide +kernel
theorem dX10_count_91 : decode cX10_count 91 = .ok (.iconst 0, 1) := by decide +kernel
theorem dX10_count_92 : decode cX10_count 92 = .ok (.iadd, 1) := by decide +kernel
theorem dX10_count_93 : decode cX10_count 93 = .ok (.ireturn, 1) := by decide +kernel
theorem dX10_count_94 : decode cX10_count 94 = .ok (.bipush (-2), 2) := by decide +kernel
theorem dX10_count_96 : decode cX10_count 96 = .ok (.ireturn, 1) := by decide +kernel
end
section
theorem dL_law_0 : decode cL_law 0 = .ok (.new 7, 3) := by decide +kernel
theorem dL_law_3 : decode cL_law 3 = .ok (.dup, 1) := by decide +kernel
theorem dL_law_4 : decode cL_law 4 = .ok (.invokespecial 9, 3) := by decide +kernel
theorem dL_law_7 : decode cL_law 7 = .ok (.astore_n 1, 1) := by decide +kernel
theorem dL_law_8 : decode cL_law 8 = .ok (.new 10, 3) := by decide +kernel
theorem dL_law_11 : decode cL_law 11 = .ok (.dup, 1) := by decide +kernel
theorem dL_law_12 : decode cL_law 12 = .ok (.invokespecial 12, 3) := by decide +kernel
theorem dL_law_15 : decode cL_law 15 = .ok (.astore_n 2, 1) := by decide +kernel
theorem dL_law_16 : decode cL_law 16 = .ok (.iconst 0, 1) := by decide +kernel
theorem dL_law_17 : decode cL_law 17 = .ok (.istore_n 3, 1) := by decide +kernel
theorem dL_law_18 : decode cL_law 18 = .ok (.iload_n 3, 1) := by decide +kernel
theorem dL_law_19 : decode cL_law 19 = .ok (.aload_n 0, 1) := by decide +kernel
theorem dL_law_20 : decode cL_law 20 = .ok (.arraylength, 1) := by decide +kernel
theorem dL_law_21 : decode cL_law 21 = .ok (.iconst 4, 1) := by decide +kernel
theorem dL_law_22 : decode cL_law 22 = .ok (.isub, 1) := by decide +kernel
theorem dL_law_23 : decode cL_law 23 = .ok (.if_icmp .gt 611, 3) := by decide +kernel
theorem dL_law_26 : decode cL_law 26 = .ok (.aload_n 0, 1) := by decide +kernel
theorem dL_law_27 : decode cL_law 27 = .ok (.iload_n 3, 1) := by decide +kernel
theorem dL_law_28 : decode cL_law 28 = .ok (.iaload, 1) := by decide +kernel
theorem dL_law_29 : decode cL_law 29 = .ok (.bipush 31, 2) := by decide +kernel
theorem dL_law_31 : decode cL_law 31 = .ok (.iand, 1) := by decide +kernel
theorem dL_law_32 : decode cL_law 32 = .ok (.tableswitch 596 0 19 #[96, 139, 172, 205, 238, 271, 294, 317, 330, 353, 376, 399, 422, 445, 458, 481, 504, 527, 550, 573], 96) := by decide +kernel
theorem dL_law_128 : decode cL_law 128 = .ok (.aload_n 1, 1) := by decide +kernel
theorem dL_law_129 : decode cL_law 129 = .ok (.aload_n 0, 1) := by decide +kernel
theorem dL_law_130 : decode cL_law 130 = .ok (.iload_n 3, 1) := by decide +kernel
theorem dL_law_131 : decode cL_law 131 = .ok (.iconst 1, 1) := by decide +kernel
theorem dL_law_132 : decode cL_law 132 = .ok (.iadd, 1) := by decide +kernel
theorem dL_law_133 : decode cL_law 133 = .ok (.iaload, 1) := by decide +kernel
theorem dL_law_134 : decode cL_law 134 = .ok (.aload_n 0, 1) := by decide +kernel
theorem dL_law_135 : decode cL_law 135 = .ok (.iload_n 3, 1) := by decide +kernel
theorem dL_law_136 : decode cL_law 136 = .ok (.iconst 2, 1) := by decide +kernel
theorem dL_law_137 : decode cL_law 137 = .ok (.iadd, 1) := by decide +kernel
theorem dL_law_138 : decode cL_law 138 = .ok (.iaload, 1) := by decide +kernel
theorem dL_law_139 : decode cL_law 139 = .ok (.aload_n 0, 1) := by decide +kernel
theorem dL_law_140 : decode cL_law 140 = .ok (.iload_n 3, 1) := by decide +kernel
theorem dL_law_141 : decode cL_law 141 = .ok (.iconst 3, 1) := by decide +kernel
theorem dL_law_142 : decode cL_law 142 = .ok (.iadd, 1) := by decide +kernel
theorem dL_law_143 : decode cL_law 143 = .ok (.iaload, 1) := by decide +kernel
theorem dL_law_144 : decode cL_law 144 = .ok (.invokevirtual 13, 3) := by decide +kernel
theorem dL_law_147 : decode cL_law 147 = .ok (.aload_n 2, 1) := by decide +kernel
theorem dL_law_148 : decode cL_law 148 = .ok (.aload_n 0, 1) := by decide +kernel
theorem dL_law_149 : decode cL_law 149 = .ok (.iload_n 3, 1) := by decide +kernel
theorem dL_law_150 : decode cL_law 150 = .ok (.iconst 1, 1) := by decide +kernel
theorem dL_law_151 : decode cL_law 151 = .ok (.iadd, 1) := by decide +kernel
theorem dL_law_152 : decode cL_law 152 = .ok (.iaload, 1) := by decide +kernel
theorem dL_law_153 : decode cL_law 153 = .ok (.aload_n 0, 1) := by decide +kernel
theorem dL_law_154 : decode cL_law 154 = .ok (.iload_n 3, 1) := by decide +kernel
theorem dL_law_155 : decode cL_law 155 = .ok (.iconst 2, 1) := by decide +kernel
theorem dL_law_156 : decode cL_law 156 = .ok (.iadd, 1) := by decide +kernel
theorem dL_law_157 : decode cL_law 157 = .ok (.iaload, 1) := by decide +kernel
theorem dL_law_158 : decode cL_law 158 = .ok (.aload_n 0, 1) := by decide +kernel
theorem dL_law_159 : decode cL_law 159 = .ok (.iload_n 3, 1) := by decide +kernel
theorem dL_law_160 : decode cL_law 160 = .ok (.iconst 3, 1) := by decide +kernel
theorem dL_law_161 : decode cL_law 161 = .ok (.iadd, 1) := by decide +kernel
theorem dL_law_162 : decode cL_law 162 = .ok (.iaload, 1) := by decide +kernel
theorem dL_law_163 : decode cL_law 163 = .ok (.invokevirtual 17, 3) := by decide +kernel
theorem dL_law_166 : decode cL_law 166 = .ok (.if_icmp .eq 462, 3) := by decide +kernel
theorem dL_law_169 : decode cL_law 169 = .ok (.iconst 0, 1) := by decide +kernel
theorem dL_law_170 : decode cL_law 170 = .ok (.ireturn, 1) := by decide +kernel
theorem dL_law_171 : decode cL_law 171 = .ok (.aload_n 1, 1) := by decide +kernel
theorem dL_law_172 : decode cL_law 172 = .ok (.aload_n 0, 1) := by decide +kernel
theorem dL_law_173 : decode cL_law 173 = .ok (.iload_n 3, 1) := by decide +kernel
theorem dL_law_174 : decode cL_law 174 = .ok (.iconst 1, 1) := by decide +kernel
theorem dL_law_175 : decode cL_law 175 = .ok (.iadd, 1) := by decide +kernel
theorem dL_law_176 : decode cL_law 176 = .ok (.iaload, 1) := by decide +kernel
theorem dL_law_177 : decode cL_law 177 = .ok (.aload_n 0, 1) := by decide +kernel
theorem dL_law_178 : decode cL_law 178 = .ok (.iload_n 3, 1) := by decide +kernel
theorem dL_law_179 : decode cL_law 179 = .ok (.iconst 2, 1) := by decide +kernel
theorem dL_law_180 : decode cL_law 180 = .ok (.iadd, 1) := by decide +kernel
theorem dL_law_181 : decode cL_law 181 = .ok (.iaload, 1) := by decide +kernel
theorem dL_law_182 : decode cL_law 182 = .ok (.invokevirtual 18, 3) := by decide +kernel
theorem dL_law_185 : decode cL_law 185 = .ok (.aload_n 2, 1) := by decide +kernel
theorem dL_law_186 : decode cL_law 186 = .ok (.aload_n 0, 1) := by decide +kernel
theorem dL_law_187 : decode cL_law 187 = .ok (.iload_n 3, 1) := by decide +kernel
theorem dL_law_188 : decode cL_law 188 = .ok (.iconst 1, 1) := by decide +kernel
theorem dL_law_189 : decode cL_law 189 = .ok (.iadd, 1) := by decide +kernel
theorem dL_law_190 : decode cL_law 190 = .ok (.iaload, 1) := by decide +kernel
theorem dL_law_191 : decode cL_law 191 = .ok (.aload_n 0, 1) := by decide +kernel
theorem dL_law_192 : decode cL_law 192 = .ok (.iload_n 3, 1) := by decide +kernel
theorem dL_law_193 : decode cL_law 193 = .ok (.iconst 2, 1) := by decide +kernel
theorem dL_law_194 : decode cL_law 194 = .ok (.iadd, 1) := by decide +kernel
theorem dL_law_195 : decode cL_law 195 = .ok (.iaload, 1) := by decide +kernel
theorem dL_law_196 : decode cL_law 196 = .ok (.invokevirtual 22, 3) := by decide +kernel
theorem dL_law_199 : decode cL_law 199 = .ok (.if_icmp .eq 429, 3) := by decide +kernel
theorem dL_law_202 : decode cL_law 202 = .ok (.iconst 0, 1) := by decide +kernel
theorem dL_law_203 : decode cL_law 203 = .ok (.ireturn, 1) := by decide +kernel
theorem dL_law_204 : decode cL_law 204 = .ok (.aload_n 1, 1) := by decide +kernel
theorem dL_law_205 : decode cL_law 205 = .ok (.aload_n 0, 1) := by decide +kernel
theorem dL_law_206 : decode cL_law 206 = .ok (.iload_n 3, 1) := by decide +kernel
theorem dL_law_207 : decode cL_law 207 = .ok (.iconst 1, 1) := by decide +kernel
theorem dL_law_208 : decode cL_law 208 = .ok (.iadd, 1) := by decide +kernel
theorem dL_law_209 : decode cL_law 209 = .ok (.iaload, 1) := by decide +kernel
theorem dL_law_210 : decode cL_law 210 = .ok (.aload_n 0, 1) := by decide +kernel
theorem dL_law_211 : decode cL_law 211 = .ok (.iload_n 3, 1) := by decide +kernel
theorem dL_law_212 : decode cL_law 212 = .ok (.iconst 2, 1) := by decide +kernel
theorem dL_law_213 : decode cL_law 213 = .ok (.iadd, 1) := by decide +kernel
theorem dL_law_214 : decode cL_law 214 = .ok (.iaload, 1) := by decide +kernel
theorem dL_law_215 : decode cL_law 215 = .ok (.invokevirtual 23, 3) := by decide +kernel
theorem dL_law_218 : decode cL_law 218 = .ok (.aload_n 2, 1) := by decide +kernel
theorem dL_law_219 : decode cL_law 219 = .ok (.aload_n 0, 1) := by decide +kernel
theorem dL_law_220 : decode cL_law 220 = .ok (.iload_n 3, 1) := by decide +kernel
theorem dL_law_221 : decode cL_law 221 = .ok (.iconst 1, 1) := by decide +kernel
theorem dL_law_222 : decode cL_law 222 = .ok (.iadd, 1) := by decide +kernel
theorem dL_law_223 : decode cL_law 223 = .ok (.iaload, 1) := by decide +kernel
theorem dL_law_224 : decode cL_law 224 = .ok (.aload_n 0, 1) := by decide +kernel
theorem dL_law_225 : decode cL_law 225 = .ok (.iload_n 3, 1) := by decide +kernel
theorem dL_law_226 : decode cL_law 226 = .ok (.iconst 2, 1) := by decide +kernel
theorem dL_law_227 : decode cL_law 227 = .ok (.iadd, 1) := by decide +kernel
theorem dL_law_228 : decode cL_law 228 = .ok (.iaload, 1) := by decide +kernel
theorem dL_law_229 : decode cL_law 229 = .ok (.invokevirtual 26, 3) := by decide +kernel
theorem dL_law_232 : decode cL_law 232 = .ok (.if_icmp .eq 396, 3) := by decide +kernel
theorem dL_law_235 : decode cL_law 235 = .ok (.iconst 0, 1) := by decide +kernel
theorem dL_law_236 : decode cL_law 236 = .ok (.ireturn, 1) := by decide +kernel
theorem dL_law_237 : decode cL_law 237 = .ok (.aload_n 1, 1) := by decide +kernel
theorem dL_law_238 : decode cL_law 238 = .ok (.aload_n 0, 1) := by decide +kernel
theorem dL_law_239 : decode cL_law 239 = .ok (.iload_n 3, 1) := by decide +kernel
theorem dL_law_240 : decode cL_law 240 = .ok (.iconst 1, 1) := by decide +kernel
theorem dL_law_241 : decode cL_law 241 = .ok (.iadd, 1) := by decide +kernel
theorem dL_law_242 : decode cL_law 242 = .ok (.iaload, 1) := by decide +kernel
theorem dL_law_243 : decode cL_law 243 = .ok (.aload_n 0, 1) := by decide +kernel
theorem dL_law_244 : decode cL_law 244 = .ok (.iload_n 3, 1) := by decide +kernel
theorem dL_law_245 : decode cL_law 245 = .ok (.iconst 2, 1) := by decide +kernel
theorem dL_law_246 : decode cL_law 246 = .ok (.iadd, 1) := by decide +kernel
theorem dL_law_247 : decode cL_law 247 = .ok (.iaload, 1) := by decide +kernel
theorem dL_law_248 : decode cL_law 248 = .ok (.invokevirtual 27, 3) := by decide +kernel
theorem dL_law_251 : decode cL_law 251 = .ok (.aload_n 2, 1) := by decide +kernel
theorem dL_law_252 : decode cL_law 252 = .ok (.aload_n 0, 1) := by decide +kernel
theorem dL_law_253 : decode cL_law 253 = .ok (.iload_n 3, 1) := by decide +kernel
theorem dL_law_254 : decode cL_law 254 = .ok (.iconst 1, 1) := by decide +kernel
theorem dL_law_255 : decode cL_law 255 = .ok (.iadd, 1) := by decide +kernel
theorem dL_law_256 : decode cL_law 256 = .ok (.iaload, 1) := by decide +kernel
theorem dL_law_257 : decode cL_law 257 = .ok (.aload_n 0, 1) := by decide +kernel
theorem dL_law_258 : decode cL_law 258 = .ok (.iload_n 3, 1) := by decide +kernel
theorem dL_law_259 : decode cL_law 259 = .ok (.iconst 2, 1) := by decide +kernel
theorem dL_law_260 : decode cL_law 260 = .ok (.iadd, 1) := by decide +kernel
theorem dL_law_261 : decode cL_law 261 = .ok (.iaload, 1) := by decide +kernel
theorem dL_law_262 : decode cL_law 262 = .ok (.invokevirtual 30, 3) := by decide +kernel
theorem dL_law_265 : decode cL_law 265 = .ok (.if_icmp .eq 363, 3) := by decide +kernel
theorem dL_law_268 : decode cL_law 268 = .ok (.iconst 0, 1) := by decide +kernel
theorem dL_law_269 : decode cL_law 269 = .ok (.ireturn, 1) := by decide +kernel
theorem dL_law_270 : decode cL_law 270 = .ok (.aload_n 1, 1) := by decide +kernel
theorem dL_law_271 : decode cL_law 271 = .ok (.aload_n 0, 1) := by decide +kernel
theorem dL_law_272 : decode cL_law 272 = .ok (.iload_n 3, 1) := by decide +kernel
theorem dL_law_273 : decode cL_law 273 = .ok (.iconst 1, 1) := by decide +kernel
theorem dL_law_274 : decode cL_law 274 = .ok (.iadd, 1) := by decide +kernel
theorem dL_law_275 : decode cL_law 275 = .ok (.iaload, 1) := by decide +kernel
theorem dL_law_276 : decode cL_law 276 = .ok (.aload_n 0, 1) := by decide +kernel
theorem dL_law_277 : decode cL_law 277 = .ok (.iload_n 3, 1) := by decide +kernel
theorem dL_law_278 : decode cL_law 278 = .ok (.iconst 2, 1) := by decide +kernel
theorem dL_law_279 : decode cL_law 279 = .ok (.iadd, 1) := by decide +kernel
theorem dL_law_280 : decode cL_law 280 = .ok (.iaload, 1) := by decide +kernel
theorem dL_law_281 : decode cL_law 281 = .ok (.invokevirtual 31, 3) := by decide +kernel
theorem dL_law_284 : decode cL_law 284 = .ok (.aload_n 2, 1) := by decide +kernel
theorem dL_law_285 : decode cL_law 285 = .ok (.aload_n 0, 1) := by decide +kernel
theorem dL_law_286 : decode cL_law 286 = .ok (.iload_n 3, 1) := by decide +kernel
theorem dL_law_287 : decode cL_law 287 = .ok (.iconst 1, 1) := by decide +kernel
theorem dL_law_288 : decode cL_law 288 = .ok (.iadd, 1) := by decide +kernel
theorem dL_law_289 : decode cL_law 289 = .ok (.iaload, 1) := by decide +kernel
theorem dL_law_290 : decode cL_law 290 = .ok (.aload_n 0, 1) := by decide +kernel
theorem dL_law_291 : decode cL_law 291 = .ok (.iload_n 3, 1) := by decide +kernel
theorem dL_law_292 : decode cL_law 292 = .ok (.iconst 2, 1) := by decide +kernel
theorem dL_law_293 : decode cL_law 293 = .ok (.iadd, 1) := by decide +kernel
theorem dL_law_294 : decode cL_law 294 = .ok (.iaload, 1) := by decide +kernel
theorem dL_law_295 : decode cL_law 295 = .ok (.invokevirtual 34, 3) := by decide +kernel
theorem dL_law_298 : decode cL_law 298 = .ok (.if_icmp .eq 330, 3) := by decide +kernel
theorem dL_law_301 : decode cL_law 301 = .ok (.iconst 0, 1) := by decide +kernel
theorem dL_law_302 : decode cL_law 302 = .ok (.ireturn, 1) := by decide +kernel
theorem dL_law_303 : decode cL_law 303 = .ok (.aload_n 1, 1) := by decide +kernel
theorem dL_law_304 : decode cL_law 304 = .ok (.aload_n 0, 1) := by decide +kernel
theorem dL_law_305 : decode cL_law 305 = .ok (.iload_n 3, 1) := by decide +kernel
theorem dL_law_306 : decode cL_law 306 = .ok (.iconst 1, 1) := by decide +kernel
theorem dL_law_307 : decode cL_law 307 = .ok (.iadd, 1) := by decide +kernel
theorem dL_law_308 : decode cL_law 308 = .ok (.iaload, 1) := by decide +kernel
theorem dL_law_309 : decode cL_law 309 = .ok (.invokevirtual 35, 3) := by decide +kernel
theorem dL_law_312 : decode cL_law 312 = .ok (.aload_n 2, 1) := by decide +kernel
theorem dL_law_313 : decode cL_law 313 = .ok (.aload_n 0, 1) := by decide +kernel
theorem dL_law_314 : decode cL_law 314 = .ok (.iload_n 3, 1) := by decide +kernel
theorem dL_law_315 : decode cL_law 315 = .ok (.iconst 1, 1) := by decide +kernel
theorem dL_law_316 : decode cL_law 316 = .ok (.iadd, 1) := by decide +kernel
theorem dL_law_317 : decode cL_law 317 = .ok (.iaload, 1) := by decide +kernel
theorem dL_law_318 : decode cL_law 318 = .ok (.invokevirtual 39, 3) := by decide +kernel
theorem dL_law_321 : decode cL_law 321 = .ok (.if_icmp .eq 307, 3) := by decide +kernel
theorem dL_law_324 : decode cL_law 324 = .ok (.iconst 0, 1) := by decide +kernel
theorem dL_law_325 : decode cL_law 325 = .ok (.ireturn, 1) := by decide +kernel
theorem dL_law_326 : decode cL_law 326 = .ok (.aload_n 1, 1) := by decide +kernel
theorem dL_law_327 : decode cL_law 327 = .ok (.aload_n 0, 1) := by decide +kernel
theorem dL_law_328 : decode cL_law 328 = .ok (.iload_n 3, 1) := by decide +kernel
theorem dL_law_329 : decode cL_law 329 = .ok (.iconst 1, 1) := by decide +kernel
theorem dL_law_330 : decode cL_law 330 = .ok (.iadd, 1) := by decide +kernel
theorem dL_law_331 : decode cL_law 331 = .ok (.iaload, 1) := by decide +kernel
theorem dL_law_332 : decode cL_law 332 = .ok (.invokevirtual 40, 3) := by decide +kernel
theorem dL_law_335 : decode cL_law 335 = .ok (.aload_n 2, 1) := by decide +kernel
theorem dL_law_336 : decode cL_law 336 = .ok (.aload_n 0, 1) := by decide +kernel
theorem dL_law_337 : decode cL_law 337 = .ok (.iload_n 3, 1) := by decide +kernel
theorem dL_law_338 : decode cL_law 338 = .ok (.iconst 1, 1) := by decide +kernel
theorem dL_law_339 : decode cL_law 339 = .ok (.iadd, 1) := by decide +kernel
theorem dL_law_340 : decode cL_law 340 = .ok (.iaload, 1) := by decide +kernel
theorem dL_law_341 : decode cL_law 341 = .ok (.invokevirtual 43, 3) := by decide +kernel
theorem dL_law_344 : decode cL_law 344 = .ok (.if_icmp .eq 284, 3) := by decide +kernel
theorem dL_law_347 : decode cL_law 347 = .ok (.iconst 0, 1) := by decide +kernel
theorem dL_law_348 : decode cL_law 348 = .ok (.ireturn, 1) := by decide +kernel
theorem dL_law_349 : decode cL_law 349 = .ok (.aload_n 1, 1) := by decide +kernel
theorem dL_law_350 : decode cL_law 350 = .ok (.invokevirtual 44, 3) := by decide +kernel
end
section
theorem dL_law_353 : decode cL_law 353 = .ok (.aload_n 2, 1) := by decide +kernel
theorem dL_law_354 : decode cL_law 354 = .ok (.invokevirtual 48, 3) := by decide +kernel
theorem dL_law_357 : decode cL_law 357 = .ok (.if_icmp .eq 271, 3) := by decide +kernel
theorem dL_law_360 : decode cL_law 360 = .ok (.iconst 0, 1) := by decide +kernel
theorem dL_law_361 : decode cL_law 361 = .ok (.ireturn, 1) := by decide +kernel
theorem dL_law_362 : decode cL_law 362 = .ok (.aload_n 1, 1) := by decide +kernel
theorem dL_law_363 : decode cL_law 363 = .ok (.aload_n 0, 1) := by decide +kernel
theorem dL_law_364 : decode cL_law 364 = .ok (.iload_n 3, 1) := by decide +kernel
theorem dL_law_365 : decode cL_law 365 = .ok (.iconst 1, 1) := by decide +kernel
theorem dL_law_366 : decode cL_law 366 = .ok (.iadd, 1) := by decide +kernel
theorem dL_law_367 : decode cL_law 367 = .ok (.iaload, 1) := by decide +kernel
theorem dL_law_368 : decode cL_law 368 = .ok (.invokevirtual 49, 3) := by decide +kernel
theorem dL_law_371 : decode cL_law 371 = .ok (.aload_n 2, 1) := by decide +kernel
theorem dL_law_372 : decode cL_law 372 = .ok (.aload_n 0, 1) := by decide +kernel
theorem dL_law_373 : decode cL_law 373 = .ok (.iload_n 3, 1) := by decide +kernel
theorem dL_law_374 : decode cL_law 374 = .ok (.iconst 1, 1) := by decide +kernel
theorem dL_law_375 : decode cL_law 375 = .ok (.iadd, 1) := by decide +kernel
theorem dL_law_376 : decode cL_law 376 = .ok (.iaload, 1) := by decide +kernel
theorem dL_law_377 : decode cL_law 377 = .ok (.invokevirtual 52, 3) := by decide +kernel
theorem dL_law_380 : decode cL_law 380 = .ok (.if_icmp .eq 248, 3) := by decide +kernel
theorem dL_law_383 : decode cL_law 383 = .ok (.iconst 0, 1) := by decide +kernel
theorem dL_law_384 : decode cL_law 384 = .ok (.ireturn, 1) := by decide +kernel
theorem dL_law_385 : decode cL_law 385 = .ok (.aload_n 1, 1) := by decide +kernel
theorem dL_law_386 : decode cL_law 386 = .ok (.aload_n 0, 1) := by decide +kernel
theorem dL_law_387 : decode cL_law 387 = .ok (.iload_n 3, 1) := by decide +kernel
theorem dL_law_388 : decode cL_law 388 = .ok (.iconst 1, 1) := by decide +kernel
theorem dL_law_389 : decode cL_law 389 = .ok (.iadd, 1) := by decide +kernel
theorem dL_law_390 : decode cL_law 390 = .ok (.iaload, 1) := by decide +kernel
theorem dL_law_391 : decode cL_law 391 = .ok (.invokevirtual 53, 3) := by decide +kernel
theorem dL_law_394 : decode cL_law 394 = .ok (.aload_n 2, 1) := by decide +kernel
theorem dL_law_395 : decode cL_law 395 = .ok (.aload_n 0, 1) := by decide +kernel
theorem dL_law_396 : decode cL_law 396 = .ok (.iload_n 3, 1) := by decide +kernel
theorem dL_law_397 : decode cL_law 397 = .ok (.iconst 1, 1) := by decide +kernel
theorem dL_law_398 : decode cL_law 398 = .ok (.iadd, 1) := by decide +kernel
theorem dL_law_399 : decode cL_law 399 = .ok (.iaload, 1) := by decide +kernel
theorem dL_law_400 : decode cL_law 400 = .ok (.invokevirtual 56, 3) := by decide +kernel
theorem dL_law_403 : decode cL_law 403 = .ok (.if_icmp .eq 225, 3) := by decide +kernel
theorem dL_law_406 : decode cL_law 406 = .ok (.iconst 0, 1) := by decide +kernel
theorem dL_law_407 : decode cL_law 407 = .ok (.ireturn, 1) := by decide +kernel
theorem dL_law_408 : decode cL_law 408 = .ok (.aload_n 1, 1) := by decide +kernel
theorem dL_law_409 : decode cL_law 409 = .ok (.aload_n 0, 1) := by decide +kernel
theorem dL_law_410 : decode cL_law 410 = .ok (.iload_n 3, 1) := by decide +kernel
theorem dL_law_411 : decode cL_law 411 = .ok (.iconst 1, 1) := by decide +kernel
theorem dL_law_412 : decode cL_law 412 = .ok (.iadd, 1) := by decide +kernel
theorem dL_law_413 : decode cL_law 413 = .ok (.iaload, 1) := by decide +kernel
theorem dL_law_414 : decode cL_law 414 = .ok (.invokevirtual 57, 3) := by decide +kernel
theorem dL_law_417 : decode cL_law 417 = .ok (.aload_n 2, 1) := by decide +kernel
theorem dL_law_418 : decode cL_law 418 = .ok (.aload_n 0, 1) := by decide +kernel
theorem dL_law_419 : decode cL_law 419 = .ok (.iload_n 3, 1) := by decide +kernel
theorem dL_law_420 : decode cL_law 420 = .ok (.iconst 1, 1) := by decide +kernel
theorem dL_law_421 : decode cL_law 421 = .ok (.iadd, 1) := by decide +kernel
theorem dL_law_422 : decode cL_law 422 = .ok (.iaload, 1) := by decide +kernel
theorem dL_law_423 : decode cL_law 423 = .ok (.invokevirtual 60, 3) := by decide +kernel
theorem dL_law_426 : decode cL_law 426 = .ok (.if_icmp .eq 202, 3) := by decide +kernel
theorem dL_law_429 : decode cL_law 429 = .ok (.iconst 0, 1) := by decide +kernel
theorem dL_law_430 : decode cL_law 430 = .ok (.ireturn, 1) := by decide +kernel
theorem dL_law_431 : decode cL_law 431 = .ok (.aload_n 1, 1) := by decide +kernel
theorem dL_law_432 : decode cL_law 432 = .ok (.aload_n 0, 1) := by decide +kernel
theorem dL_law_433 : decode cL_law 433 = .ok (.iload_n 3, 1) := by decide +kernel
theorem dL_law_434 : decode cL_law 434 = .ok (.iconst 1, 1) := by decide +kernel
theorem dL_law_435 : decode cL_law 435 = .ok (.iadd, 1) := by decide +kernel
theorem dL_law_436 : decode cL_law 436 = .ok (.iaload, 1) := by decide +kernel
theorem dL_law_437 : decode cL_law 437 = .ok (.invokevirtual 61, 3) := by decide +kernel
theorem dL_law_440 : decode cL_law 440 = .ok (.aload_n 2, 1) := by decide +kernel
theorem dL_law_441 : decode cL_law 441 = .ok (.aload_n 0, 1) := by decide +kernel
theorem dL_law_442 : decode cL_law 442 = .ok (.iload_n 3, 1) := by decide +kernel
theorem dL_law_443 : decode cL_law 443 = .ok (.iconst 1, 1) := by decide +kernel
theorem dL_law_444 : decode cL_law 444 = .ok (.iadd, 1) := by decide +kernel
theorem dL_law_445 : decode cL_law 445 = .ok (.iaload, 1) := by decide +kernel
theorem dL_law_446 : decode cL_law 446 = .ok (.invokevirtual 64, 3) := by decide +kernel
theorem dL_law_449 : decode cL_law 449 = .ok (.if_icmp .eq 179, 3) := by decide +kernel
theorem dL_law_452 : decode cL_law 452 = .ok (.iconst 0, 1) := by decide +kernel
theorem dL_law_453 : decode cL_law 453 = .ok (.ireturn, 1) := by decide +kernel
theorem dL_law_454 : decode cL_law 454 = .ok (.aload_n 1, 1) := by decide +kernel
theorem dL_law_455 : decode cL_law 455 = .ok (.aload_n 0, 1) := by decide +kernel
theorem dL_law_456 : decode cL_law 456 = .ok (.iload_n 3, 1) := by decide +kernel
theorem dL_law_457 : decode cL_law 457 = .ok (.iconst 1, 1) := by decide +kernel
theorem dL_law_458 : decode cL_law 458 = .ok (.iadd, 1) := by decide +kernel
theorem dL_law_459 : decode cL_law 459 = .ok (.iaload, 1) := by decide +kernel
theorem dL_law_460 : decode cL_law 460 = .ok (.invokevirtual 65, 3) := by decide +kernel
theorem dL_law_463 : decode cL_law 463 = .ok (.aload_n 2, 1) := by decide +kernel
theorem dL_law_464 : decode cL_law 464 = .ok (.aload_n 0, 1) := by decide +kernel
theorem dL_law_465 : decode cL_law 465 = .ok (.iload_n 3, 1) := by decide +kernel
theorem dL_law_466 : decode cL_law 466 = .ok (.iconst 1, 1) := by decide +kernel
theorem dL_law_467 : decode cL_law 467 = .ok (.iadd, 1) := by decide +kernel
theorem dL_law_468 : decode cL_law 468 = .ok (.iaload, 1) := by decide +kernel
theorem dL_law_469 : decode cL_law 469 = .ok (.invokevirtual 68, 3) := by decide +kernel
theorem dL_law_472 : decode cL_law 472 = .ok (.if_icmp .eq 156, 3) := by decide +kernel
theorem dL_law_475 : decode cL_law 475 = .ok (.iconst 0, 1) := by decide +kernel
theorem dL_law_476 : decode cL_law 476 = .ok (.ireturn, 1) := by decide +kernel
theorem dL_law_477 : decode cL_law 477 = .ok (.aload_n 1, 1) := by decide +kernel
theorem dL_law_478 : decode cL_law 478 = .ok (.invokevirtual 69, 3) := by decide +kernel
theorem dL_law_481 : decode cL_law 481 = .ok (.aload_n 2, 1) := by decide +kernel
theorem dL_law_482 : decode cL_law 482 = .ok (.invokevirtual 72, 3) := by decide +kernel
theorem dL_law_485 : decode cL_law 485 = .ok (.if_icmp .eq 143, 3) := by decide +kernel
theorem dL_law_488 : decode cL_law 488 = .ok (.iconst 0, 1) := by decide +kernel
theorem dL_law_489 : decode cL_law 489 = .ok (.ireturn, 1) := by decide +kernel
theorem dL_law_490 : decode cL_law 490 = .ok (.aload_n 1, 1) := by decide +kernel
theorem dL_law_491 : decode cL_law 491 = .ok (.aload_n 0, 1) := by decide +kernel
theorem dL_law_492 : decode cL_law 492 = .ok (.iload_n 3, 1) := by decide +kernel
theorem dL_law_493 : decode cL_law 493 = .ok (.iconst 1, 1) := by decide +kernel
theorem dL_law_494 : decode cL_law 494 = .ok (.iadd, 1) := by decide +kernel
theorem dL_law_495 : decode cL_law 495 = .ok (.iaload, 1) := by decide +kernel
theorem dL_law_496 : decode cL_law 496 = .ok (.invokevirtual 73, 3) := by decide +kernel
theorem dL_law_499 : decode cL_law 499 = .ok (.aload_n 2, 1) := by decide +kernel
theorem dL_law_500 : decode cL_law 500 = .ok (.aload_n 0, 1) := by decide +kernel
theorem dL_law_501 : decode cL_law 501 = .ok (.iload_n 3, 1) := by decide +kernel
theorem dL_law_502 : decode cL_law 502 = .ok (.iconst 1, 1) := by decide +kernel
theorem dL_law_503 : decode cL_law 503 = .ok (.iadd, 1) := by decide +kernel
theorem dL_law_504 : decode cL_law 504 = .ok (.iaload, 1) := by decide +kernel
theorem dL_law_505 : decode cL_law 505 = .ok (.invokevirtual 76, 3) := by decide +kernel
theorem dL_law_508 : decode cL_law 508 = .ok (.if_icmp .eq 120, 3) := by decide +kernel
theorem dL_law_511 : decode cL_law 511 = .ok (.iconst 0, 1) := by decide +kernel
theorem dL_law_512 : decode cL_law 512 = .ok (.ireturn, 1) := by decide +kernel
theorem dL_law_513 : decode cL_law 513 = .ok (.aload_n 1, 1) := by decide +kernel
theorem dL_law_514 : decode cL_law 514 = .ok (.aload_n 0, 1) := by decide +kernel
theorem dL_law_515 : decode cL_law 515 = .ok (.iload_n 3, 1) := by decide +kernel
theorem dL_law_516 : decode cL_law 516 = .ok (.iconst 1, 1) := by decide +kernel
theorem dL_law_517 : decode cL_law 517 = .ok (.iadd, 1) := by decide +kernel
theorem dL_law_518 : decode cL_law 518 = .ok (.iaload, 1) := by decide +kernel
theorem dL_law_519 : decode cL_law 519 = .ok (.invokevirtual 77, 3) := by decide +kernel
theorem dL_law_522 : decode cL_law 522 = .ok (.aload_n 2, 1) := by decide +kernel
theorem dL_law_523 : decode cL_law 523 = .ok (.aload_n 0, 1) := by decide +kernel
theorem dL_law_524 : decode cL_law 524 = .ok (.iload_n 3, 1) := by decide +kernel
theorem dL_law_525 : decode cL_law 525 = .ok (.iconst 1, 1) := by decide +kernel
theorem dL_law_526 : decode cL_law 526 = .ok (.iadd, 1) := by decide +kernel
theorem dL_law_527 : decode cL_law 527 = .ok (.iaload, 1) := by decide +kernel
theorem dL_law_528 : decode cL_law 528 = .ok (.invokevirtual 80, 3) := by decide +kernel
theorem dL_law_531 : decode cL_law 531 = .ok (.if_icmp .eq 97, 3) := by decide +kernel
theorem dL_law_534 : decode cL_law 534 = .ok (.iconst 0, 1) := by decide +kernel
theorem dL_law_535 : decode cL_law 535 = .ok (.ireturn, 1) := by decide +kernel
theorem dL_law_536 : decode cL_law 536 = .ok (.aload_n 1, 1) := by decide +kernel
theorem dL_law_537 : decode cL_law 537 = .ok (.aload_n 0, 1) := by decide +kernel
theorem dL_law_538 : decode cL_law 538 = .ok (.iload_n 3, 1) := by decide +kernel
theorem dL_law_539 : decode cL_law 539 = .ok (.iconst 1, 1) := by decide +kernel
theorem dL_law_540 : decode cL_law 540 = .ok (.iadd, 1) := by decide +kernel
theorem dL_law_541 : decode cL_law 541 = .ok (.iaload, 1) := by decide +kernel
theorem dL_law_542 : decode cL_law 542 = .ok (.invokevirtual 81, 3) := by decide +kernel
theorem dL_law_545 : decode cL_law 545 = .ok (.aload_n 2, 1) := by decide +kernel
theorem dL_law_546 : decode cL_law 546 = .ok (.aload_n 0, 1) := by decide +kernel
theorem dL_law_547 : decode cL_law 547 = .ok (.iload_n 3, 1) := by decide +kernel
theorem dL_law_548 : decode cL_law 548 = .ok (.iconst 1, 1) := by decide +kernel
theorem dL_law_549 : decode cL_law 549 = .ok (.iadd, 1) := by decide +kernel
theorem dL_law_550 : decode cL_law 550 = .ok (.iaload, 1) := by decide +kernel
theorem dL_law_551 : decode cL_law 551 = .ok (.invokevirtual 84, 3) := by decide +kernel
theorem dL_law_554 : decode cL_law 554 = .ok (.if_icmp .eq 74, 3) := by decide +kernel
theorem dL_law_557 : decode cL_law 557 = .ok (.iconst 0, 1) := by decide +kernel
theorem dL_law_558 : decode cL_law 558 = .ok (.ireturn, 1) := by decide +kernel
theorem dL_law_559 : decode cL_law 559 = .ok (.aload_n 1, 1) := by decide +kernel
theorem dL_law_560 : decode cL_law 560 = .ok (.aload_n 0, 1) := by decide +kernel
theorem dL_law_561 : decode cL_law 561 = .ok (.iload_n 3, 1) := by decide +kernel
theorem dL_law_562 : decode cL_law 562 = .ok (.iconst 1, 1) := by decide +kernel
theorem dL_law_563 : decode cL_law 563 = .ok (.iadd, 1) := by decide +kernel
theorem dL_law_564 : decode cL_law 564 = .ok (.iaload, 1) := by decide +kernel
theorem dL_law_565 : decode cL_law 565 = .ok (.invokevirtual 85, 3) := by decide +kernel
theorem dL_law_568 : decode cL_law 568 = .ok (.aload_n 2, 1) := by decide +kernel
theorem dL_law_569 : decode cL_law 569 = .ok (.aload_n 0, 1) := by decide +kernel
theorem dL_law_570 : decode cL_law 570 = .ok (.iload_n 3, 1) := by decide +kernel
theorem dL_law_571 : decode cL_law 571 = .ok (.iconst 1, 1) := by decide +kernel
theorem dL_law_572 : decode cL_law 572 = .ok (.iadd, 1) := by decide +kernel
theorem dL_law_573 : decode cL_law 573 = .ok (.iaload, 1) := by decide +kernel
theorem dL_law_574 : decode cL_law 574 = .ok (.invokevirtual 88, 3) := by decide +kernel
theorem dL_law_577 : decode cL_law 577 = .ok (.if_icmp .eq 51, 3) := by decide +kernel
theorem dL_law_580 : decode cL_law 580 = .ok (.iconst 0, 1) := by decide +kernel
theorem dL_law_581 : decode cL_law 581 = .ok (.ireturn, 1) := by decide +kernel
theorem dL_law_582 : decode cL_law 582 = .ok (.aload_n 1, 1) := by decide +kernel
theorem dL_law_583 : decode cL_law 583 = .ok (.aload_n 0, 1) := by decide +kernel
theorem dL_law_584 : decode cL_law 584 = .ok (.iload_n 3, 1) := by decide +kernel
theorem dL_law_585 : decode cL_law 585 = .ok (.iconst 1, 1) := by decide +kernel
theorem dL_law_586 : decode cL_law 586 = .ok (.iadd, 1) := by decide +kernel
theorem dL_law_587 : decode cL_law 587 = .ok (.iaload, 1) := by decide +kernel
theorem dL_law_588 : decode cL_law 588 = .ok (.invokevirtual 89, 3) := by decide +kernel
theorem dL_law_591 : decode cL_law 591 = .ok (.aload_n 2, 1) := by decide +kernel
theorem dL_law_592 : decode cL_law 592 = .ok (.aload_n 0, 1) := by decide +kernel
theorem dL_law_593 : decode cL_law 593 = .ok (.iload_n 3, 1) := by decide +kernel
theorem dL_law_594 : decode cL_law 594 = .ok (.iconst 1, 1) := by decide +kernel
theorem dL_law_595 : decode cL_law 595 = .ok (.iadd, 1) := by decide +kernel
theorem dL_law_596 : decode cL_law 596 = .ok (.iaload, 1) := by decide +kernel
theorem dL_law_597 : decode cL_law 597 = .ok (.invokevirtual 92, 3) := by decide +kernel
theorem dL_law_600 : decode cL_law 600 = .ok (.if_icmp .eq 28, 3) := by decide +kernel
theorem dL_law_603 : decode cL_law 603 = .ok (.iconst 0, 1) := by decide +kernel
theorem dL_law_604 : decode cL_law 604 = .ok (.ireturn, 1) := by decide +kernel
theorem dL_law_605 : decode cL_law 605 = .ok (.aload_n 1, 1) := by decide +kernel
theorem dL_law_606 : decode cL_law 606 = .ok (.aload_n 0, 1) := by decide +kernel
theorem dL_law_607 : decode cL_law 607 = .ok (.iload_n 3, 1) := by decide +kernel
theorem dL_law_608 : decode cL_law 608 = .ok (.iconst 1, 1) := by decide +kernel
theorem dL_law_609 : decode cL_law 609 = .ok (.iadd, 1) := by decide +kernel
theorem dL_law_610 : decode cL_law 610 = .ok (.iaload, 1) := by decide +kernel
theorem dL_law_611 : decode cL_law 611 = .ok (.invokevirtual 93, 3) := by decide +kernel
theorem dL_law_614 : decode cL_law 614 = .ok (.aload_n 2, 1) := by decide +kernel
theorem dL_law_615 : decode cL_law 615 = .ok (.aload_n 0, 1) := by decide +kernel
theorem dL_law_616 : decode cL_law 616 = .ok (.iload_n 3, 1) := by decide +kernel
theorem dL_law_617 : decode cL_law 617 = .ok (.iconst 1, 1) := by decide +kernel
theorem dL_law_618 : decode cL_law 618 = .ok (.iadd, 1) := by decide +kernel
theorem dL_law_619 : decode cL_law 619 = .ok (.iaload, 1) := by decide +kernel
theorem dL_law_620 : decode cL_law 620 = .ok (.invokevirtual 96, 3) := by decide +kernel
theorem dL_law_623 : decode cL_law 623 = .ok (.if_icmp .eq 5, 3) := by decide +kernel
theorem dL_law_626 : decode cL_law 626 = .ok (.iconst 0, 1) := by decide +kernel
theorem dL_law_627 : decode cL_law 627 = .ok (.ireturn, 1) := by decide +kernel
theorem dL_law_628 : decode cL_law 628 = .ok (.iinc 3 4, 3) := by decide +kernel
theorem dL_law_631 : decode cL_law 631 = .ok (.goto (-613), 3) := by decide +kernel
theorem dL_law_634 : decode cL_law 634 = .ok (.iconst 1, 1) := by decide +kernel
theorem dL_law_635 : decode cL_law 635 = .ok (.ireturn, 1) := by decide +kernel
end
