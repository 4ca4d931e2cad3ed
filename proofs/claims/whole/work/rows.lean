section
-- ===== PART A: goes FIRST, ahead of the names: the tables' words, and 'selects' of the private methods out of them =====
/-- a private method of a class that the tables say can be made, by its rows of tables_1 -/
def lw_okq (q : MethodName × Nat) : Prop := (q.1.cls ≠ "java/lang/invoke/MethodHandle" ∧ q.1.cls ≠ "java/lang/invoke/VarHandle") ∧ Cond.instantiable q.1.cls q.2 ∈ tables_1 ∧ Cond.privateMethod q.1 ∈ tables_1 ∧ Cond.instanceMethod q.1 ∈ tables_1
theorem lw_p0 : lw_okq (⟨"FirstOut", "beginAnew", "()V"⟩, 10) := ⟨⟨by decide +kernel, by decide +kernel⟩, List.mem_of_getElem? (i := 11) (by decide +kernel), List.mem_of_getElem? (i := 255) (by decide +kernel), List.mem_of_getElem? (i := 256) (by decide +kernel)⟩
theorem lw_p1 : lw_okq (⟨"FirstOut", "coveredNow", "()I"⟩, 10) := ⟨⟨by decide +kernel, by decide +kernel⟩, List.mem_of_getElem? (i := 11) (by decide +kernel), List.mem_of_getElem? (i := 270) (by decide +kernel), List.mem_of_getElem? (i := 271) (by decide +kernel)⟩
theorem lw_p2 : lw_okq (⟨"FirstOut", "ableNow", "()I"⟩, 10) := ⟨⟨by decide +kernel, by decide +kernel⟩, List.mem_of_getElem? (i := 11) (by decide +kernel), List.mem_of_getElem? (i := 282) (by decide +kernel), List.mem_of_getElem? (i := 283) (by decide +kernel)⟩
theorem lw_p3 : lw_okq (⟨"FirstOut", "passDay", "(LFirstOut$Standing;I)I"⟩, 10) := ⟨⟨by decide +kernel, by decide +kernel⟩, List.mem_of_getElem? (i := 11) (by decide +kernel), List.mem_of_getElem? (i := 347) (by decide +kernel), List.mem_of_getElem? (i := 348) (by decide +kernel)⟩
theorem lw_p4 : lw_okq (⟨"FirstOut", "leastHarmful", "(I)I"⟩, 10) := ⟨⟨by decide +kernel, by decide +kernel⟩, List.mem_of_getElem? (i := 11) (by decide +kernel), List.mem_of_getElem? (i := 431) (by decide +kernel), List.mem_of_getElem? (i := 432) (by decide +kernel)⟩
theorem lw_p5 : lw_okq (⟨"FirstOut", "rateAsCalf", "(I)I"⟩, 10) := ⟨⟨by decide +kernel, by decide +kernel⟩, List.mem_of_getElem? (i := 11) (by decide +kernel), List.mem_of_getElem? (i := 481) (by decide +kernel), List.mem_of_getElem? (i := 482) (by decide +kernel)⟩
theorem lw_p6 : lw_okq (⟨"FirstOut", "rateAsThing", "(I)I"⟩, 10) := ⟨⟨by decide +kernel, by decide +kernel⟩, List.mem_of_getElem? (i := 11) (by decide +kernel), List.mem_of_getElem? (i := 486) (by decide +kernel), List.mem_of_getElem? (i := 487) (by decide +kernel)⟩
theorem lw_p7 : lw_okq (⟨"FirstOut", "rateAsChild", "(I)I"⟩, 10) := ⟨⟨by decide +kernel, by decide +kernel⟩, List.mem_of_getElem? (i := 11) (by decide +kernel), List.mem_of_getElem? (i := 490) (by decide +kernel), List.mem_of_getElem? (i := 491) (by decide +kernel)⟩
theorem lw_p8 : lw_okq (⟨"FirstOut", "rateAsDog", "(I)I"⟩, 10) := ⟨⟨by decide +kernel, by decide +kernel⟩, List.mem_of_getElem? (i := 11) (by decide +kernel), List.mem_of_getElem? (i := 495) (by decide +kernel), List.mem_of_getElem? (i := 496) (by decide +kernel)⟩
theorem lw_p9 : lw_okq (⟨"FirstOut", "rateAsDrum", "(I)I"⟩, 10) := ⟨⟨by decide +kernel, by decide +kernel⟩, List.mem_of_getElem? (i := 11) (by decide +kernel), List.mem_of_getElem? (i := 500) (by decide +kernel), List.mem_of_getElem? (i := 501) (by decide +kernel)⟩
theorem lw_p10 : lw_okq (⟨"FirstOut", "rateAsPriest", "(I)I"⟩, 10) := ⟨⟨by decide +kernel, by decide +kernel⟩, List.mem_of_getElem? (i := 11) (by decide +kernel), List.mem_of_getElem? (i := 505) (by decide +kernel), List.mem_of_getElem? (i := 506) (by decide +kernel)⟩
theorem lw_p11 : lw_okq (⟨"FirstOutModel", "begins", "()V"⟩, 26) := ⟨⟨by decide +kernel, by decide +kernel⟩, List.mem_of_getElem? (i := 526) (by decide +kernel), List.mem_of_getElem? (i := 532) (by decide +kernel), List.mem_of_getElem? (i := 533) (by decide +kernel)⟩
theorem lw_p12 : lw_okq (⟨"FirstOutModel", "settles", "()V"⟩, 26) := ⟨⟨by decide +kernel, by decide +kernel⟩, List.mem_of_getElem? (i := 526) (by decide +kernel), List.mem_of_getElem? (i := 536) (by decide +kernel), List.mem_of_getElem? (i := 537) (by decide +kernel)⟩
theorem lw_p13 : lw_okq (⟨"FirstOutModel", "advances", "()V"⟩, 26) := ⟨⟨by decide +kernel, by decide +kernel⟩, List.mem_of_getElem? (i := 526) (by decide +kernel), List.mem_of_getElem? (i := 634) (by decide +kernel), List.mem_of_getElem? (i := 635) (by decide +kernel)⟩
theorem lw_p14 : lw_okq (⟨"FirstOutModel", "letterAt", "(I)I"⟩, 26) := ⟨⟨by decide +kernel, by decide +kernel⟩, List.mem_of_getElem? (i := 526) (by decide +kernel), List.mem_of_getElem? (i := 638) (by decide +kernel), List.mem_of_getElem? (i := 639) (by decide +kernel)⟩
theorem lw_p15 : lw_okq (⟨"FirstOutModel", "isWell", "()Z"⟩, 26) := ⟨⟨by decide +kernel, by decide +kernel⟩, List.mem_of_getElem? (i := 526) (by decide +kernel), List.mem_of_getElem? (i := 642) (by decide +kernel), List.mem_of_getElem? (i := 643) (by decide +kernel)⟩
def lw_privs_1 : List (MethodName × Nat) := [(⟨"FirstOut", "beginAnew", "()V"⟩, 10), (⟨"FirstOut", "coveredNow", "()I"⟩, 10), (⟨"FirstOut", "ableNow", "()I"⟩, 10), (⟨"FirstOut", "passDay", "(LFirstOut$Standing;I)I"⟩, 10), (⟨"FirstOut", "leastHarmful", "(I)I"⟩, 10), (⟨"FirstOut", "rateAsCalf", "(I)I"⟩, 10), (⟨"FirstOut", "rateAsThing", "(I)I"⟩, 10), (⟨"FirstOut", "rateAsChild", "(I)I"⟩, 10), (⟨"FirstOut", "rateAsDog", "(I)I"⟩, 10), (⟨"FirstOut", "rateAsDrum", "(I)I"⟩, 10), (⟨"FirstOut", "rateAsPriest", "(I)I"⟩, 10), (⟨"FirstOutModel", "begins", "()V"⟩, 26), (⟨"FirstOutModel", "settles", "()V"⟩, 26), (⟨"FirstOutModel", "advances", "()V"⟩, 26), (⟨"FirstOutModel", "letterAt", "(I)I"⟩, 26), (⟨"FirstOutModel", "isWell", "()Z"⟩, 26)]
theorem lw_r1 : ∀ q ∈ lw_privs_1, lw_okq q := List.forall_mem_cons.mpr ⟨lw_p0, List.forall_mem_cons.mpr ⟨lw_p1, List.forall_mem_cons.mpr ⟨lw_p2, List.forall_mem_cons.mpr ⟨lw_p3, List.forall_mem_cons.mpr ⟨lw_p4, List.forall_mem_cons.mpr ⟨lw_p5, List.forall_mem_cons.mpr ⟨lw_p6, List.forall_mem_cons.mpr ⟨lw_p7, List.forall_mem_cons.mpr ⟨lw_p8, List.forall_mem_cons.mpr ⟨lw_p9, List.forall_mem_cons.mpr ⟨lw_p10, List.forall_mem_cons.mpr ⟨lw_p11, List.forall_mem_cons.mpr ⟨lw_p12, List.forall_mem_cons.mpr ⟨lw_p13, List.forall_mem_cons.mpr ⟨lw_p14, List.forall_mem_cons.mpr ⟨lw_p15, fun _ h => absurd h List.not_mem_nil⟩⟩⟩⟩⟩⟩⟩⟩⟩⟩⟩⟩⟩⟩⟩⟩
theorem lw_p16 : lw_okq (⟨"FirstOutModel", "takes", "(Z)I"⟩, 26) := ⟨⟨by decide +kernel, by decide +kernel⟩, List.mem_of_getElem? (i := 526) (by decide +kernel), List.mem_of_getElem? (i := 646) (by decide +kernel), List.mem_of_getElem? (i := 647) (by decide +kernel)⟩
theorem lw_p17 : lw_okq (⟨"FirstOutModel", "readsItem", "(I)V"⟩, 26) := ⟨⟨by decide +kernel, by decide +kernel⟩, List.mem_of_getElem? (i := 526) (by decide +kernel), List.mem_of_getElem? (i := 650) (by decide +kernel), List.mem_of_getElem? (i := 651) (by decide +kernel)⟩
theorem lw_p18 : lw_okq (⟨"FirstOutModel", "number", "(II)I"⟩, 26) := ⟨⟨by decide +kernel, by decide +kernel⟩, List.mem_of_getElem? (i := 526) (by decide +kernel), List.mem_of_getElem? (i := 654) (by decide +kernel), List.mem_of_getElem? (i := 655) (by decide +kernel)⟩
theorem lw_p19 : lw_okq (⟨"FirstOutModel", "isThing", "(I)Z"⟩, 26) := ⟨⟨by decide +kernel, by decide +kernel⟩, List.mem_of_getElem? (i := 526) (by decide +kernel), List.mem_of_getElem? (i := 662) (by decide +kernel), List.mem_of_getElem? (i := 663) (by decide +kernel)⟩
theorem lw_p20 : lw_okq (⟨"FirstOutModel", "covered", "([I)I"⟩, 26) := ⟨⟨by decide +kernel, by decide +kernel⟩, List.mem_of_getElem? (i := 526) (by decide +kernel), List.mem_of_getElem? (i := 666) (by decide +kernel), List.mem_of_getElem? (i := 667) (by decide +kernel)⟩
theorem lw_p21 : lw_okq (⟨"FirstOutModel", "hasAll", "(II)Z"⟩, 26) := ⟨⟨by decide +kernel, by decide +kernel⟩, List.mem_of_getElem? (i := 526) (by decide +kernel), List.mem_of_getElem? (i := 670) (by decide +kernel), List.mem_of_getElem? (i := 671) (by decide +kernel)⟩
theorem lw_p22 : lw_okq (⟨"FirstOutModel", "comers", "([I)I"⟩, 26) := ⟨⟨by decide +kernel, by decide +kernel⟩, List.mem_of_getElem? (i := 526) (by decide +kernel), List.mem_of_getElem? (i := 674) (by decide +kernel), List.mem_of_getElem? (i := 675) (by decide +kernel)⟩
theorem lw_p23 : lw_okq (⟨"FirstOutModel", "dearOf", "(IZ)I"⟩, 26) := ⟨⟨by decide +kernel, by decide +kernel⟩, List.mem_of_getElem? (i := 526) (by decide +kernel), List.mem_of_getElem? (i := 682) (by decide +kernel), List.mem_of_getElem? (i := 683) (by decide +kernel)⟩
theorem lw_p24 : lw_okq (⟨"FirstOutModel", "notes", "()V"⟩, 26) := ⟨⟨by decide +kernel, by decide +kernel⟩, List.mem_of_getElem? (i := 526) (by decide +kernel), List.mem_of_getElem? (i := 690) (by decide +kernel), List.mem_of_getElem? (i := 691) (by decide +kernel)⟩
theorem lw_p25 : lw_okq (⟨"FirstOutModel", "becomes", "(III)I"⟩, 26) := ⟨⟨by decide +kernel, by decide +kernel⟩, List.mem_of_getElem? (i := 526) (by decide +kernel), List.mem_of_getElem? (i := 701) (by decide +kernel), List.mem_of_getElem? (i := 702) (by decide +kernel)⟩
theorem lw_p26 : lw_okq (⟨"FirstOutModel", "goes", "([II)I"⟩, 26) := ⟨⟨by decide +kernel, by decide +kernel⟩, List.mem_of_getElem? (i := 526) (by decide +kernel), List.mem_of_getElem? (i := 713) (by decide +kernel), List.mem_of_getElem? (i := 714) (by decide +kernel)⟩
theorem lw_p27 : lw_okq (⟨"FirstOutModel", "comesBy", "([II)I"⟩, 26) := ⟨⟨by decide +kernel, by decide +kernel⟩, List.mem_of_getElem? (i := 526) (by decide +kernel), List.mem_of_getElem? (i := 717) (by decide +kernel), List.mem_of_getElem? (i := 718) (by decide +kernel)⟩
theorem lw_p28 : lw_okq (⟨"FirstOutModel", "eagerOf", "(I)I"⟩, 26) := ⟨⟨by decide +kernel, by decide +kernel⟩, List.mem_of_getElem? (i := 526) (by decide +kernel), List.mem_of_getElem? (i := 721) (by decide +kernel), List.mem_of_getElem? (i := 722) (by decide +kernel)⟩
theorem lw_p29 : lw_okq (⟨"FirstOutModel", "harms", "([I)V"⟩, 26) := ⟨⟨by decide +kernel, by decide +kernel⟩, List.mem_of_getElem? (i := 526) (by decide +kernel), List.mem_of_getElem? (i := 737) (by decide +kernel), List.mem_of_getElem? (i := 738) (by decide +kernel)⟩
theorem lw_p30 : lw_okq (⟨"FirstOutModel", "asNow", "()V"⟩, 26) := ⟨⟨by decide +kernel, by decide +kernel⟩, List.mem_of_getElem? (i := 526) (by decide +kernel), List.mem_of_getElem? (i := 764) (by decide +kernel), List.mem_of_getElem? (i := 765) (by decide +kernel)⟩
theorem lw_p31 : lw_okq (⟨"FirstOutModel", "everything", "()I"⟩, 26) := ⟨⟨by decide +kernel, by decide +kernel⟩, List.mem_of_getElem? (i := 526) (by decide +kernel), List.mem_of_getElem? (i := 772) (by decide +kernel), List.mem_of_getElem? (i := 773) (by decide +kernel)⟩
def lw_privs_2 : List (MethodName × Nat) := [(⟨"FirstOutModel", "takes", "(Z)I"⟩, 26), (⟨"FirstOutModel", "readsItem", "(I)V"⟩, 26), (⟨"FirstOutModel", "number", "(II)I"⟩, 26), (⟨"FirstOutModel", "isThing", "(I)Z"⟩, 26), (⟨"FirstOutModel", "covered", "([I)I"⟩, 26), (⟨"FirstOutModel", "hasAll", "(II)Z"⟩, 26), (⟨"FirstOutModel", "comers", "([I)I"⟩, 26), (⟨"FirstOutModel", "dearOf", "(IZ)I"⟩, 26), (⟨"FirstOutModel", "notes", "()V"⟩, 26), (⟨"FirstOutModel", "becomes", "(III)I"⟩, 26), (⟨"FirstOutModel", "goes", "([II)I"⟩, 26), (⟨"FirstOutModel", "comesBy", "([II)I"⟩, 26), (⟨"FirstOutModel", "eagerOf", "(I)I"⟩, 26), (⟨"FirstOutModel", "harms", "([I)V"⟩, 26), (⟨"FirstOutModel", "asNow", "()V"⟩, 26), (⟨"FirstOutModel", "everything", "()I"⟩, 26)]
theorem lw_r2 : ∀ q ∈ lw_privs_2, lw_okq q := List.forall_mem_cons.mpr ⟨lw_p16, List.forall_mem_cons.mpr ⟨lw_p17, List.forall_mem_cons.mpr ⟨lw_p18, List.forall_mem_cons.mpr ⟨lw_p19, List.forall_mem_cons.mpr ⟨lw_p20, List.forall_mem_cons.mpr ⟨lw_p21, List.forall_mem_cons.mpr ⟨lw_p22, List.forall_mem_cons.mpr ⟨lw_p23, List.forall_mem_cons.mpr ⟨lw_p24, List.forall_mem_cons.mpr ⟨lw_p25, List.forall_mem_cons.mpr ⟨lw_p26, List.forall_mem_cons.mpr ⟨lw_p27, List.forall_mem_cons.mpr ⟨lw_p28, List.forall_mem_cons.mpr ⟨lw_p29, List.forall_mem_cons.mpr ⟨lw_p30, List.forall_mem_cons.mpr ⟨lw_p31, fun _ h => absurd h List.not_mem_nil⟩⟩⟩⟩⟩⟩⟩⟩⟩⟩⟩⟩⟩⟩⟩⟩
def lw_privs : List (MethodName × Nat) := lw_privs_1 ++ (lw_privs_2)
def lw_tbl : List Cond := k2_sels lw_privs ++ tables_1
theorem lw_privs_ok : ∀ q ∈ lw_privs, lw_okq q := by
  show ∀ q ∈ lw_privs_1 ++ (lw_privs_2), lw_okq q
  exact List.forall_mem_append.mpr ⟨lw_r1, lw_r2⟩
end
section
/-! ===== BEGIN words of one list among another's, by their places ===== -/
theorem goodIn_r {big : List Cond} (ws : List Cond) (ps : List Nat) (hp : ws = ps.filterMap (fun i => big[i]?)) (h : ws.all goodWord = true) : GoodIn big ws := by
  intro w hw
  have h1 := List.all_eq_true.mp h w hw
  rw [hp] at hw
  obtain ⟨i, -, hi⟩ := List.mem_filterMap.mp hw
  have hm : w ∈ big := by first | exact List.mem_of_getElem? hi | exact List.getElem?_mem hi
  exact ⟨hm, good_of_word h1⟩
theorem goodIn_app {big a b : List Cond} (ha : GoodIn big a) (hb : GoodIn big b) : GoodIn big (a ++ b) := fun w h => (List.mem_append.mp h).elim (ha w) (hb w)
theorem goodIn_ca {big a b : List Cond} {c : Cond} (ha : GoodIn big (c :: a)) (hb : GoodIn big b) : GoodIn big (c :: (a ++ b)) := fun w h => (List.mem_cons.mp h).elim (fun e => ha w (List.mem_cons.mpr (Or.inl e))) (fun h => (List.mem_append.mp h).elim (fun h => ha w (List.mem_cons.mpr (Or.inr h))) (hb w))
theorem goodIn_sub {big ws : List Cond} (hm : ∀ w ∈ ws, w ∈ big) (h : ws.all goodWord = true) : GoodIn big ws := fun w hw => ⟨hm w hw, good_of_word (List.all_eq_true.mp h w hw)⟩
/-! ===== END ===== -/

/-! ===== BEGIN printed: names, fields, word lists, decode rows ===== -/
def RX0 : String := "FirstOut$House"
def TX0 : u_T := fun k => match k with
  | 0 => ("FirstOut$House", "traits", "[I", true)
  | 1 => ("FirstOut$House", "dear", "[I", true)
  | 2 => ("FirstOut$House", "eager", "[I", true)
  | 3 => ("FirstOut$House", "things", "I", false)
  | 4 => ("FirstOut$House", "knowing", "I", false)
  | 5 => ("FirstOut$House", "words", "I", false)
  | 6 => ("FirstOut$House", "chance", "I", false)
  | 7 => ("FirstOut$House", "help", "I", false)
  | _ => ("FirstOut$House", "worth", "I", false)
def tyX0 : Nat → FieldType := fun k => match k with
  | 0 => .array .int
  | 1 => .array .int
  | 2 => .array .int
  | 3 => .int
  | 4 => .int
  | 5 => .int
  | 6 => .int
  | 7 => .int
  | _ => .int
abbrev wsX00 : List Cond := u_ws RX0 TX0 9
theorem nmX0 : ∀ a, a < 9 → ∀ b, b < 9 → a ≠ b → (TX0 a).2.1 ≠ (TX0 b).2.1 := by decide +kernel
theorem tyX0_ok : ∀ k, k < 9 → parseFieldDescriptor (TX0 k).2.2.1 = some (tyX0 k) := by decide +kernel
abbrev cX0_init : ByteArray := prog_2_method_1_code
def yX0_init : MethodName := ⟨RX0, "<init>", "()V"⟩
abbrev cX0_setBare : ByteArray := prog_2_method_2_code
def yX0_setBare : MethodName := ⟨RX0, "setBare", "()V"⟩
abbrev cX0_hasRoom : ByteArray := prog_2_method_3_code
def yX0_hasRoom : MethodName := ⟨RX0, "hasRoom", "()Z"⟩
abbrev cX0_add : ByteArray := prog_2_method_4_code
def yX0_add : MethodName := ⟨RX0, "add", "(IIII)V"⟩
abbrev cX0_holds : ByteArray := prog_2_method_5_code
def yX0_holds : MethodName := ⟨RX0, "holds", "(I)Z"⟩
abbrev cX0_having : ByteArray := prog_2_method_6_code
def yX0_having : MethodName := ⟨RX0, "having", "(I)I"⟩
abbrev cX0_coveredBy : ByteArray := prog_2_method_7_code
def yX0_coveredBy : MethodName := ⟨RX0, "coveredBy", "(ILFirstOut$Standing;)I"⟩
abbrev cX0_ableBy : ByteArray := prog_2_method_8_code
def yX0_ableBy : MethodName := ⟨RX0, "ableBy", "(ILFirstOut$Standing;)I"⟩
abbrev cX0_eagerOnes : ByteArray := prog_2_method_9_code
def yX0_eagerOnes : MethodName := ⟨RX0, "eagerOnes", "()I"⟩
abbrev cX0_dearOnes : ByteArray := prog_2_method_10_code
def yX0_dearOnes : MethodName := ⟨RX0, "dearOnes", "(I)I"⟩
abbrev cX0_eagerTogether : ByteArray := prog_2_method_11_code
def yX0_eagerTogether : MethodName := ⟨RX0, "eagerTogether", "(I)I"⟩
abbrev cX0_dearTogether : ByteArray := prog_2_method_12_code
def yX0_dearTogether : MethodName := ⟨RX0, "dearTogether", "(I)I"⟩
abbrev cX0_harmUpper : ByteArray := prog_2_method_13_code
def yX0_harmUpper : MethodName := ⟨RX0, "harmUpper", "(II)I"⟩
abbrev cX0_shares : ByteArray := prog_2_method_14_code
def yX0_shares : MethodName := ⟨RX0, "shares", "(I)I"⟩
abbrev cX0_countedOff : ByteArray := prog_2_method_15_code
def yX0_countedOff : MethodName := ⟨RX0, "countedOff", "(II)I"⟩
def RX1 : String := "FirstOut$Past"
def TX1 : u_T := fun k => match k with
  | 0 => ("FirstOut$Past", "steps", "[LFirstOut$Standing;", true)
  | 1 => ("FirstOut$Past", "next", "I", false)
  | _ => ("FirstOut$Past", "known", "I", false)
def tyX1 : Nat → FieldType := fun k => match k with
  | 0 => .array (.object "FirstOut$Standing")
  | 1 => .int
  | _ => .int
abbrev wsX10 : List Cond := u_ws RX1 TX1 3
theorem nmX1 : ∀ a, a < 3 → ∀ b, b < 3 → a ≠ b → (TX1 a).2.1 ≠ (TX1 b).2.1 := by decide +kernel
theorem tyX1_ok : ∀ k, k < 3 → parseFieldDescriptor (TX1 k).2.2.1 = some (tyX1 k) := by decide +kernel
abbrev cX1_init : ByteArray := prog_3_method_1_code
def yX1_init : MethodName := ⟨RX1, "<init>", "()V"⟩
abbrev cX1_push : ByteArray := prog_3_method_2_code
def yX1_push : MethodName := ⟨RX1, "push", "(LFirstOut$Standing;)V"⟩
abbrev cX1_pop : ByteArray := prog_3_method_3_code
def yX1_pop : MethodName := ⟨RX1, "pop", "(LFirstOut$Standing;)V"⟩
def RX2 : String := "FirstOut$Seen"
def TX2 : u_T := fun k => match k with
  | 0 => ("FirstOut$Seen", "who", "[I", true)
  | 1 => ("FirstOut$Seen", "wasGiven", "[I", true)
  | _ => ("FirstOut$Seen", "known", "I", false)
def tyX2 : Nat → FieldType := fun k => match k with
  | 0 => .array .int
  | 1 => .array .int
  | _ => .int
abbrev wsX20 : List Cond := u_ws RX2 TX2 3
theorem nmX2 : ∀ a, a < 3 → ∀ b, b < 3 → a ≠ b → (TX2 a).2.1 ≠ (TX2 b).2.1 := by decide +kernel
theorem tyX2_ok : ∀ k, k < 3 → parseFieldDescriptor (TX2 k).2.2.1 = some (tyX2 k) := by decide +kernel
abbrev cX2_init : ByteArray := prog_4_method_1_code
def yX2_init : MethodName := ⟨RX2, "<init>", "()V"⟩
abbrev cX2_add : ByteArray := prog_4_method_2_code
def yX2_add : MethodName := ⟨RX2, "add", "(II)Z"⟩
abbrev cX2_isSoBy : ByteArray := prog_4_method_3_code
def yX2_isSoBy : MethodName := ⟨RX2, "isSoBy", "(I)Z"⟩
def RX3 : String := "FirstOut$Standing"
def TX3 : u_T := fun k => match k with
  | 0 => ("FirstOut$Standing", "words", "I", false)
  | 1 => ("FirstOut$Standing", "knowing", "I", false)
  | 2 => ("FirstOut$Standing", "kept", "I", false)
  | 3 => ("FirstOut$Standing", "given", "I", false)
  | _ => ("FirstOut$Standing", "date", "I", false)
def tyX3 : Nat → FieldType := fun k => match k with
  | 0 => .int
  | 1 => .int
  | 2 => .int
  | 3 => .int
  | _ => .int
abbrev wsX30 : List Cond := u_ws RX3 TX3 5
theorem nmX3 : ∀ a, a < 5 → ∀ b, b < 5 → a ≠ b → (TX3 a).2.1 ≠ (TX3 b).2.1 := by decide +kernel
theorem tyX3_ok : ∀ k, k < 5 → parseFieldDescriptor (TX3 k).2.2.1 = some (tyX3 k) := by decide +kernel
abbrev cX3_init : ByteArray := prog_5_method_1_code
def yX3_init : MethodName := ⟨RX3, "<init>", "()V"⟩
abbrev cX3_become : ByteArray := prog_5_method_2_code
def yX3_become : MethodName := ⟨RX3, "become", "(LFirstOut$Standing;)V"⟩
def RX4 : String := "FirstOut$Text"
def TX4 : u_T := fun k => match k with
  | 0 => ("FirstOut$Text", "letters", "[C", true)
  | 1 => ("FirstOut$Text", "length", "I", false)
  | 2 => ("FirstOut$Text", "at", "I", false)
  | 3 => ("FirstOut$Text", "vowRead", "Z", false)
  | _ => ("FirstOut$Text", "warRead", "Z", false)
def tyX4 : Nat → FieldType := fun k => match k with
  | 0 => .array .char
  | 1 => .int
  | 2 => .int
  | 3 => .boolean
  | _ => .boolean
abbrev wsX40 : List Cond := u_ws RX4 TX4 5
theorem nmX4 : ∀ a, a < 5 → ∀ b, b < 5 → a ≠ b → (TX4 a).2.1 ≠ (TX4 b).2.1 := by decide +kernel
theorem tyX4_ok : ∀ k, k < 5 → parseFieldDescriptor (TX4 k).2.2.1 = some (tyX4 k) := by decide +kernel
abbrev cX4_init : ByteArray := prog_6_method_1_code
def yX4_init : MethodName := ⟨RX4, "<init>", "()V"⟩
abbrev cX4_add : ByteArray := prog_6_method_2_code
def yX4_add : MethodName := ⟨RX4, "add", "(I)Z"⟩
abbrev cX4_readInto : ByteArray := prog_6_method_3_code
def yX4_readInto : MethodName := ⟨RX4, "readInto", "(LFirstOut$House;)I"⟩
abbrev cX4_readItem : ByteArray := prog_6_method_4_code
def yX4_readItem : MethodName := ⟨RX4, "readItem", "(LFirstOut$House;)Z"⟩
abbrev cX4_readThing : ByteArray := prog_6_method_5_code
def yX4_readThing : MethodName := ⟨RX4, "readThing", "(LFirstOut$House;)Z"⟩
abbrev cX4_readVow : ByteArray := prog_6_method_6_code
def yX4_readVow : MethodName := ⟨RX4, "readVow", "(LFirstOut$House;)Z"⟩
abbrev cX4_readWar : ByteArray := prog_6_method_7_code
def yX4_readWar : MethodName := ⟨RX4, "readWar", "(LFirstOut$House;)Z"⟩
abbrev cX4_readNumber : ByteArray := prog_6_method_8_code
def yX4_readNumber : MethodName := ⟨RX4, "readNumber", "(I)I"⟩
abbrev cX4_readEnd : ByteArray := prog_6_method_9_code
def yX4_readEnd : MethodName := ⟨RX4, "readEnd", "()Z"⟩
abbrev cX4_skipBlanks : ByteArray := prog_6_method_10_code
def yX4_skipBlanks : MethodName := ⟨RX4, "skipBlanks", "()V"⟩
def RX5 : String := "FirstOut"
def TX5 : u_T := fun k => match k with
  | 0 => ("FirstOut", "home", "LFirstOut$House;", false)
  | 1 => ("FirstOut", "draft", "LFirstOut$House;", false)
  | 2 => ("FirstOut", "text", "LFirstOut$Text;", true)
  | 3 => ("FirstOut", "current", "LFirstOut$Standing;", true)
  | 4 => ("FirstOut", "trial", "LFirstOut$Standing;", true)
  | 5 => ("FirstOut", "past", "LFirstOut$Past;", true)
  | 6 => ("FirstOut", "images", "[LFirstOut$Standing;", true)
  | 7 => ("FirstOut", "imageKept", "[Z", true)
  | 8 => ("FirstOut", "seen", "LFirstOut$Seen;", true)
  | _ => ("FirstOut", "traced", "J", false)
def tyX5 : Nat → FieldType := fun k => match k with
  | 0 => .object "FirstOut$House"
  | 1 => .object "FirstOut$House"
  | 2 => .object "FirstOut$Text"
  | 3 => .object "FirstOut$Standing"
  | 4 => .object "FirstOut$Standing"
  | 5 => .object "FirstOut$Past"
  | 6 => .array (.object "FirstOut$Standing")
  | 7 => .array .boolean
  | 8 => .object "FirstOut$Seen"
  | _ => .long
abbrev wsX50 : List Cond := u_ws RX5 TX5 10
theorem nmX5 : ∀ a, a < 10 → ∀ b, b < 10 → a ≠ b → (TX5 a).2.1 ≠ (TX5 b).2.1 := by decide +kernel
theorem tyX5_ok : ∀ k, k < 10 → parseFieldDescriptor (TX5 k).2.2.1 = some (tyX5 k) := by decide +kernel
abbrev cX5_init : ByteArray := prog_1_method_1_code
def yX5_init : MethodName := ⟨RX5, "<init>", "()V"⟩
abbrev cX5_type : ByteArray := prog_1_method_2_code
def yX5_type : MethodName := ⟨RX5, "type", "(I)I"⟩
abbrev cX5_clear : ByteArray := prog_1_method_3_code
def yX5_clear : MethodName := ⟨RX5, "clear", "()I"⟩
abbrev cX5_house : ByteArray := prog_1_method_4_code
def yX5_house : MethodName := ⟨RX5, "house", "()I"⟩
abbrev cX5_thing : ByteArray := prog_1_method_5_code
def yX5_thing : MethodName := ⟨RX5, "thing", "(II)I"⟩
abbrev cX5_now : ByteArray := prog_1_method_6_code
def yX5_now : MethodName := ⟨RX5, "now", "(I)I"⟩
abbrev cX5_swears : ByteArray := prog_1_method_7_code
def yX5_swears : MethodName := ⟨RX5, "swears", "(I)I"⟩
abbrev cX5_keepsIn : ByteArray := prog_1_method_8_code
def yX5_keepsIn : MethodName := ⟨RX5, "keepsIn", "(II)I"⟩
abbrev cX5_tells : ByteArray := prog_1_method_9_code
def yX5_tells : MethodName := ⟨RX5, "tells", "(II)I"⟩
abbrev cX5_day : ByteArray := prog_1_method_10_code
def yX5_day : MethodName := ⟨RX5, "day", "(I)I"⟩
abbrev cX5_undo : ByteArray := prog_1_method_11_code
def yX5_undo : MethodName := ⟨RX5, "undo", "()I"⟩
abbrev cX5_harm : ByteArray := prog_1_method_12_code
def yX5_harm : MethodName := ⟨RX5, "harm", "(I)I"⟩
abbrev cX5_odds : ByteArray := prog_1_method_13_code
def yX5_odds : MethodName := ⟨RX5, "odds", "(II)I"⟩
abbrev cX5_swear : ByteArray := prog_1_method_14_code
def yX5_swear : MethodName := ⟨RX5, "swear", "(I)I"⟩
abbrev cX5_sense : ByteArray := prog_1_method_15_code
def yX5_sense : MethodName := ⟨RX5, "sense", "(I)I"⟩
abbrev cX5_both : ByteArray := prog_1_method_16_code
def yX5_both : MethodName := ⟨RX5, "both", "(I)I"⟩
abbrev cX5_means : ByteArray := prog_1_method_17_code
def yX5_means : MethodName := ⟨RX5, "means", "(I)I"⟩
abbrev cX5_span : ByteArray := prog_1_method_18_code
def yX5_span : MethodName := ⟨RX5, "span", "()I"⟩
abbrev cX5_shut : ByteArray := prog_1_method_19_code
def yX5_shut : MethodName := ⟨RX5, "shut", "(II)I"⟩
abbrev cX5_tell : ByteArray := prog_1_method_20_code
def yX5_tell : MethodName := ⟨RX5, "tell", "()I"⟩
abbrev cX5_saw : ByteArray := prog_1_method_21_code
def yX5_saw : MethodName := ⟨RX5, "saw", "(II)I"⟩
abbrev cX5_forget : ByteArray := prog_1_method_22_code
def yX5_forget : MethodName := ⟨RX5, "forget", "()I"⟩
abbrev cX5_fit : ByteArray := prog_1_method_23_code
def yX5_fit : MethodName := ⟨RX5, "fit", "(I)I"⟩
abbrev cX5_lost : ByteArray := prog_1_method_24_code
def yX5_lost : MethodName := ⟨RX5, "lost", "(II)I"⟩
abbrev cX5_draw : ByteArray := prog_1_method_25_code
def yX5_draw : MethodName := ⟨RX5, "draw", "(II)I"⟩
abbrev cX5_rate : ByteArray := prog_1_method_26_code
def yX5_rate : MethodName := ⟨RX5, "rate", "(II)I"⟩
abbrev cX5_keep : ByteArray := prog_1_method_27_code
def yX5_keep : MethodName := ⟨RX5, "keep", "(I)I"⟩
abbrev cX5_back : ByteArray := prog_1_method_28_code
def yX5_back : MethodName := ⟨RX5, "back", "(I)I"⟩
abbrev cX5_count : ByteArray := prog_1_method_29_code
def yX5_count : MethodName := ⟨RX5, "count", "(I)I"⟩
abbrev cX5_trace : ByteArray := prog_1_method_30_code
def yX5_trace : MethodName := ⟨RX5, "trace", "()J"⟩
abbrev cX5_beginAnew : ByteArray := prog_1_method_31_code
def yX5_beginAnew : MethodName := ⟨RX5, "beginAnew", "()V"⟩
abbrev cX5_coveredNow : ByteArray := prog_1_method_32_code
def yX5_coveredNow : MethodName := ⟨RX5, "coveredNow", "()I"⟩
abbrev cX5_ableNow : ByteArray := prog_1_method_33_code
def yX5_ableNow : MethodName := ⟨RX5, "ableNow", "()I"⟩
abbrev cX5_passDay : ByteArray := prog_1_method_34_code
def yX5_passDay : MethodName := ⟨RX5, "passDay", "(LFirstOut$Standing;I)I"⟩
abbrev cX5_leastHarmful : ByteArray := prog_1_method_35_code
def yX5_leastHarmful : MethodName := ⟨RX5, "leastHarmful", "(I)I"⟩
abbrev cX5_rateAsThing : ByteArray := prog_1_method_36_code
def yX5_rateAsThing : MethodName := ⟨RX5, "rateAsThing", "(I)I"⟩
abbrev cX5_rateAsCalf : ByteArray := prog_1_method_37_code
def yX5_rateAsCalf : MethodName := ⟨RX5, "rateAsCalf", "(I)I"⟩
abbrev cX5_rateAsChild : ByteArray := prog_1_method_38_code
def yX5_rateAsChild : MethodName := ⟨RX5, "rateAsChild", "(I)I"⟩
abbrev cX5_rateAsDog : ByteArray := prog_1_method_39_code
def yX5_rateAsDog : MethodName := ⟨RX5, "rateAsDog", "(I)I"⟩
abbrev cX5_rateAsDrum : ByteArray := prog_1_method_40_code
def yX5_rateAsDrum : MethodName := ⟨RX5, "rateAsDrum", "(I)I"⟩
abbrev cX5_rateAsPriest : ByteArray := prog_1_method_41_code
def yX5_rateAsPriest : MethodName := ⟨RX5, "rateAsPriest", "(I)I"⟩
abbrev cX5_drawn : ByteArray := prog_1_method_42_code
def yX5_drawn : MethodName := ⟨RX5, "drawn", "(III)I"⟩
abbrev cX5_fewerWords : ByteArray := prog_1_method_43_code
def yX5_fewerWords : MethodName := ⟨RX5, "fewerWords", "(II)I"⟩
abbrev cX5_partOf : ByteArray := prog_1_method_44_code
def yX5_partOf : MethodName := ⟨RX5, "partOf", "(III)I"⟩
abbrev cX5_commonDivisor : ByteArray := prog_1_method_45_code
def yX5_commonDivisor : MethodName := ⟨RX5, "commonDivisor", "(II)I"⟩
abbrev cX5_areWords : ByteArray := prog_1_method_46_code
def yX5_areWords : MethodName := ⟨RX5, "areWords", "(I)Z"⟩
abbrev cX5_isYesOrNo : ByteArray := prog_1_method_47_code
def yX5_isYesOrNo : MethodName := ⟨RX5, "isYesOrNo", "(I)Z"⟩
abbrev cX5_isZ : ByteArray := prog_1_method_48_code
def yX5_isZ : MethodName := ⟨RX5, "isZ", "(I)Z"⟩
abbrev cX5_bitOf : ByteArray := prog_1_method_49_code
def yX5_bitOf : MethodName := ⟨RX5, "bitOf", "(II)I"⟩
abbrev cX5_withBit : ByteArray := prog_1_method_50_code
def yX5_withBit : MethodName := ⟨RX5, "withBit", "(III)I"⟩
def RX6 : String := "FirstOutModel"
def TX6 : u_T := fun k => match k with
  | 0 => ("FirstOutModel", "thrown", "I", false)
  | 1 => ("FirstOutModel", "trace", "J", false)
  | 2 => ("FirstOutModel", "text", "[I", true)
  | 3 => ("FirstOutModel", "typed", "I", false)
  | 4 => ("FirstOutModel", "next", "I", false)
  | 5 => ("FirstOutModel", "token", "I", false)
  | 6 => ("FirstOutModel", "place", "I", false)
  | 7 => ("FirstOutModel", "value", "I", false)
  | 8 => ("FirstOutModel", "fault", "I", false)
  | 9 => ("FirstOutModel", "many", "[I", true)
  | 10 => ("FirstOutModel", "told", "I", false)
  | 11 => ("FirstOutModel", "traits", "[I", true)
  | 12 => ("FirstOutModel", "dear", "[I", true)
  | 13 => ("FirstOutModel", "eager", "[I", true)
  | 14 => ("FirstOutModel", "knowing", "I", false)
  | 15 => ("FirstOutModel", "s", "[I", true)
  | 16 => ("FirstOutModel", "w", "[I", true)
  | 17 => ("FirstOutModel", "kept", "[I", true)
  | 18 => ("FirstOutModel", "isKept", "[Z", true)
  | 19 => ("FirstOutModel", "undos", "[I", true)
  | 20 => ("FirstOutModel", "undoMany", "I", false)
  | 21 => ("FirstOutModel", "sawOf", "[I", true)
  | 22 => ("FirstOutModel", "sawIs", "[I", true)
  | 23 => ("FirstOutModel", "sawMany", "I", false)
  | 24 => ("FirstOutModel", "eagerAll", "I", false)
  | _ => ("FirstOutModel", "harmAll", "I", false)
def tyX6 : Nat → FieldType := fun k => match k with
  | 0 => .int
  | 1 => .long
  | 2 => .array .int
  | 3 => .int
  | 4 => .int
  | 5 => .int
  | 6 => .int
  | 7 => .int
  | 8 => .int
  | 9 => .array .int
  | 10 => .int
  | 11 => .array .int
  | 12 => .array .int
  | 13 => .array .int
  | 14 => .int
  | 15 => .array .int
  | 16 => .array .int
  | 17 => .array .int
  | 18 => .array .boolean
  | 19 => .array .int
  | 20 => .int
  | 21 => .array .int
  | 22 => .array .int
  | 23 => .int
  | 24 => .int
  | _ => .int
abbrev wsX60 : List Cond := u_ws RX6 TX6 26
theorem nmX6 : ∀ a, a < 26 → ∀ b, b < 26 → a ≠ b → (TX6 a).2.1 ≠ (TX6 b).2.1 := by decide +kernel
theorem tyX6_ok : ∀ k, k < 26 → parseFieldDescriptor (TX6 k).2.2.1 = some (tyX6 k) := by decide +kernel
abbrev cX6_init : ByteArray := prog_8_method_1_code
def yX6_init : MethodName := ⟨RX6, "<init>", "()V"⟩
abbrev cX6_in : ByteArray := prog_8_method_3_code
def yX6_in : MethodName := ⟨RX6, "in", "(III)Z"⟩
abbrev cX6_ones : ByteArray := prog_8_method_4_code
def yX6_ones : MethodName := ⟨RX6, "ones", "(I)I"⟩
abbrev cX6_type : ByteArray := prog_8_method_5_code
def yX6_type : MethodName := ⟨RX6, "type", "(I)I"⟩
abbrev cX6_clear : ByteArray := prog_8_method_6_code
def yX6_clear : MethodName := ⟨RX6, "clear", "()I"⟩
abbrev cX6_letterAt : ByteArray := prog_8_method_7_code
def yX6_letterAt : MethodName := ⟨RX6, "letterAt", "(I)I"⟩
abbrev cX6_advances : ByteArray := prog_8_method_8_code
def yX6_advances : MethodName := ⟨RX6, "advances", "()V"⟩
abbrev cX6_isWell : ByteArray := prog_8_method_9_code
def yX6_isWell : MethodName := ⟨RX6, "isWell", "()Z"⟩
abbrev cX6_takes : ByteArray := prog_8_method_10_code
def yX6_takes : MethodName := ⟨RX6, "takes", "(Z)I"⟩
abbrev cX6_number : ByteArray := prog_8_method_11_code
def yX6_number : MethodName := ⟨RX6, "number", "(II)I"⟩
abbrev cX6_begins : ByteArray := prog_8_method_12_code
def yX6_begins : MethodName := ⟨RX6, "begins", "()V"⟩
abbrev cX6_readsItem : ByteArray := prog_8_method_13_code
def yX6_readsItem : MethodName := ⟨RX6, "readsItem", "(I)V"⟩
abbrev cX6_house : ByteArray := prog_8_method_14_code
def yX6_house : MethodName := ⟨RX6, "house", "()I"⟩
abbrev cX6_settles : ByteArray := prog_8_method_15_code
def yX6_settles : MethodName := ⟨RX6, "settles", "()V"⟩
abbrev cX6_isThing : ByteArray := prog_8_method_16_code
def yX6_isThing : MethodName := ⟨RX6, "isThing", "(I)Z"⟩
abbrev cX6_everything : ByteArray := prog_8_method_17_code
def yX6_everything : MethodName := ⟨RX6, "everything", "()I"⟩
abbrev cX6_hasAll : ByteArray := prog_8_method_18_code
def yX6_hasAll : MethodName := ⟨RX6, "hasAll", "(II)Z"⟩
abbrev cX6_covered : ByteArray := prog_8_method_19_code
def yX6_covered : MethodName := ⟨RX6, "covered", "([I)I"⟩
abbrev cX6_comers : ByteArray := prog_8_method_20_code
def yX6_comers : MethodName := ⟨RX6, "comers", "([I)I"⟩
abbrev cX6_eagerOf : ByteArray := prog_8_method_21_code
def yX6_eagerOf : MethodName := ⟨RX6, "eagerOf", "(I)I"⟩
abbrev cX6_dearOf : ByteArray := prog_8_method_22_code
def yX6_dearOf : MethodName := ⟨RX6, "dearOf", "(IZ)I"⟩
abbrev cX6_harms : ByteArray := prog_8_method_23_code
def yX6_harms : MethodName := ⟨RX6, "harms", "([I)V"⟩
abbrev cX6_thing : ByteArray := prog_8_method_24_code
def yX6_thing : MethodName := ⟨RX6, "thing", "(II)I"⟩
abbrev cX6_now : ByteArray := prog_8_method_25_code
def yX6_now : MethodName := ⟨RX6, "now", "(I)I"⟩
abbrev cX6_notes : ByteArray := prog_8_method_26_code
def yX6_notes : MethodName := ⟨RX6, "notes", "()V"⟩
abbrev cX6_swears : ByteArray := prog_8_method_27_code
def yX6_swears : MethodName := ⟨RX6, "swears", "(I)I"⟩
abbrev cX6_becomes : ByteArray := prog_8_method_28_code
def yX6_becomes : MethodName := ⟨RX6, "becomes", "(III)I"⟩
abbrev cX6_keepsIn : ByteArray := prog_8_method_29_code
def yX6_keepsIn : MethodName := ⟨RX6, "keepsIn", "(II)I"⟩
abbrev cX6_tells : ByteArray := prog_8_method_30_code
def yX6_tells : MethodName := ⟨RX6, "tells", "(II)I"⟩
abbrev cX6_comesBy : ByteArray := prog_8_method_31_code
def yX6_comesBy : MethodName := ⟨RX6, "comesBy", "([II)I"⟩
abbrev cX6_goes : ByteArray := prog_8_method_32_code
def yX6_goes : MethodName := ⟨RX6, "goes", "([II)I"⟩
abbrev cX6_day : ByteArray := prog_8_method_33_code
def yX6_day : MethodName := ⟨RX6, "day", "(I)I"⟩
abbrev cX6_undo : ByteArray := prog_8_method_34_code
def yX6_undo : MethodName := ⟨RX6, "undo", "()I"⟩
abbrev cX6_gcd : ByteArray := prog_8_method_35_code
def yX6_gcd : MethodName := ⟨RX6, "gcd", "(II)I"⟩
abbrev cX6_part : ByteArray := prog_8_method_36_code
def yX6_part : MethodName := ⟨RX6, "part", "(III)I"⟩
abbrev cX6_harm : ByteArray := prog_8_method_37_code
def yX6_harm : MethodName := ⟨RX6, "harm", "(I)I"⟩
abbrev cX6_odds : ByteArray := prog_8_method_38_code
def yX6_odds : MethodName := ⟨RX6, "odds", "(II)I"⟩
abbrev cX6_swear : ByteArray := prog_8_method_39_code
def yX6_swear : MethodName := ⟨RX6, "swear", "(I)I"⟩
abbrev cX6_sense : ByteArray := prog_8_method_40_code
def yX6_sense : MethodName := ⟨RX6, "sense", "(I)I"⟩
abbrev cX6_asNow : ByteArray := prog_8_method_41_code
def yX6_asNow : MethodName := ⟨RX6, "asNow", "()V"⟩
abbrev cX6_both : ByteArray := prog_8_method_42_code
def yX6_both : MethodName := ⟨RX6, "both", "(I)I"⟩
abbrev cX6_means : ByteArray := prog_8_method_43_code
def yX6_means : MethodName := ⟨RX6, "means", "(I)I"⟩
abbrev cX6_span : ByteArray := prog_8_method_44_code
def yX6_span : MethodName := ⟨RX6, "span", "()I"⟩
abbrev cX6_shut : ByteArray := prog_8_method_45_code
def yX6_shut : MethodName := ⟨RX6, "shut", "(II)I"⟩
abbrev cX6_tell : ByteArray := prog_8_method_46_code
def yX6_tell : MethodName := ⟨RX6, "tell", "()I"⟩
abbrev cX6_saw : ByteArray := prog_8_method_47_code
def yX6_saw : MethodName := ⟨RX6, "saw", "(II)I"⟩
abbrev cX6_forget : ByteArray := prog_8_method_48_code
def yX6_forget : MethodName := ⟨RX6, "forget", "()I"⟩
abbrev cX6_fit : ByteArray := prog_8_method_49_code
def yX6_fit : MethodName := ⟨RX6, "fit", "(I)I"⟩
abbrev cX6_lost : ByteArray := prog_8_method_50_code
def yX6_lost : MethodName := ⟨RX6, "lost", "(II)I"⟩
abbrev cX6_draw : ByteArray := prog_8_method_51_code
def yX6_draw : MethodName := ⟨RX6, "draw", "(II)I"⟩
abbrev cX6_rate : ByteArray := prog_8_method_52_code
def yX6_rate : MethodName := ⟨RX6, "rate", "(II)I"⟩
abbrev cX6_keep : ByteArray := prog_8_method_53_code
def yX6_keep : MethodName := ⟨RX6, "keep", "(I)I"⟩
abbrev cX6_back : ByteArray := prog_8_method_54_code
def yX6_back : MethodName := ⟨RX6, "back", "(I)I"⟩
abbrev cX6_count : ByteArray := prog_8_method_55_code
def yX6_count : MethodName := ⟨RX6, "count", "(I)I"⟩
abbrev cX6_trace : ByteArray := prog_8_method_56_code
def yX6_trace : MethodName := ⟨RX6, "trace", "()J"⟩
def RJ6 : String := "java/lang/Integer"
def TJ6 : u_T := fun k => match k with
  | _ => ("", "", "", false)
def tyJ6 : Nat → FieldType := fun k => match k with
  | _ => .int
abbrev wsJ60 : List Cond := u_ws RJ6 TJ6 0
theorem nmJ6 : ∀ a, a < 0 → ∀ b, b < 0 → a ≠ b → (TJ6 a).2.1 ≠ (TJ6 b).2.1 := by decide +kernel
theorem tyJ6_ok : ∀ k, k < 0 → parseFieldDescriptor (TJ6 k).2.2.1 = some (tyJ6 k) := by decide +kernel
abbrev cJ6_compare_7cf53 : ByteArray := prog_9_method_40_code
def yJ6_compare_7cf53 : MethodName := ⟨RJ6, "compare", "(II)I"⟩
abbrev cJ6_bitCount_0f7a4 : ByteArray := prog_9_method_49_code
def yJ6_bitCount_0f7a4 : MethodName := ⟨RJ6, "bitCount", "(I)I"⟩
def RJ9 : String := "java/lang/Math"
def TJ9 : u_T := fun k => match k with
  | _ => ("", "", "", false)
def tyJ9 : Nat → FieldType := fun k => match k with
  | _ => .int
abbrev wsJ90 : List Cond := u_ws RJ9 TJ9 0
theorem nmJ9 : ∀ a, a < 0 → ∀ b, b < 0 → a ≠ b → (TJ9 a).2.1 ≠ (TJ9 b).2.1 := by decide +kernel
theorem tyJ9_ok : ∀ k, k < 0 → parseFieldDescriptor (TJ9 k).2.2.1 = some (tyJ9 k) := by decide +kernel
abbrev cJ9_abs_0f7a4 : ByteArray := prog_10_method_59_code
def yJ9_abs_0f7a4 : MethodName := ⟨RJ9, "abs", "(I)I"⟩
abbrev cJ9_max_7cf53 : ByteArray := prog_10_method_65_code
def yJ9_max_7cf53 : MethodName := ⟨RJ9, "max", "(II)I"⟩
abbrev cJ9_min_7cf53 : ByteArray := prog_10_method_69_code
def yJ9_min_7cf53 : MethodName := ⟨RJ9, "min", "(II)I"⟩
def RL : String := "FirstOutLaw"
abbrev cL_law : ByteArray := code
def yL_law : MethodName := ⟨RL, "law", "([I)Z"⟩
def wsX0_setBare : List Cond := .code yX0_setBare cX0_setBare 1 none :: ([.fieldLink RX0 24 "FirstOut$House" "things" "I", .fieldLink RX0 28 "FirstOut$House" "knowing" "I", .fieldLink RX0 31 "FirstOut$House" "words" "I", .fieldLink RX0 34 "FirstOut$House" "chance" "I", .fieldLink RX0 37 "FirstOut$House" "help" "I", .fieldLink RX0 40 "FirstOut$House" "worth" "I"] ++ wsX00)
def wsX0_init : List Cond := .code yX0_init cX0_init 1 none :: ([.methodLink RX0 3 objectInit, .instanceMethod objectInit, .code objectInit ⟨#[0xb1]⟩ 1 none, .arrayClass .int, .fieldLink RX0 9 "FirstOut$House" "traits" "[I", .fieldLink RX0 15 "FirstOut$House" "dear" "[I", .fieldLink RX0 18 "FirstOut$House" "eager" "[I", .methodLink RX0 21 yX0_setBare, .instanceMethod yX0_setBare, .selects RX0 yX0_setBare yX0_setBare, .initialized RX0, .code yX0_setBare cX0_setBare 1 none, .fieldLink RX0 24 "FirstOut$House" "things" "I", .fieldLink RX0 28 "FirstOut$House" "knowing" "I", .fieldLink RX0 31 "FirstOut$House" "words" "I", .fieldLink RX0 34 "FirstOut$House" "chance" "I", .fieldLink RX0 37 "FirstOut$House" "help" "I", .fieldLink RX0 40 "FirstOut$House" "worth" "I"] ++ wsX00)
def wsX0_hasRoom : List Cond := .code yX0_hasRoom cX0_hasRoom 1 (some .boolean) :: ([.fieldLink RX0 24 "FirstOut$House" "things" "I"] ++ wsX00)
def wsX0_add : List Cond := .code yX0_add cX0_add 5 none :: ([.fieldLink RX0 9 "FirstOut$House" "traits" "[I", .fieldLink RX0 24 "FirstOut$House" "things" "I", .fieldLink RX0 15 "FirstOut$House" "dear" "[I", .fieldLink RX0 18 "FirstOut$House" "eager" "[I", .fieldLink RX0 28 "FirstOut$House" "knowing" "I", .methodLink RX0 43 yX0_hasRoom, .instanceMethod yX0_hasRoom, .selects RX0 yX0_hasRoom yX0_hasRoom, .initialized RX0, .code yX0_hasRoom cX0_hasRoom 1 (some .boolean)] ++ wsX00)
def wsX0_holds : List Cond := .code yX0_holds cX0_holds 2 (some .boolean) :: ([.fieldLink RX0 24 "FirstOut$House" "things" "I"] ++ wsX00)
def wsX0_having : List Cond := .code yX0_having cX0_having 4 (some .int) :: ([.fieldLink RX0 24 "FirstOut$House" "things" "I", .fieldLink RX0 9 "FirstOut$House" "traits" "[I"] ++ wsX00)
def wsX0_coveredBy : List Cond := .code yX0_coveredBy cX0_coveredBy 3 (some .int) :: ([.fieldLink RX0 51 "FirstOut$Standing" "given" "I", .methodLink RX0 47 yX0_having, .instanceMethod yX0_having, .selects RX0 yX0_having yX0_having, .initialized RX0, .code yX0_having cX0_having 4 (some .int), .fieldLink RX0 24 "FirstOut$House" "things" "I", .fieldLink RX0 9 "FirstOut$House" "traits" "[I"] ++ wsX30 ++ wsX00)
def wsX0_eagerOnes : List Cond := .code yX0_eagerOnes cX0_eagerOnes 3 (some .int) :: ([.fieldLink RX0 24 "FirstOut$House" "things" "I", .fieldLink RX0 18 "FirstOut$House" "eager" "[I"] ++ wsX00)
def wsX0_ableBy : List Cond := .code yX0_ableBy cX0_ableBy 4 (some .int) :: ([.fieldLink RX0 56 "FirstOut$Standing" "knowing" "I", .fieldLink RX0 51 "FirstOut$Standing" "given" "I", .fieldLink RX0 65 "FirstOut$Standing" "kept" "I", .methodLink RX0 57 yX0_coveredBy, .instanceMethod yX0_coveredBy, .selects RX0 yX0_coveredBy yX0_coveredBy, .initialized RX0, .code yX0_coveredBy cX0_coveredBy 3 (some .int), .methodLink RX0 47 yX0_having, .instanceMethod yX0_having, .selects RX0 yX0_having yX0_having, .code yX0_having cX0_having 4 (some .int), .fieldLink RX0 24 "FirstOut$House" "things" "I", .fieldLink RX0 9 "FirstOut$House" "traits" "[I", .methodLink RX0 61 yX0_eagerOnes, .instanceMethod yX0_eagerOnes, .selects RX0 yX0_eagerOnes yX0_eagerOnes, .code yX0_eagerOnes cX0_eagerOnes 3 (some .int), .fieldLink RX0 18 "FirstOut$House" "eager" "[I"] ++ wsX30 ++ wsX00)
def wsX0_dearOnes : List Cond := .code yX0_dearOnes cX0_dearOnes 4 (some .int) :: ([.fieldLink RX0 24 "FirstOut$House" "things" "I", .fieldLink RX0 15 "FirstOut$House" "dear" "[I"] ++ wsX00)
def wsX5_bitOf : List Cond := .code yX5_bitOf cX5_bitOf 2 (some .int) :: ([])
def wsX0_eagerTogether : List Cond := .code yX0_eagerTogether cX0_eagerTogether 4 (some .int) :: ([.fieldLink RX0 24 "FirstOut$House" "things" "I", .fieldLink RX0 18 "FirstOut$House" "eager" "[I", .static yX5_bitOf, .initialized RX5, .code yX5_bitOf cX5_bitOf 2 (some .int)] ++ wsX00)
def wsX0_dearTogether : List Cond := .code yX0_dearTogether cX0_dearTogether 4 (some .int) :: ([.fieldLink RX0 24 "FirstOut$House" "things" "I", .fieldLink RX0 15 "FirstOut$House" "dear" "[I", .static yX5_bitOf, .initialized RX5, .code yX5_bitOf cX5_bitOf 2 (some .int)] ++ wsX00)
def wsX0_harmUpper : List Cond := .code yX0_harmUpper cX0_harmUpper 5 (some .int) :: ([.fieldLink RX0 24 "FirstOut$House" "things" "I", .fieldLink RX0 15 "FirstOut$House" "dear" "[I", .fieldLink RX0 18 "FirstOut$House" "eager" "[I", .static yX5_bitOf, .initialized RX5, .code yX5_bitOf cX5_bitOf 2 (some .int)] ++ wsX00)
def wsX0_shares : List Cond := .code yX0_shares cX0_shares 2 (some .int) :: ([.methodLink RX0 75 Lib.Math.max.name, .static Lib.Math.max.name, .initialized "java/lang/Math", .code Lib.Math.max.name Lib.Math.max.code 2 (some .int), .methodLink RX0 72 yX0_eagerTogether, .instanceMethod yX0_eagerTogether, .selects RX0 yX0_eagerTogether yX0_eagerTogether, .initialized RX0, .code yX0_eagerTogether cX0_eagerTogether 4 (some .int), .fieldLink RX0 24 "FirstOut$House" "things" "I", .fieldLink RX0 18 "FirstOut$House" "eager" "[I", .static yX5_bitOf, .initialized RX5, .code yX5_bitOf cX5_bitOf 2 (some .int)] ++ wsX00)
def wsX0_countedOff : List Cond := .code yX0_countedOff cX0_countedOff 6 (some .int) :: ([.fieldLink RX0 24 "FirstOut$House" "things" "I", .fieldLink RX0 18 "FirstOut$House" "eager" "[I", .static yX5_bitOf, .initialized RX5, .code yX5_bitOf cX5_bitOf 2 (some .int)] ++ wsX00)
def wsX3_init : List Cond := .code yX3_init cX3_init 1 none :: ([.methodLink RX3 1 objectInit, .instanceMethod objectInit, .code objectInit ⟨#[0xb1]⟩ 1 none])
def wsX1_init : List Cond := .code yX1_init cX1_init 2 none :: ([.methodLink RX1 3 objectInit, .instanceMethod objectInit, .code objectInit ⟨#[0xb1]⟩ 1 none, .classLink RX1 9 RX3, .fieldLink RX1 11 "FirstOut$Past" "steps" "[LFirstOut$Standing;", .instantiable RX3 5, .initialized RX3, .instanceMethod yX3_init, .code yX3_init cX3_init 1 none, .methodLink RX3 1 objectInit] ++ wsX10 ++ wsX30)
def wsX3_become : List Cond := .code yX3_become cX3_become 2 none :: ([.fieldLink RX3 7 "FirstOut$Standing" "words" "I", .fieldLink RX3 13 "FirstOut$Standing" "knowing" "I", .fieldLink RX3 16 "FirstOut$Standing" "kept" "I", .fieldLink RX3 19 "FirstOut$Standing" "given" "I", .fieldLink RX3 22 "FirstOut$Standing" "date" "I"] ++ wsX30)
def wsX1_push : List Cond := .code yX1_push cX1_push 2 none :: ([.fieldLink RX1 11 "FirstOut$Past" "steps" "[LFirstOut$Standing;", .fieldLink RX1 18 "FirstOut$Past" "next" "I", .fieldLink RX1 26 "FirstOut$Past" "known" "I", .methodLink RX1 29 Lib.Math.min.name, .static Lib.Math.min.name, .initialized "java/lang/Math", .code Lib.Math.min.name Lib.Math.min.code 2 (some .int), .methodLink RX1 22 yX3_become, .instanceMethod yX3_become, .selects RX3 yX3_become yX3_become, .initialized RX3, .code yX3_become cX3_become 2 none, .fieldLink RX3 7 "FirstOut$Standing" "words" "I", .fieldLink RX3 13 "FirstOut$Standing" "knowing" "I", .fieldLink RX3 16 "FirstOut$Standing" "kept" "I", .fieldLink RX3 19 "FirstOut$Standing" "given" "I", .fieldLink RX3 22 "FirstOut$Standing" "date" "I"] ++ wsX10 ++ wsX30)
def wsX1_pop : List Cond := .code yX1_pop cX1_pop 2 none :: ([.fieldLink RX1 18 "FirstOut$Past" "next" "I", .fieldLink RX1 26 "FirstOut$Past" "known" "I", .fieldLink RX1 11 "FirstOut$Past" "steps" "[LFirstOut$Standing;", .methodLink RX1 22 yX3_become, .instanceMethod yX3_become, .selects RX3 yX3_become yX3_become, .initialized RX3, .code yX3_become cX3_become 2 none, .fieldLink RX3 7 "FirstOut$Standing" "words" "I", .fieldLink RX3 13 "FirstOut$Standing" "knowing" "I", .fieldLink RX3 16 "FirstOut$Standing" "kept" "I", .fieldLink RX3 19 "FirstOut$Standing" "given" "I", .fieldLink RX3 22 "FirstOut$Standing" "date" "I"] ++ wsX10 ++ wsX30)
def wsX2_init : List Cond := .code yX2_init cX2_init 1 none :: ([.methodLink RX2 3 objectInit, .instanceMethod objectInit, .code objectInit ⟨#[0xb1]⟩ 1 none, .arrayClass .int, .fieldLink RX2 9 "FirstOut$Seen" "who" "[I", .fieldLink RX2 15 "FirstOut$Seen" "wasGiven" "[I"] ++ wsX20)
def wsX2_add : List Cond := .code yX2_add cX2_add 3 (some .boolean) :: ([.fieldLink RX2 18 "FirstOut$Seen" "known" "I", .fieldLink RX2 9 "FirstOut$Seen" "who" "[I", .fieldLink RX2 15 "FirstOut$Seen" "wasGiven" "[I"] ++ wsX20)
def wsX2_isSoBy : List Cond := .code yX2_isSoBy cX2_isSoBy 3 (some .boolean) :: ([.fieldLink RX2 18 "FirstOut$Seen" "known" "I", .fieldLink RX2 9 "FirstOut$Seen" "who" "[I", .fieldLink RX2 15 "FirstOut$Seen" "wasGiven" "[I", .static yX5_bitOf, .initialized RX5, .code yX5_bitOf cX5_bitOf 2 (some .int)] ++ wsX20)
def wsX4_init : List Cond := .code yX4_init cX4_init 1 none :: ([.methodLink RX4 3 objectInit, .instanceMethod objectInit, .code objectInit ⟨#[0xb1]⟩ 1 none, .arrayClass .char, .fieldLink RX4 9 "FirstOut$Text" "letters" "[C"] ++ wsX40)
def wsX4_add : List Cond := .code yX4_add cX4_add 2 (some .boolean) :: ([.fieldLink RX4 15 "FirstOut$Text" "length" "I", .fieldLink RX4 9 "FirstOut$Text" "letters" "[C"] ++ wsX40)
def wsX4_skipBlanks : List Cond := .code yX4_skipBlanks cX4_skipBlanks 1 none :: ([.fieldLink RX4 24 "FirstOut$Text" "at" "I", .fieldLink RX4 15 "FirstOut$Text" "length" "I", .fieldLink RX4 9 "FirstOut$Text" "letters" "[C"] ++ wsX40)
def wsX4_readNumber : List Cond := .code yX4_readNumber cX4_readNumber 5 (some .int) :: ([.fieldLink RX4 24 "FirstOut$Text" "at" "I", .fieldLink RX4 15 "FirstOut$Text" "length" "I", .fieldLink RX4 9 "FirstOut$Text" "letters" "[C", .methodLink RX4 77 Lib.Math.min.name, .static Lib.Math.min.name, .initialized "java/lang/Math", .code Lib.Math.min.name Lib.Math.min.code 2 (some .int), .methodLink RX4 34 yX4_skipBlanks, .instanceMethod yX4_skipBlanks, .selects RX4 yX4_skipBlanks yX4_skipBlanks, .initialized RX4, .code yX4_skipBlanks cX4_skipBlanks 1 none] ++ wsX40)
def wsX4_readEnd : List Cond := .code yX4_readEnd cX4_readEnd 1 (some .boolean) :: ([.fieldLink RX4 24 "FirstOut$Text" "at" "I", .fieldLink RX4 15 "FirstOut$Text" "length" "I", .fieldLink RX4 9 "FirstOut$Text" "letters" "[C", .methodLink RX4 34 yX4_skipBlanks, .instanceMethod yX4_skipBlanks, .selects RX4 yX4_skipBlanks yX4_skipBlanks, .initialized RX4, .code yX4_skipBlanks cX4_skipBlanks 1 none] ++ wsX40)
def wsX4_readThing_r1 : List Cond := [Cond.fieldLink RX4 24 "FirstOut$Text" "at" "I", Cond.methodLink RX4 54 yX4_readNumber, Cond.instanceMethod yX4_readNumber, Cond.selects RX4 yX4_readNumber yX4_readNumber, Cond.initialized RX4, Cond.code yX4_readNumber cX4_readNumber 5 (some .int), Cond.fieldLink RX4 15 "FirstOut$Text" "length" "I", Cond.fieldLink RX4 9 "FirstOut$Text" "letters" "[C", Cond.methodLink RX4 77 Lib.Math.min.name, Cond.static Lib.Math.min.name, Cond.initialized "java/lang/Math", Cond.code Lib.Math.min.name Lib.Math.min.code 2 (some .int), Cond.methodLink RX4 34 yX4_skipBlanks, Cond.instanceMethod yX4_skipBlanks, Cond.selects RX4 yX4_skipBlanks yX4_skipBlanks, Cond.code yX4_skipBlanks cX4_skipBlanks 1 none, Cond.methodLink RX4 58 yX4_readEnd, Cond.instanceMethod yX4_readEnd, Cond.selects RX4 yX4_readEnd yX4_readEnd, Cond.code yX4_readEnd cX4_readEnd 1 (some .boolean), Cond.methodLink RX4 61 yX0_add, Cond.instanceMethod yX0_add, Cond.selects RX0 yX0_add yX0_add, Cond.initialized RX0]
def wsX4_readThing_r2 : List Cond := [Cond.code yX0_add cX0_add 5 none, Cond.fieldLink RX0 9 "FirstOut$House" "traits" "[I", Cond.fieldLink RX0 24 "FirstOut$House" "things" "I", Cond.fieldLink RX0 15 "FirstOut$House" "dear" "[I", Cond.fieldLink RX0 18 "FirstOut$House" "eager" "[I", Cond.fieldLink RX0 28 "FirstOut$House" "knowing" "I", Cond.methodLink RX0 43 yX0_hasRoom, Cond.instanceMethod yX0_hasRoom, Cond.selects RX0 yX0_hasRoom yX0_hasRoom, Cond.code yX0_hasRoom cX0_hasRoom 1 (some .boolean)]
def wsX4_readThing : List Cond := .code yX4_readThing cX4_readThing 6 (some .boolean) :: ((wsX4_readThing_r1 ++ wsX4_readThing_r2) ++ wsX40 ++ wsX00)
def wsX4_readVow : List Cond := .code yX4_readVow cX4_readVow 3 (some .boolean) :: ([.fieldLink RX4 24 "FirstOut$Text" "at" "I", .fieldLink RX4 27 "FirstOut$Text" "vowRead" "Z", .fieldLink RX4 65 "FirstOut$House" "words" "I", .methodLink RX4 54 yX4_readNumber, .instanceMethod yX4_readNumber, .selects RX4 yX4_readNumber yX4_readNumber, .initialized RX4, .code yX4_readNumber cX4_readNumber 5 (some .int), .fieldLink RX4 15 "FirstOut$Text" "length" "I", .fieldLink RX4 9 "FirstOut$Text" "letters" "[C", .methodLink RX4 77 Lib.Math.min.name, .static Lib.Math.min.name, .initialized "java/lang/Math", .code Lib.Math.min.name Lib.Math.min.code 2 (some .int), .methodLink RX4 34 yX4_skipBlanks, .instanceMethod yX4_skipBlanks, .selects RX4 yX4_skipBlanks yX4_skipBlanks, .code yX4_skipBlanks cX4_skipBlanks 1 none, .methodLink RX4 58 yX4_readEnd, .instanceMethod yX4_readEnd, .selects RX4 yX4_readEnd yX4_readEnd, .code yX4_readEnd cX4_readEnd 1 (some .boolean)] ++ wsX40 ++ wsX00)
def wsX4_readWar : List Cond := .code yX4_readWar cX4_readWar 5 (some .boolean) :: ([.fieldLink RX4 24 "FirstOut$Text" "at" "I", .fieldLink RX4 31 "FirstOut$Text" "warRead" "Z", .fieldLink RX4 68 "FirstOut$House" "chance" "I", .fieldLink RX4 71 "FirstOut$House" "help" "I", .fieldLink RX4 74 "FirstOut$House" "worth" "I", .methodLink RX4 54 yX4_readNumber, .instanceMethod yX4_readNumber, .selects RX4 yX4_readNumber yX4_readNumber, .initialized RX4, .code yX4_readNumber cX4_readNumber 5 (some .int), .fieldLink RX4 15 "FirstOut$Text" "length" "I", .fieldLink RX4 9 "FirstOut$Text" "letters" "[C", .methodLink RX4 77 Lib.Math.min.name, .static Lib.Math.min.name, .initialized "java/lang/Math", .code Lib.Math.min.name Lib.Math.min.code 2 (some .int), .methodLink RX4 34 yX4_skipBlanks, .instanceMethod yX4_skipBlanks, .selects RX4 yX4_skipBlanks yX4_skipBlanks, .code yX4_skipBlanks cX4_skipBlanks 1 none, .methodLink RX4 58 yX4_readEnd, .instanceMethod yX4_readEnd, .selects RX4 yX4_readEnd yX4_readEnd, .code yX4_readEnd cX4_readEnd 1 (some .boolean)] ++ wsX40 ++ wsX00)
def wsX4_readItem_r1 : List Cond := [Cond.fieldLink RX4 9 "FirstOut$Text" "letters" "[C", Cond.fieldLink RX4 24 "FirstOut$Text" "at" "I", Cond.fieldLink RX4 27 "FirstOut$Text" "vowRead" "Z", Cond.fieldLink RX4 31 "FirstOut$Text" "warRead" "Z", Cond.methodLink RX4 41 yX0_hasRoom, Cond.instanceMethod yX0_hasRoom, Cond.selects RX0 yX0_hasRoom yX0_hasRoom, Cond.initialized RX0, Cond.code yX0_hasRoom cX0_hasRoom 1 (some .boolean), Cond.fieldLink RX0 24 "FirstOut$House" "things" "I", Cond.methodLink RX4 45 yX4_readThing, Cond.instanceMethod yX4_readThing, Cond.selects RX4 yX4_readThing yX4_readThing, Cond.initialized RX4, Cond.code yX4_readThing cX4_readThing 6 (some .boolean), Cond.methodLink RX4 54 yX4_readNumber, Cond.instanceMethod yX4_readNumber, Cond.selects RX4 yX4_readNumber yX4_readNumber, Cond.code yX4_readNumber cX4_readNumber 5 (some .int), Cond.fieldLink RX4 15 "FirstOut$Text" "length" "I", Cond.methodLink RX4 77 Lib.Math.min.name, Cond.static Lib.Math.min.name, Cond.initialized "java/lang/Math", Cond.code Lib.Math.min.name Lib.Math.min.code 2 (some .int)]
def wsX4_readItem_r2 : List Cond := [Cond.methodLink RX4 34 yX4_skipBlanks, Cond.instanceMethod yX4_skipBlanks, Cond.selects RX4 yX4_skipBlanks yX4_skipBlanks, Cond.code yX4_skipBlanks cX4_skipBlanks 1 none, Cond.methodLink RX4 58 yX4_readEnd, Cond.instanceMethod yX4_readEnd, Cond.selects RX4 yX4_readEnd yX4_readEnd, Cond.code yX4_readEnd cX4_readEnd 1 (some .boolean), Cond.methodLink RX4 61 yX0_add, Cond.instanceMethod yX0_add, Cond.selects RX0 yX0_add yX0_add, Cond.code yX0_add cX0_add 5 none, Cond.fieldLink RX0 9 "FirstOut$House" "traits" "[I", Cond.fieldLink RX0 15 "FirstOut$House" "dear" "[I", Cond.fieldLink RX0 18 "FirstOut$House" "eager" "[I", Cond.fieldLink RX0 28 "FirstOut$House" "knowing" "I", Cond.methodLink RX0 43 yX0_hasRoom, Cond.methodLink RX4 48 yX4_readVow, Cond.instanceMethod yX4_readVow, Cond.selects RX4 yX4_readVow yX4_readVow, Cond.code yX4_readVow cX4_readVow 3 (some .boolean), Cond.fieldLink RX4 65 "FirstOut$House" "words" "I", Cond.methodLink RX4 51 yX4_readWar, Cond.instanceMethod yX4_readWar]
def wsX4_readItem_r3 : List Cond := [Cond.selects RX4 yX4_readWar yX4_readWar, Cond.code yX4_readWar cX4_readWar 5 (some .boolean), Cond.fieldLink RX4 68 "FirstOut$House" "chance" "I", Cond.fieldLink RX4 71 "FirstOut$House" "help" "I", Cond.fieldLink RX4 74 "FirstOut$House" "worth" "I"]
def wsX4_readItem : List Cond := .code yX4_readItem cX4_readItem 2 (some .boolean) :: ((wsX4_readItem_r1 ++ (wsX4_readItem_r2 ++ wsX4_readItem_r3)) ++ wsX40 ++ wsX00)
def wsX4_readInto_r1 : List Cond := [Cond.fieldLink RX4 24 "FirstOut$Text" "at" "I", Cond.fieldLink RX4 27 "FirstOut$Text" "vowRead" "Z", Cond.fieldLink RX4 31 "FirstOut$Text" "warRead" "Z", Cond.fieldLink RX4 15 "FirstOut$Text" "length" "I", Cond.methodLink RX4 19 yX0_setBare, Cond.instanceMethod yX0_setBare, Cond.selects RX0 yX0_setBare yX0_setBare, Cond.initialized RX0, Cond.code yX0_setBare cX0_setBare 1 none, Cond.fieldLink RX0 24 "FirstOut$House" "things" "I", Cond.fieldLink RX0 28 "FirstOut$House" "knowing" "I", Cond.fieldLink RX0 31 "FirstOut$House" "words" "I", Cond.fieldLink RX0 34 "FirstOut$House" "chance" "I", Cond.fieldLink RX0 37 "FirstOut$House" "help" "I", Cond.fieldLink RX0 40 "FirstOut$House" "worth" "I", Cond.methodLink RX4 34 yX4_skipBlanks, Cond.instanceMethod yX4_skipBlanks, Cond.selects RX4 yX4_skipBlanks yX4_skipBlanks, Cond.initialized RX4, Cond.code yX4_skipBlanks cX4_skipBlanks 1 none, Cond.fieldLink RX4 9 "FirstOut$Text" "letters" "[C", Cond.methodLink RX4 37 yX4_readItem, Cond.instanceMethod yX4_readItem, Cond.selects RX4 yX4_readItem yX4_readItem]
def wsX4_readInto_r2 : List Cond := [Cond.code yX4_readItem cX4_readItem 2 (some .boolean), Cond.methodLink RX4 41 yX0_hasRoom, Cond.instanceMethod yX0_hasRoom, Cond.selects RX0 yX0_hasRoom yX0_hasRoom, Cond.code yX0_hasRoom cX0_hasRoom 1 (some .boolean), Cond.methodLink RX4 45 yX4_readThing, Cond.instanceMethod yX4_readThing, Cond.selects RX4 yX4_readThing yX4_readThing, Cond.code yX4_readThing cX4_readThing 6 (some .boolean), Cond.methodLink RX4 54 yX4_readNumber, Cond.instanceMethod yX4_readNumber, Cond.selects RX4 yX4_readNumber yX4_readNumber, Cond.code yX4_readNumber cX4_readNumber 5 (some .int), Cond.methodLink RX4 77 Lib.Math.min.name, Cond.static Lib.Math.min.name, Cond.initialized "java/lang/Math", Cond.code Lib.Math.min.name Lib.Math.min.code 2 (some .int), Cond.methodLink RX4 58 yX4_readEnd, Cond.instanceMethod yX4_readEnd, Cond.selects RX4 yX4_readEnd yX4_readEnd, Cond.code yX4_readEnd cX4_readEnd 1 (some .boolean), Cond.methodLink RX4 61 yX0_add, Cond.instanceMethod yX0_add, Cond.selects RX0 yX0_add yX0_add]
def wsX4_readInto_r3 : List Cond := [Cond.code yX0_add cX0_add 5 none, Cond.fieldLink RX0 9 "FirstOut$House" "traits" "[I", Cond.fieldLink RX0 15 "FirstOut$House" "dear" "[I", Cond.fieldLink RX0 18 "FirstOut$House" "eager" "[I", Cond.methodLink RX0 43 yX0_hasRoom, Cond.methodLink RX4 48 yX4_readVow, Cond.instanceMethod yX4_readVow, Cond.selects RX4 yX4_readVow yX4_readVow, Cond.code yX4_readVow cX4_readVow 3 (some .boolean), Cond.fieldLink RX4 65 "FirstOut$House" "words" "I", Cond.methodLink RX4 51 yX4_readWar, Cond.instanceMethod yX4_readWar, Cond.selects RX4 yX4_readWar yX4_readWar, Cond.code yX4_readWar cX4_readWar 5 (some .boolean), Cond.fieldLink RX4 68 "FirstOut$House" "chance" "I", Cond.fieldLink RX4 71 "FirstOut$House" "help" "I", Cond.fieldLink RX4 74 "FirstOut$House" "worth" "I"]
def wsX4_readInto : List Cond := .code yX4_readInto cX4_readInto 3 (some .int) :: ((wsX4_readInto_r1 ++ (wsX4_readInto_r2 ++ wsX4_readInto_r3)) ++ wsX40 ++ wsX00)
def wsX5_init_r1 : List Cond := [Cond.methodLink RX5 1 objectInit, Cond.instanceMethod objectInit, Cond.code objectInit ⟨#[0xb1]⟩ 1 none, Cond.classLink RX5 7 RX0, Cond.instantiable RX0 9, Cond.initialized RX0, Cond.fieldLink RX5 10 "FirstOut" "home" "LFirstOut$House;", Cond.fieldLink RX5 16 "FirstOut" "draft" "LFirstOut$House;", Cond.classLink RX5 19 RX4, Cond.instantiable RX4 5, Cond.initialized RX4, Cond.fieldLink RX5 22 "FirstOut" "text" "LFirstOut$Text;", Cond.classLink RX5 26 RX3, Cond.instantiable RX3 5, Cond.initialized RX3, Cond.fieldLink RX5 29 "FirstOut" "current" "LFirstOut$Standing;", Cond.fieldLink RX5 33 "FirstOut" "trial" "LFirstOut$Standing;", Cond.classLink RX5 36 RX1, Cond.instantiable RX1 3, Cond.initialized RX1, Cond.fieldLink RX5 39 "FirstOut" "past" "LFirstOut$Past;", Cond.fieldLink RX5 43 "FirstOut" "images" "[LFirstOut$Standing;", Cond.arrayClass .boolean, Cond.fieldLink RX5 47 "FirstOut" "imageKept" "[Z"]
def wsX5_init_r2 : List Cond := [Cond.classLink RX5 51 RX2, Cond.instantiable RX2 3, Cond.initialized RX2, Cond.fieldLink RX5 54 "FirstOut" "seen" "LFirstOut$Seen;", Cond.fieldLink RX5 58 "FirstOut" "traced" "J", Cond.methodLink RX5 9 yX0_init, Cond.instanceMethod yX0_init, Cond.code yX0_init cX0_init 1 none, Cond.methodLink RX0 3 objectInit, Cond.arrayClass .int, Cond.fieldLink RX0 9 "FirstOut$House" "traits" "[I", Cond.fieldLink RX0 15 "FirstOut$House" "dear" "[I", Cond.fieldLink RX0 18 "FirstOut$House" "eager" "[I", Cond.methodLink RX0 21 yX0_setBare, Cond.instanceMethod yX0_setBare, Cond.selects RX0 yX0_setBare yX0_setBare, Cond.code yX0_setBare cX0_setBare 1 none, Cond.fieldLink RX0 24 "FirstOut$House" "things" "I", Cond.fieldLink RX0 28 "FirstOut$House" "knowing" "I", Cond.fieldLink RX0 31 "FirstOut$House" "words" "I", Cond.fieldLink RX0 34 "FirstOut$House" "chance" "I", Cond.fieldLink RX0 37 "FirstOut$House" "help" "I", Cond.fieldLink RX0 40 "FirstOut$House" "worth" "I", Cond.instanceMethod yX4_init]
def wsX5_init_r3 : List Cond := [Cond.code yX4_init cX4_init 1 none, Cond.methodLink RX4 3 objectInit, Cond.arrayClass .char, Cond.fieldLink RX4 9 "FirstOut$Text" "letters" "[C", Cond.instanceMethod yX3_init, Cond.code yX3_init cX3_init 1 none, Cond.methodLink RX3 1 objectInit, Cond.methodLink RX5 38 yX1_init, Cond.instanceMethod yX1_init, Cond.code yX1_init cX1_init 2 none, Cond.methodLink RX1 3 objectInit, Cond.classLink RX1 9 RX3, Cond.fieldLink RX1 11 "FirstOut$Past" "steps" "[LFirstOut$Standing;", Cond.instanceMethod yX2_init, Cond.code yX2_init cX2_init 1 none, Cond.methodLink RX2 3 objectInit, Cond.fieldLink RX2 9 "FirstOut$Seen" "who" "[I", Cond.fieldLink RX2 15 "FirstOut$Seen" "wasGiven" "[I"]
def wsX5_init : List Cond := .code yX5_init cX5_init 2 none :: ((wsX5_init_r1 ++ (wsX5_init_r2 ++ wsX5_init_r3)) ++ wsX00 ++ wsX50 ++ wsX40 ++ wsX30 ++ wsX10 ++ wsX20)
def wsX5_type : List Cond := .code yX5_type cX5_type 2 (some .int) :: ([.fieldLink RX5 22 "FirstOut" "text" "LFirstOut$Text;", .fieldLink RX5 66 "FirstOut$Text" "length" "I", .methodLink RX5 62 yX4_add, .instanceMethod yX4_add, .selects RX4 yX4_add yX4_add, .initialized RX4, .code yX4_add cX4_add 2 (some .boolean), .fieldLink RX4 15 "FirstOut$Text" "length" "I", .fieldLink RX4 9 "FirstOut$Text" "letters" "[C"] ++ wsX50 ++ wsX40)
def wsX5_clear : List Cond := .code yX5_clear cX5_clear 2 (some .int) :: ([.fieldLink RX5 22 "FirstOut" "text" "LFirstOut$Text;", .fieldLink RX5 66 "FirstOut$Text" "length" "I"] ++ wsX50 ++ wsX40)
def wsX5_beginAnew : List Cond := .code yX5_beginAnew cX5_beginAnew 2 none :: ([.fieldLink RX5 29 "FirstOut" "current" "LFirstOut$Standing;", .fieldLink RX5 10 "FirstOut" "home" "LFirstOut$House;", .fieldLink RX5 227 "FirstOut$House" "words" "I", .fieldLink RX5 113 "FirstOut$Standing" "words" "I", .fieldLink RX5 228 "FirstOut$House" "knowing" "I", .fieldLink RX5 90 "FirstOut$Standing" "knowing" "I", .fieldLink RX5 97 "FirstOut$Standing" "kept" "I", .fieldLink RX5 100 "FirstOut$Standing" "given" "I", .fieldLink RX5 110 "FirstOut$Standing" "date" "I", .fieldLink RX5 39 "FirstOut" "past" "LFirstOut$Past;", .fieldLink RX5 120 "FirstOut$Past" "known" "I", .fieldLink RX5 54 "FirstOut" "seen" "LFirstOut$Seen;", .fieldLink RX5 193 "FirstOut$Seen" "known" "I", .fieldLink RX5 47 "FirstOut" "imageKept" "[Z"] ++ wsX50 ++ wsX00 ++ wsX30 ++ wsX10 ++ wsX20)
def wsX5_house_r1 : List Cond := [Cond.fieldLink RX5 22 "FirstOut" "text" "LFirstOut$Text;", Cond.fieldLink RX5 16 "FirstOut" "draft" "LFirstOut$House;", Cond.fieldLink RX5 10 "FirstOut" "home" "LFirstOut$House;", Cond.fieldLink RX5 66 "FirstOut$Text" "length" "I", Cond.methodLink RX5 70 yX4_readInto, Cond.instanceMethod yX4_readInto, Cond.selects RX4 yX4_readInto yX4_readInto, Cond.initialized RX4, Cond.code yX4_readInto cX4_readInto 3 (some .int), Cond.fieldLink RX4 24 "FirstOut$Text" "at" "I", Cond.fieldLink RX4 27 "FirstOut$Text" "vowRead" "Z", Cond.fieldLink RX4 31 "FirstOut$Text" "warRead" "Z", Cond.fieldLink RX4 15 "FirstOut$Text" "length" "I", Cond.methodLink RX4 19 yX0_setBare, Cond.instanceMethod yX0_setBare, Cond.selects RX0 yX0_setBare yX0_setBare, Cond.initialized RX0, Cond.code yX0_setBare cX0_setBare 1 none, Cond.fieldLink RX0 24 "FirstOut$House" "things" "I", Cond.fieldLink RX0 28 "FirstOut$House" "knowing" "I", Cond.fieldLink RX0 31 "FirstOut$House" "words" "I", Cond.fieldLink RX0 34 "FirstOut$House" "chance" "I", Cond.fieldLink RX0 37 "FirstOut$House" "help" "I", Cond.fieldLink RX0 40 "FirstOut$House" "worth" "I"]
def wsX5_house_r2 : List Cond := [Cond.methodLink RX4 34 yX4_skipBlanks, Cond.instanceMethod yX4_skipBlanks, Cond.selects RX4 yX4_skipBlanks yX4_skipBlanks, Cond.code yX4_skipBlanks cX4_skipBlanks 1 none, Cond.fieldLink RX4 9 "FirstOut$Text" "letters" "[C", Cond.methodLink RX4 37 yX4_readItem, Cond.instanceMethod yX4_readItem, Cond.selects RX4 yX4_readItem yX4_readItem, Cond.code yX4_readItem cX4_readItem 2 (some .boolean), Cond.methodLink RX4 41 yX0_hasRoom, Cond.instanceMethod yX0_hasRoom, Cond.selects RX0 yX0_hasRoom yX0_hasRoom, Cond.code yX0_hasRoom cX0_hasRoom 1 (some .boolean), Cond.methodLink RX4 45 yX4_readThing, Cond.instanceMethod yX4_readThing, Cond.selects RX4 yX4_readThing yX4_readThing, Cond.code yX4_readThing cX4_readThing 6 (some .boolean), Cond.methodLink RX4 54 yX4_readNumber, Cond.instanceMethod yX4_readNumber, Cond.selects RX4 yX4_readNumber yX4_readNumber, Cond.code yX4_readNumber cX4_readNumber 5 (some .int), Cond.methodLink RX4 77 Lib.Math.min.name, Cond.static Lib.Math.min.name, Cond.initialized "java/lang/Math"]
def wsX5_house_r3 : List Cond := [Cond.code Lib.Math.min.name Lib.Math.min.code 2 (some .int), Cond.methodLink RX4 58 yX4_readEnd, Cond.instanceMethod yX4_readEnd, Cond.selects RX4 yX4_readEnd yX4_readEnd, Cond.code yX4_readEnd cX4_readEnd 1 (some .boolean), Cond.methodLink RX4 61 yX0_add, Cond.instanceMethod yX0_add, Cond.selects RX0 yX0_add yX0_add, Cond.code yX0_add cX0_add 5 none, Cond.fieldLink RX0 9 "FirstOut$House" "traits" "[I", Cond.fieldLink RX0 15 "FirstOut$House" "dear" "[I", Cond.fieldLink RX0 18 "FirstOut$House" "eager" "[I", Cond.methodLink RX0 43 yX0_hasRoom, Cond.methodLink RX4 48 yX4_readVow, Cond.instanceMethod yX4_readVow, Cond.selects RX4 yX4_readVow yX4_readVow, Cond.code yX4_readVow cX4_readVow 3 (some .boolean), Cond.fieldLink RX4 65 "FirstOut$House" "words" "I", Cond.methodLink RX4 51 yX4_readWar, Cond.instanceMethod yX4_readWar, Cond.selects RX4 yX4_readWar yX4_readWar, Cond.code yX4_readWar cX4_readWar 5 (some .boolean), Cond.fieldLink RX4 68 "FirstOut$House" "chance" "I", Cond.fieldLink RX4 71 "FirstOut$House" "help" "I"]
def wsX5_house_r4 : List Cond := [Cond.fieldLink RX4 74 "FirstOut$House" "worth" "I", Cond.methodLink RX5 74 yX5_beginAnew, Cond.instanceMethod yX5_beginAnew, Cond.selects RX5 yX5_beginAnew yX5_beginAnew, Cond.initialized RX5, Cond.code yX5_beginAnew cX5_beginAnew 2 none, Cond.fieldLink RX5 29 "FirstOut" "current" "LFirstOut$Standing;", Cond.fieldLink RX5 227 "FirstOut$House" "words" "I", Cond.fieldLink RX5 113 "FirstOut$Standing" "words" "I", Cond.fieldLink RX5 228 "FirstOut$House" "knowing" "I", Cond.fieldLink RX5 90 "FirstOut$Standing" "knowing" "I", Cond.fieldLink RX5 97 "FirstOut$Standing" "kept" "I", Cond.fieldLink RX5 100 "FirstOut$Standing" "given" "I", Cond.fieldLink RX5 110 "FirstOut$Standing" "date" "I", Cond.fieldLink RX5 39 "FirstOut" "past" "LFirstOut$Past;", Cond.fieldLink RX5 120 "FirstOut$Past" "known" "I", Cond.fieldLink RX5 54 "FirstOut" "seen" "LFirstOut$Seen;", Cond.fieldLink RX5 193 "FirstOut$Seen" "known" "I", Cond.fieldLink RX5 47 "FirstOut" "imageKept" "[Z"]
def wsX5_house : List Cond := .code yX5_house cX5_house 3 (some .int) :: ((wsX5_house_r1 ++ (wsX5_house_r2 ++ (wsX5_house_r3 ++ wsX5_house_r4))) ++ wsX50 ++ wsX40 ++ wsX00 ++ wsX30 ++ wsX10 ++ wsX20)
def wsX5_coveredNow : List Cond := .code yX5_coveredNow cX5_coveredNow 1 (some .int) :: ([.fieldLink RX5 10 "FirstOut" "home" "LFirstOut$House;", .fieldLink RX5 29 "FirstOut" "current" "LFirstOut$Standing;", .fieldLink RX5 113 "FirstOut$Standing" "words" "I", .methodLink RX5 174 yX0_coveredBy, .instanceMethod yX0_coveredBy, .selects RX0 yX0_coveredBy yX0_coveredBy, .initialized RX0, .code yX0_coveredBy cX0_coveredBy 3 (some .int), .fieldLink RX0 51 "FirstOut$Standing" "given" "I", .methodLink RX0 47 yX0_having, .instanceMethod yX0_having, .selects RX0 yX0_having yX0_having, .code yX0_having cX0_having 4 (some .int), .fieldLink RX0 24 "FirstOut$House" "things" "I", .fieldLink RX0 9 "FirstOut$House" "traits" "[I"] ++ wsX50 ++ wsX30 ++ wsX00)
def wsX5_ableNow_r1 : List Cond := [Cond.fieldLink RX5 10 "FirstOut" "home" "LFirstOut$House;", Cond.fieldLink RX5 29 "FirstOut" "current" "LFirstOut$Standing;", Cond.fieldLink RX5 113 "FirstOut$Standing" "words" "I", Cond.methodLink RX5 178 yX0_ableBy, Cond.instanceMethod yX0_ableBy, Cond.selects RX0 yX0_ableBy yX0_ableBy, Cond.initialized RX0, Cond.code yX0_ableBy cX0_ableBy 4 (some .int), Cond.fieldLink RX0 56 "FirstOut$Standing" "knowing" "I", Cond.fieldLink RX0 51 "FirstOut$Standing" "given" "I", Cond.fieldLink RX0 65 "FirstOut$Standing" "kept" "I", Cond.methodLink RX0 57 yX0_coveredBy, Cond.instanceMethod yX0_coveredBy, Cond.selects RX0 yX0_coveredBy yX0_coveredBy, Cond.code yX0_coveredBy cX0_coveredBy 3 (some .int), Cond.methodLink RX0 47 yX0_having, Cond.instanceMethod yX0_having, Cond.selects RX0 yX0_having yX0_having, Cond.code yX0_having cX0_having 4 (some .int), Cond.fieldLink RX0 24 "FirstOut$House" "things" "I", Cond.fieldLink RX0 9 "FirstOut$House" "traits" "[I", Cond.methodLink RX0 61 yX0_eagerOnes, Cond.instanceMethod yX0_eagerOnes, Cond.selects RX0 yX0_eagerOnes yX0_eagerOnes]
def wsX5_ableNow_r2 : List Cond := [Cond.code yX0_eagerOnes cX0_eagerOnes 3 (some .int), Cond.fieldLink RX0 18 "FirstOut$House" "eager" "[I"]
def wsX5_ableNow : List Cond := .code yX5_ableNow cX5_ableNow 1 (some .int) :: ((wsX5_ableNow_r1 ++ wsX5_ableNow_r2) ++ wsX50 ++ wsX30 ++ wsX00)
def wsX5_thing_r1 : List Cond := [Cond.fieldLink RX5 10 "FirstOut" "home" "LFirstOut$House;", Cond.fieldLink RX5 80 "FirstOut$House" "traits" "[I", Cond.fieldLink RX5 84 "FirstOut$House" "dear" "[I", Cond.fieldLink RX5 87 "FirstOut$House" "eager" "[I", Cond.fieldLink RX5 29 "FirstOut" "current" "LFirstOut$Standing;", Cond.fieldLink RX5 90 "FirstOut$Standing" "knowing" "I", Cond.fieldLink RX5 97 "FirstOut$Standing" "kept" "I", Cond.fieldLink RX5 100 "FirstOut$Standing" "given" "I", Cond.methodLink RX5 77 yX0_holds, Cond.instanceMethod yX0_holds, Cond.selects RX0 yX0_holds yX0_holds, Cond.initialized RX0, Cond.code yX0_holds cX0_holds 2 (some .boolean), Cond.fieldLink RX0 24 "FirstOut$House" "things" "I", Cond.methodLink RX5 93 yX5_bitOf, Cond.static yX5_bitOf, Cond.initialized RX5, Cond.code yX5_bitOf cX5_bitOf 2 (some .int), Cond.methodLink RX5 103 yX5_coveredNow, Cond.instanceMethod yX5_coveredNow, Cond.selects RX5 yX5_coveredNow yX5_coveredNow, Cond.code yX5_coveredNow cX5_coveredNow 1 (some .int), Cond.fieldLink RX5 113 "FirstOut$Standing" "words" "I", Cond.methodLink RX5 174 yX0_coveredBy]
def wsX5_thing_r2 : List Cond := [Cond.instanceMethod yX0_coveredBy, Cond.selects RX0 yX0_coveredBy yX0_coveredBy, Cond.code yX0_coveredBy cX0_coveredBy 3 (some .int), Cond.fieldLink RX0 51 "FirstOut$Standing" "given" "I", Cond.methodLink RX0 47 yX0_having, Cond.instanceMethod yX0_having, Cond.selects RX0 yX0_having yX0_having, Cond.code yX0_having cX0_having 4 (some .int), Cond.fieldLink RX0 9 "FirstOut$House" "traits" "[I", Cond.methodLink RX5 107 yX5_ableNow, Cond.instanceMethod yX5_ableNow, Cond.selects RX5 yX5_ableNow yX5_ableNow, Cond.code yX5_ableNow cX5_ableNow 1 (some .int), Cond.methodLink RX5 178 yX0_ableBy, Cond.instanceMethod yX0_ableBy, Cond.selects RX0 yX0_ableBy yX0_ableBy, Cond.code yX0_ableBy cX0_ableBy 4 (some .int), Cond.fieldLink RX0 56 "FirstOut$Standing" "knowing" "I", Cond.fieldLink RX0 65 "FirstOut$Standing" "kept" "I", Cond.methodLink RX0 57 yX0_coveredBy, Cond.methodLink RX0 61 yX0_eagerOnes, Cond.instanceMethod yX0_eagerOnes, Cond.selects RX0 yX0_eagerOnes yX0_eagerOnes, Cond.code yX0_eagerOnes cX0_eagerOnes 3 (some .int)]
def wsX5_thing_r3 : List Cond := [Cond.fieldLink RX0 18 "FirstOut$House" "eager" "[I"]
def wsX5_thing : List Cond := .code yX5_thing cX5_thing 3 (some .int) :: ((wsX5_thing_r1 ++ (wsX5_thing_r2 ++ wsX5_thing_r3)) ++ wsX50 ++ wsX00 ++ wsX30)
def wsX5_now_r1 : List Cond := [Cond.fieldLink RX5 29 "FirstOut" "current" "LFirstOut$Standing;", Cond.fieldLink RX5 110 "FirstOut$Standing" "date" "I", Cond.fieldLink RX5 113 "FirstOut$Standing" "words" "I", Cond.fieldLink RX5 100 "FirstOut$Standing" "given" "I", Cond.fieldLink RX5 10 "FirstOut" "home" "LFirstOut$House;", Cond.fieldLink RX5 39 "FirstOut" "past" "LFirstOut$Past;", Cond.fieldLink RX5 120 "FirstOut$Past" "known" "I", Cond.methodLink RX5 103 yX5_coveredNow, Cond.instanceMethod yX5_coveredNow, Cond.selects RX5 yX5_coveredNow yX5_coveredNow, Cond.initialized RX5, Cond.code yX5_coveredNow cX5_coveredNow 1 (some .int), Cond.methodLink RX5 174 yX0_coveredBy, Cond.instanceMethod yX0_coveredBy, Cond.selects RX0 yX0_coveredBy yX0_coveredBy, Cond.initialized RX0, Cond.code yX0_coveredBy cX0_coveredBy 3 (some .int), Cond.fieldLink RX0 51 "FirstOut$Standing" "given" "I", Cond.methodLink RX0 47 yX0_having, Cond.instanceMethod yX0_having, Cond.selects RX0 yX0_having yX0_having, Cond.code yX0_having cX0_having 4 (some .int), Cond.fieldLink RX0 24 "FirstOut$House" "things" "I", Cond.fieldLink RX0 9 "FirstOut$House" "traits" "[I"]
def wsX5_now_r2 : List Cond := [Cond.methodLink RX5 107 yX5_ableNow, Cond.instanceMethod yX5_ableNow, Cond.selects RX5 yX5_ableNow yX5_ableNow, Cond.code yX5_ableNow cX5_ableNow 1 (some .int), Cond.methodLink RX5 178 yX0_ableBy, Cond.instanceMethod yX0_ableBy, Cond.selects RX0 yX0_ableBy yX0_ableBy, Cond.code yX0_ableBy cX0_ableBy 4 (some .int), Cond.fieldLink RX0 56 "FirstOut$Standing" "knowing" "I", Cond.fieldLink RX0 65 "FirstOut$Standing" "kept" "I", Cond.methodLink RX0 57 yX0_coveredBy, Cond.methodLink RX0 61 yX0_eagerOnes, Cond.instanceMethod yX0_eagerOnes, Cond.selects RX0 yX0_eagerOnes yX0_eagerOnes, Cond.code yX0_eagerOnes cX0_eagerOnes 3 (some .int), Cond.fieldLink RX0 18 "FirstOut$House" "eager" "[I", Cond.methodLink RX5 116 yX0_dearTogether, Cond.instanceMethod yX0_dearTogether, Cond.selects RX0 yX0_dearTogether yX0_dearTogether, Cond.code yX0_dearTogether cX0_dearTogether 4 (some .int), Cond.fieldLink RX0 15 "FirstOut$House" "dear" "[I", Cond.static yX5_bitOf, Cond.code yX5_bitOf cX5_bitOf 2 (some .int)]
def wsX5_now : List Cond := .code yX5_now cX5_now 2 (some .int) :: ((wsX5_now_r1 ++ wsX5_now_r2) ++ wsX50 ++ wsX30 ++ wsX10 ++ wsX00)
def wsX5_areWords : List Cond := .code yX5_areWords cX5_areWords 1 (some .boolean) :: ([])
def wsJ6_bitCount_0f7a4 : List Cond := .code yJ6_bitCount_0f7a4 cJ6_bitCount_0f7a4 1 (some .int) :: ([.constant RJ6 265 (1431655765), .constant RJ6 266 (858993459), .constant RJ6 267 (252645135)])
def wsX5_swears_r1 : List Cond := [Cond.fieldLink RX5 39 "FirstOut" "past" "LFirstOut$Past;", Cond.fieldLink RX5 29 "FirstOut" "current" "LFirstOut$Standing;", Cond.fieldLink RX5 113 "FirstOut$Standing" "words" "I", Cond.methodLink RX5 123 yX5_areWords, Cond.static yX5_areWords, Cond.initialized RX5, Cond.code yX5_areWords cX5_areWords 1 (some .boolean), Cond.methodLink RX5 126 yX1_push, Cond.instanceMethod yX1_push, Cond.selects RX1 yX1_push yX1_push, Cond.initialized RX1, Cond.code yX1_push cX1_push 2 none, Cond.fieldLink RX1 11 "FirstOut$Past" "steps" "[LFirstOut$Standing;", Cond.fieldLink RX1 18 "FirstOut$Past" "next" "I", Cond.fieldLink RX1 26 "FirstOut$Past" "known" "I", Cond.methodLink RX1 29 Lib.Math.min.name, Cond.static Lib.Math.min.name, Cond.initialized "java/lang/Math", Cond.code Lib.Math.min.name Lib.Math.min.code 2 (some .int), Cond.methodLink RX1 22 yX3_become, Cond.instanceMethod yX3_become, Cond.selects RX3 yX3_become yX3_become, Cond.initialized RX3, Cond.code yX3_become cX3_become 2 none]
def wsX5_swears_r2 : List Cond := [Cond.fieldLink RX3 7 "FirstOut$Standing" "words" "I", Cond.fieldLink RX3 13 "FirstOut$Standing" "knowing" "I", Cond.fieldLink RX3 16 "FirstOut$Standing" "kept" "I", Cond.fieldLink RX3 19 "FirstOut$Standing" "given" "I", Cond.fieldLink RX3 22 "FirstOut$Standing" "date" "I", Cond.methodLink RX5 103 yX5_coveredNow, Cond.instanceMethod yX5_coveredNow, Cond.selects RX5 yX5_coveredNow yX5_coveredNow, Cond.code yX5_coveredNow cX5_coveredNow 1 (some .int), Cond.fieldLink RX5 10 "FirstOut" "home" "LFirstOut$House;", Cond.methodLink RX5 174 yX0_coveredBy, Cond.instanceMethod yX0_coveredBy, Cond.selects RX0 yX0_coveredBy yX0_coveredBy, Cond.initialized RX0, Cond.code yX0_coveredBy cX0_coveredBy 3 (some .int), Cond.fieldLink RX0 51 "FirstOut$Standing" "given" "I", Cond.methodLink RX0 47 yX0_having, Cond.instanceMethod yX0_having, Cond.selects RX0 yX0_having yX0_having, Cond.code yX0_having cX0_having 4 (some .int), Cond.fieldLink RX0 24 "FirstOut$House" "things" "I", Cond.fieldLink RX0 9 "FirstOut$House" "traits" "[I", Cond.methodLink RX5 130 yJ6_bitCount_0f7a4, Cond.static yJ6_bitCount_0f7a4]
def wsX5_swears_r3 : List Cond := [Cond.initialized RJ6, Cond.code yJ6_bitCount_0f7a4 cJ6_bitCount_0f7a4 1 (some .int), Cond.constant RJ6 265 (1431655765), Cond.constant RJ6 266 (858993459), Cond.constant RJ6 267 (252645135)]
def wsX5_swears : List Cond := .code yX5_swears cX5_swears 2 (some .int) :: ((wsX5_swears_r1 ++ (wsX5_swears_r2 ++ wsX5_swears_r3)) ++ wsX50 ++ wsX30 ++ wsX10 ++ wsX00)
def wsX5_isYesOrNo : List Cond := .code yX5_isYesOrNo cX5_isYesOrNo 1 (some .boolean) :: ([])
def wsX5_withBit : List Cond := .code yX5_withBit cX5_withBit 3 (some .int) :: ([])
def wsX5_keepsIn_r1 : List Cond := [Cond.fieldLink RX5 10 "FirstOut" "home" "LFirstOut$House;", Cond.fieldLink RX5 39 "FirstOut" "past" "LFirstOut$Past;", Cond.fieldLink RX5 29 "FirstOut" "current" "LFirstOut$Standing;", Cond.fieldLink RX5 97 "FirstOut$Standing" "kept" "I", Cond.methodLink RX5 77 yX0_holds, Cond.instanceMethod yX0_holds, Cond.selects RX0 yX0_holds yX0_holds, Cond.initialized RX0, Cond.code yX0_holds cX0_holds 2 (some .boolean), Cond.fieldLink RX0 24 "FirstOut$House" "things" "I", Cond.methodLink RX5 135 yX5_isYesOrNo, Cond.static yX5_isYesOrNo, Cond.initialized RX5, Cond.code yX5_isYesOrNo cX5_isYesOrNo 1 (some .boolean), Cond.methodLink RX5 126 yX1_push, Cond.instanceMethod yX1_push, Cond.selects RX1 yX1_push yX1_push, Cond.initialized RX1, Cond.code yX1_push cX1_push 2 none, Cond.fieldLink RX1 11 "FirstOut$Past" "steps" "[LFirstOut$Standing;", Cond.fieldLink RX1 18 "FirstOut$Past" "next" "I", Cond.fieldLink RX1 26 "FirstOut$Past" "known" "I", Cond.methodLink RX1 29 Lib.Math.min.name, Cond.static Lib.Math.min.name]
def wsX5_keepsIn_r2 : List Cond := [Cond.initialized "java/lang/Math", Cond.code Lib.Math.min.name Lib.Math.min.code 2 (some .int), Cond.methodLink RX1 22 yX3_become, Cond.instanceMethod yX3_become, Cond.selects RX3 yX3_become yX3_become, Cond.initialized RX3, Cond.code yX3_become cX3_become 2 none, Cond.fieldLink RX3 7 "FirstOut$Standing" "words" "I", Cond.fieldLink RX3 13 "FirstOut$Standing" "knowing" "I", Cond.fieldLink RX3 16 "FirstOut$Standing" "kept" "I", Cond.fieldLink RX3 19 "FirstOut$Standing" "given" "I", Cond.fieldLink RX3 22 "FirstOut$Standing" "date" "I", Cond.methodLink RX5 93 yX5_bitOf, Cond.static yX5_bitOf, Cond.code yX5_bitOf cX5_bitOf 2 (some .int), Cond.methodLink RX5 138 yX5_withBit, Cond.static yX5_withBit, Cond.code yX5_withBit cX5_withBit 3 (some .int)]
def wsX5_keepsIn : List Cond := .code yX5_keepsIn cX5_keepsIn 4 (some .int) :: ((wsX5_keepsIn_r1 ++ wsX5_keepsIn_r2) ++ wsX50 ++ wsX30 ++ wsX00 ++ wsX10)
def wsX5_tells_r1 : List Cond := [Cond.fieldLink RX5 10 "FirstOut" "home" "LFirstOut$House;", Cond.fieldLink RX5 39 "FirstOut" "past" "LFirstOut$Past;", Cond.fieldLink RX5 29 "FirstOut" "current" "LFirstOut$Standing;", Cond.fieldLink RX5 90 "FirstOut$Standing" "knowing" "I", Cond.methodLink RX5 77 yX0_holds, Cond.instanceMethod yX0_holds, Cond.selects RX0 yX0_holds yX0_holds, Cond.initialized RX0, Cond.code yX0_holds cX0_holds 2 (some .boolean), Cond.fieldLink RX0 24 "FirstOut$House" "things" "I", Cond.methodLink RX5 135 yX5_isYesOrNo, Cond.static yX5_isYesOrNo, Cond.initialized RX5, Cond.code yX5_isYesOrNo cX5_isYesOrNo 1 (some .boolean), Cond.methodLink RX5 126 yX1_push, Cond.instanceMethod yX1_push, Cond.selects RX1 yX1_push yX1_push, Cond.initialized RX1, Cond.code yX1_push cX1_push 2 none, Cond.fieldLink RX1 11 "FirstOut$Past" "steps" "[LFirstOut$Standing;", Cond.fieldLink RX1 18 "FirstOut$Past" "next" "I", Cond.fieldLink RX1 26 "FirstOut$Past" "known" "I", Cond.methodLink RX1 29 Lib.Math.min.name, Cond.static Lib.Math.min.name]
def wsX5_tells_r2 : List Cond := [Cond.initialized "java/lang/Math", Cond.code Lib.Math.min.name Lib.Math.min.code 2 (some .int), Cond.methodLink RX1 22 yX3_become, Cond.instanceMethod yX3_become, Cond.selects RX3 yX3_become yX3_become, Cond.initialized RX3, Cond.code yX3_become cX3_become 2 none, Cond.fieldLink RX3 7 "FirstOut$Standing" "words" "I", Cond.fieldLink RX3 13 "FirstOut$Standing" "knowing" "I", Cond.fieldLink RX3 16 "FirstOut$Standing" "kept" "I", Cond.fieldLink RX3 19 "FirstOut$Standing" "given" "I", Cond.fieldLink RX3 22 "FirstOut$Standing" "date" "I", Cond.methodLink RX5 93 yX5_bitOf, Cond.static yX5_bitOf, Cond.code yX5_bitOf cX5_bitOf 2 (some .int), Cond.methodLink RX5 138 yX5_withBit, Cond.static yX5_withBit, Cond.code yX5_withBit cX5_withBit 3 (some .int)]
def wsX5_tells : List Cond := .code yX5_tells cX5_tells 4 (some .int) :: ((wsX5_tells_r1 ++ wsX5_tells_r2) ++ wsX50 ++ wsX30 ++ wsX00 ++ wsX10)
def wsX5_isZ : List Cond := .code yX5_isZ cX5_isZ 1 (some .boolean) :: ([])
def wsX5_drawn : List Cond := .code yX5_drawn cX5_drawn 7 (some .int) :: ([.constantLong RX5 245 (7919), .constantLong RX5 247 (4253), .constantLong RX5 249 (65521), .constantLong RX5 251 (8)])
def wsX5_passDay_r1 : List Cond := [Cond.fieldLink RX5 10 "FirstOut" "home" "LFirstOut$House;", Cond.fieldLink RX5 113 "FirstOut$Standing" "words" "I", Cond.fieldLink RX5 110 "FirstOut$Standing" "date" "I", Cond.fieldLink RX5 100 "FirstOut$Standing" "given" "I", Cond.methodLink RX5 178 yX0_ableBy, Cond.instanceMethod yX0_ableBy, Cond.selects RX0 yX0_ableBy yX0_ableBy, Cond.initialized RX0, Cond.code yX0_ableBy cX0_ableBy 4 (some .int), Cond.fieldLink RX0 56 "FirstOut$Standing" "knowing" "I", Cond.fieldLink RX0 51 "FirstOut$Standing" "given" "I", Cond.fieldLink RX0 65 "FirstOut$Standing" "kept" "I", Cond.methodLink RX0 57 yX0_coveredBy, Cond.instanceMethod yX0_coveredBy, Cond.selects RX0 yX0_coveredBy yX0_coveredBy, Cond.code yX0_coveredBy cX0_coveredBy 3 (some .int), Cond.methodLink RX0 47 yX0_having, Cond.instanceMethod yX0_having, Cond.selects RX0 yX0_having yX0_having, Cond.code yX0_having cX0_having 4 (some .int), Cond.fieldLink RX0 24 "FirstOut$House" "things" "I", Cond.fieldLink RX0 9 "FirstOut$House" "traits" "[I", Cond.methodLink RX0 61 yX0_eagerOnes, Cond.instanceMethod yX0_eagerOnes]
def wsX5_passDay_r2 : List Cond := [Cond.selects RX0 yX0_eagerOnes yX0_eagerOnes, Cond.code yX0_eagerOnes cX0_eagerOnes 3 (some .int), Cond.fieldLink RX0 18 "FirstOut$House" "eager" "[I", Cond.methodLink RX5 203 yX0_eagerTogether, Cond.instanceMethod yX0_eagerTogether, Cond.selects RX0 yX0_eagerTogether yX0_eagerTogether, Cond.code yX0_eagerTogether cX0_eagerTogether 4 (some .int), Cond.static yX5_bitOf, Cond.initialized RX5, Cond.code yX5_bitOf cX5_bitOf 2 (some .int), Cond.methodLink RX5 206 yX5_drawn, Cond.static yX5_drawn, Cond.code yX5_drawn cX5_drawn 7 (some .int), Cond.constantLong RX5 245 (7919), Cond.constantLong RX5 247 (4253), Cond.constantLong RX5 249 (65521), Cond.constantLong RX5 251 (8), Cond.methodLink RX5 229 yX0_countedOff, Cond.instanceMethod yX0_countedOff, Cond.selects RX0 yX0_countedOff yX0_countedOff, Cond.code yX0_countedOff cX0_countedOff 6 (some .int), Cond.methodLink RX5 174 yX0_coveredBy]
def wsX5_passDay : List Cond := .code yX5_passDay cX5_passDay 5 (some .int) :: ((wsX5_passDay_r1 ++ wsX5_passDay_r2) ++ wsX50 ++ wsX30 ++ wsX00)
def wsX5_day_r1 : List Cond := [Cond.fieldLink RX5 29 "FirstOut" "current" "LFirstOut$Standing;", Cond.fieldLink RX5 110 "FirstOut$Standing" "date" "I", Cond.fieldLink RX5 39 "FirstOut" "past" "LFirstOut$Past;", Cond.methodLink RX5 142 yX5_isZ, Cond.static yX5_isZ, Cond.initialized RX5, Cond.code yX5_isZ cX5_isZ 1 (some .boolean), Cond.methodLink RX5 126 yX1_push, Cond.instanceMethod yX1_push, Cond.selects RX1 yX1_push yX1_push, Cond.initialized RX1, Cond.code yX1_push cX1_push 2 none, Cond.fieldLink RX1 11 "FirstOut$Past" "steps" "[LFirstOut$Standing;", Cond.fieldLink RX1 18 "FirstOut$Past" "next" "I", Cond.fieldLink RX1 26 "FirstOut$Past" "known" "I", Cond.methodLink RX1 29 Lib.Math.min.name, Cond.static Lib.Math.min.name, Cond.initialized "java/lang/Math", Cond.code Lib.Math.min.name Lib.Math.min.code 2 (some .int), Cond.methodLink RX1 22 yX3_become, Cond.instanceMethod yX3_become, Cond.selects RX3 yX3_become yX3_become, Cond.initialized RX3, Cond.code yX3_become cX3_become 2 none]
def wsX5_day_r2 : List Cond := [Cond.fieldLink RX3 7 "FirstOut$Standing" "words" "I", Cond.fieldLink RX3 13 "FirstOut$Standing" "knowing" "I", Cond.fieldLink RX3 16 "FirstOut$Standing" "kept" "I", Cond.fieldLink RX3 19 "FirstOut$Standing" "given" "I", Cond.fieldLink RX3 22 "FirstOut$Standing" "date" "I", Cond.methodLink RX5 145 yX5_passDay, Cond.instanceMethod yX5_passDay, Cond.selects RX5 yX5_passDay yX5_passDay, Cond.code yX5_passDay cX5_passDay 5 (some .int), Cond.fieldLink RX5 10 "FirstOut" "home" "LFirstOut$House;", Cond.fieldLink RX5 113 "FirstOut$Standing" "words" "I", Cond.fieldLink RX5 100 "FirstOut$Standing" "given" "I", Cond.methodLink RX5 178 yX0_ableBy, Cond.instanceMethod yX0_ableBy, Cond.selects RX0 yX0_ableBy yX0_ableBy, Cond.initialized RX0, Cond.code yX0_ableBy cX0_ableBy 4 (some .int), Cond.fieldLink RX0 56 "FirstOut$Standing" "knowing" "I", Cond.fieldLink RX0 51 "FirstOut$Standing" "given" "I", Cond.fieldLink RX0 65 "FirstOut$Standing" "kept" "I", Cond.methodLink RX0 57 yX0_coveredBy, Cond.instanceMethod yX0_coveredBy, Cond.selects RX0 yX0_coveredBy yX0_coveredBy, Cond.code yX0_coveredBy cX0_coveredBy 3 (some .int)]
def wsX5_day_r3 : List Cond := [Cond.methodLink RX0 47 yX0_having, Cond.instanceMethod yX0_having, Cond.selects RX0 yX0_having yX0_having, Cond.code yX0_having cX0_having 4 (some .int), Cond.fieldLink RX0 24 "FirstOut$House" "things" "I", Cond.fieldLink RX0 9 "FirstOut$House" "traits" "[I", Cond.methodLink RX0 61 yX0_eagerOnes, Cond.instanceMethod yX0_eagerOnes, Cond.selects RX0 yX0_eagerOnes yX0_eagerOnes, Cond.code yX0_eagerOnes cX0_eagerOnes 3 (some .int), Cond.fieldLink RX0 18 "FirstOut$House" "eager" "[I", Cond.methodLink RX5 203 yX0_eagerTogether, Cond.instanceMethod yX0_eagerTogether, Cond.selects RX0 yX0_eagerTogether yX0_eagerTogether, Cond.code yX0_eagerTogether cX0_eagerTogether 4 (some .int), Cond.static yX5_bitOf, Cond.code yX5_bitOf cX5_bitOf 2 (some .int), Cond.methodLink RX5 206 yX5_drawn, Cond.static yX5_drawn, Cond.code yX5_drawn cX5_drawn 7 (some .int), Cond.constantLong RX5 245 (7919), Cond.constantLong RX5 247 (4253), Cond.constantLong RX5 249 (65521), Cond.constantLong RX5 251 (8)]
def wsX5_day_r4 : List Cond := [Cond.methodLink RX5 229 yX0_countedOff, Cond.instanceMethod yX0_countedOff, Cond.selects RX0 yX0_countedOff yX0_countedOff, Cond.code yX0_countedOff cX0_countedOff 6 (some .int), Cond.methodLink RX5 174 yX0_coveredBy]
def wsX5_day : List Cond := .code yX5_day cX5_day 2 (some .int) :: ((wsX5_day_r1 ++ (wsX5_day_r2 ++ (wsX5_day_r3 ++ wsX5_day_r4))) ++ wsX50 ++ wsX30 ++ wsX10 ++ wsX00)
def wsX5_undo : List Cond := .code yX5_undo cX5_undo 1 (some .int) :: ([.fieldLink RX5 39 "FirstOut" "past" "LFirstOut$Past;", .fieldLink RX5 120 "FirstOut$Past" "known" "I", .fieldLink RX5 29 "FirstOut" "current" "LFirstOut$Standing;", .methodLink RX5 149 yX1_pop, .instanceMethod yX1_pop, .selects RX1 yX1_pop yX1_pop, .initialized RX1, .code yX1_pop cX1_pop 2 none, .fieldLink RX1 18 "FirstOut$Past" "next" "I", .fieldLink RX1 26 "FirstOut$Past" "known" "I", .fieldLink RX1 11 "FirstOut$Past" "steps" "[LFirstOut$Standing;", .methodLink RX1 22 yX3_become, .instanceMethod yX3_become, .selects RX3 yX3_become yX3_become, .initialized RX3, .code yX3_become cX3_become 2 none, .fieldLink RX3 7 "FirstOut$Standing" "words" "I", .fieldLink RX3 13 "FirstOut$Standing" "knowing" "I", .fieldLink RX3 16 "FirstOut$Standing" "kept" "I", .fieldLink RX3 19 "FirstOut$Standing" "given" "I", .fieldLink RX3 22 "FirstOut$Standing" "date" "I"] ++ wsX50 ++ wsX10 ++ wsX30)
def wsX5_commonDivisor : List Cond := .code yX5_commonDivisor cX5_commonDivisor 6 (some .int) :: ([])
def wsX5_partOf : List Cond := .code yX5_partOf cX5_partOf 4 (some .int) :: ([.methodLink RX5 253 Lib.Math.abs.name, .static Lib.Math.abs.name, .initialized "java/lang/Math", .code Lib.Math.abs.name Lib.Math.abs.code 1 (some .int), .methodLink RX5 258 yX5_commonDivisor, .static yX5_commonDivisor, .initialized RX5, .code yX5_commonDivisor cX5_commonDivisor 6 (some .int)])
def wsX5_harm_r1 : List Cond := [Cond.fieldLink RX5 10 "FirstOut" "home" "LFirstOut$House;", Cond.methodLink RX5 135 yX5_isYesOrNo, Cond.static yX5_isYesOrNo, Cond.initialized RX5, Cond.code yX5_isYesOrNo cX5_isYesOrNo 1 (some .boolean), Cond.methodLink RX5 107 yX5_ableNow, Cond.instanceMethod yX5_ableNow, Cond.selects RX5 yX5_ableNow yX5_ableNow, Cond.code yX5_ableNow cX5_ableNow 1 (some .int), Cond.fieldLink RX5 29 "FirstOut" "current" "LFirstOut$Standing;", Cond.fieldLink RX5 113 "FirstOut$Standing" "words" "I", Cond.methodLink RX5 178 yX0_ableBy, Cond.instanceMethod yX0_ableBy, Cond.selects RX0 yX0_ableBy yX0_ableBy, Cond.initialized RX0, Cond.code yX0_ableBy cX0_ableBy 4 (some .int), Cond.fieldLink RX0 56 "FirstOut$Standing" "knowing" "I", Cond.fieldLink RX0 51 "FirstOut$Standing" "given" "I", Cond.fieldLink RX0 65 "FirstOut$Standing" "kept" "I", Cond.methodLink RX0 57 yX0_coveredBy, Cond.instanceMethod yX0_coveredBy, Cond.selects RX0 yX0_coveredBy yX0_coveredBy, Cond.code yX0_coveredBy cX0_coveredBy 3 (some .int), Cond.methodLink RX0 47 yX0_having]
def wsX5_harm_r2 : List Cond := [Cond.instanceMethod yX0_having, Cond.selects RX0 yX0_having yX0_having, Cond.code yX0_having cX0_having 4 (some .int), Cond.fieldLink RX0 24 "FirstOut$House" "things" "I", Cond.fieldLink RX0 9 "FirstOut$House" "traits" "[I", Cond.methodLink RX0 61 yX0_eagerOnes, Cond.instanceMethod yX0_eagerOnes, Cond.selects RX0 yX0_eagerOnes yX0_eagerOnes, Cond.code yX0_eagerOnes cX0_eagerOnes 3 (some .int), Cond.fieldLink RX0 18 "FirstOut$House" "eager" "[I", Cond.methodLink RX5 103 yX5_coveredNow, Cond.instanceMethod yX5_coveredNow, Cond.selects RX5 yX5_coveredNow yX5_coveredNow, Cond.code yX5_coveredNow cX5_coveredNow 1 (some .int), Cond.methodLink RX5 174 yX0_coveredBy, Cond.methodLink RX5 152 yX0_harmUpper, Cond.instanceMethod yX0_harmUpper, Cond.selects RX0 yX0_harmUpper yX0_harmUpper, Cond.code yX0_harmUpper cX0_harmUpper 5 (some .int), Cond.fieldLink RX0 15 "FirstOut$House" "dear" "[I", Cond.static yX5_bitOf, Cond.code yX5_bitOf cX5_bitOf 2 (some .int), Cond.methodLink RX5 155 yX0_shares, Cond.instanceMethod yX0_shares]
def wsX5_harm_r3 : List Cond := [Cond.selects RX0 yX0_shares yX0_shares, Cond.code yX0_shares cX0_shares 2 (some .int), Cond.methodLink RX0 75 Lib.Math.max.name, Cond.static Lib.Math.max.name, Cond.initialized "java/lang/Math", Cond.code Lib.Math.max.name Lib.Math.max.code 2 (some .int), Cond.methodLink RX0 72 yX0_eagerTogether, Cond.instanceMethod yX0_eagerTogether, Cond.selects RX0 yX0_eagerTogether yX0_eagerTogether, Cond.code yX0_eagerTogether cX0_eagerTogether 4 (some .int), Cond.methodLink RX5 158 yX5_partOf, Cond.static yX5_partOf, Cond.code yX5_partOf cX5_partOf 4 (some .int), Cond.methodLink RX5 253 Lib.Math.abs.name, Cond.static Lib.Math.abs.name, Cond.code Lib.Math.abs.name Lib.Math.abs.code 1 (some .int), Cond.methodLink RX5 258 yX5_commonDivisor, Cond.static yX5_commonDivisor, Cond.code yX5_commonDivisor cX5_commonDivisor 6 (some .int)]
def wsX5_harm : List Cond := .code yX5_harm cX5_harm 3 (some .int) :: ((wsX5_harm_r1 ++ (wsX5_harm_r2 ++ wsX5_harm_r3)) ++ wsX50 ++ wsX30 ++ wsX00)
def wsX5_odds_r1 : List Cond := [Cond.fieldLink RX5 10 "FirstOut" "home" "LFirstOut$House;", Cond.fieldLink RX5 87 "FirstOut$House" "eager" "[I", Cond.methodLink RX5 77 yX0_holds, Cond.instanceMethod yX0_holds, Cond.selects RX0 yX0_holds yX0_holds, Cond.initialized RX0, Cond.code yX0_holds cX0_holds 2 (some .boolean), Cond.fieldLink RX0 24 "FirstOut$House" "things" "I", Cond.methodLink RX5 135 yX5_isYesOrNo, Cond.static yX5_isYesOrNo, Cond.initialized RX5, Cond.code yX5_isYesOrNo cX5_isYesOrNo 1 (some .boolean), Cond.methodLink RX5 107 yX5_ableNow, Cond.instanceMethod yX5_ableNow, Cond.selects RX5 yX5_ableNow yX5_ableNow, Cond.code yX5_ableNow cX5_ableNow 1 (some .int), Cond.fieldLink RX5 29 "FirstOut" "current" "LFirstOut$Standing;", Cond.fieldLink RX5 113 "FirstOut$Standing" "words" "I", Cond.methodLink RX5 178 yX0_ableBy, Cond.instanceMethod yX0_ableBy, Cond.selects RX0 yX0_ableBy yX0_ableBy, Cond.code yX0_ableBy cX0_ableBy 4 (some .int), Cond.fieldLink RX0 56 "FirstOut$Standing" "knowing" "I", Cond.fieldLink RX0 51 "FirstOut$Standing" "given" "I"]
def wsX5_odds_r2 : List Cond := [Cond.fieldLink RX0 65 "FirstOut$Standing" "kept" "I", Cond.methodLink RX0 57 yX0_coveredBy, Cond.instanceMethod yX0_coveredBy, Cond.selects RX0 yX0_coveredBy yX0_coveredBy, Cond.code yX0_coveredBy cX0_coveredBy 3 (some .int), Cond.methodLink RX0 47 yX0_having, Cond.instanceMethod yX0_having, Cond.selects RX0 yX0_having yX0_having, Cond.code yX0_having cX0_having 4 (some .int), Cond.fieldLink RX0 9 "FirstOut$House" "traits" "[I", Cond.methodLink RX0 61 yX0_eagerOnes, Cond.instanceMethod yX0_eagerOnes, Cond.selects RX0 yX0_eagerOnes yX0_eagerOnes, Cond.code yX0_eagerOnes cX0_eagerOnes 3 (some .int), Cond.fieldLink RX0 18 "FirstOut$House" "eager" "[I", Cond.methodLink RX5 93 yX5_bitOf, Cond.static yX5_bitOf, Cond.code yX5_bitOf cX5_bitOf 2 (some .int), Cond.methodLink RX5 155 yX0_shares, Cond.instanceMethod yX0_shares, Cond.selects RX0 yX0_shares yX0_shares, Cond.code yX0_shares cX0_shares 2 (some .int), Cond.methodLink RX0 75 Lib.Math.max.name, Cond.static Lib.Math.max.name]
def wsX5_odds_r3 : List Cond := [Cond.initialized "java/lang/Math", Cond.code Lib.Math.max.name Lib.Math.max.code 2 (some .int), Cond.methodLink RX0 72 yX0_eagerTogether, Cond.instanceMethod yX0_eagerTogether, Cond.selects RX0 yX0_eagerTogether yX0_eagerTogether, Cond.code yX0_eagerTogether cX0_eagerTogether 4 (some .int), Cond.methodLink RX5 158 yX5_partOf, Cond.static yX5_partOf, Cond.code yX5_partOf cX5_partOf 4 (some .int), Cond.methodLink RX5 253 Lib.Math.abs.name, Cond.static Lib.Math.abs.name, Cond.code Lib.Math.abs.name Lib.Math.abs.code 1 (some .int), Cond.methodLink RX5 258 yX5_commonDivisor, Cond.static yX5_commonDivisor, Cond.code yX5_commonDivisor cX5_commonDivisor 6 (some .int)]
def wsX5_odds : List Cond := .code yX5_odds cX5_odds 5 (some .int) :: ((wsX5_odds_r1 ++ (wsX5_odds_r2 ++ wsX5_odds_r3)) ++ wsX50 ++ wsX00 ++ wsX30)
def wsX5_swear_r1 : List Cond := [Cond.constant RX5 161 (-1000000), Cond.fieldLink RX5 10 "FirstOut" "home" "LFirstOut$House;", Cond.fieldLink RX5 162 "FirstOut$House" "help" "I", Cond.fieldLink RX5 165 "FirstOut$House" "worth" "I", Cond.fieldLink RX5 168 "FirstOut$House" "chance" "I", Cond.methodLink RX5 135 yX5_isYesOrNo, Cond.static yX5_isYesOrNo, Cond.initialized RX5, Cond.code yX5_isYesOrNo cX5_isYesOrNo 1 (some .boolean), Cond.methodLink RX5 107 yX5_ableNow, Cond.instanceMethod yX5_ableNow, Cond.selects RX5 yX5_ableNow yX5_ableNow, Cond.code yX5_ableNow cX5_ableNow 1 (some .int), Cond.fieldLink RX5 29 "FirstOut" "current" "LFirstOut$Standing;", Cond.fieldLink RX5 113 "FirstOut$Standing" "words" "I", Cond.methodLink RX5 178 yX0_ableBy, Cond.instanceMethod yX0_ableBy, Cond.selects RX0 yX0_ableBy yX0_ableBy, Cond.initialized RX0, Cond.code yX0_ableBy cX0_ableBy 4 (some .int), Cond.fieldLink RX0 56 "FirstOut$Standing" "knowing" "I", Cond.fieldLink RX0 51 "FirstOut$Standing" "given" "I", Cond.fieldLink RX0 65 "FirstOut$Standing" "kept" "I", Cond.methodLink RX0 57 yX0_coveredBy]
def wsX5_swear_r2 : List Cond := [Cond.instanceMethod yX0_coveredBy, Cond.selects RX0 yX0_coveredBy yX0_coveredBy, Cond.code yX0_coveredBy cX0_coveredBy 3 (some .int), Cond.methodLink RX0 47 yX0_having, Cond.instanceMethod yX0_having, Cond.selects RX0 yX0_having yX0_having, Cond.code yX0_having cX0_having 4 (some .int), Cond.fieldLink RX0 24 "FirstOut$House" "things" "I", Cond.fieldLink RX0 9 "FirstOut$House" "traits" "[I", Cond.methodLink RX0 61 yX0_eagerOnes, Cond.instanceMethod yX0_eagerOnes, Cond.selects RX0 yX0_eagerOnes yX0_eagerOnes, Cond.code yX0_eagerOnes cX0_eagerOnes 3 (some .int), Cond.fieldLink RX0 18 "FirstOut$House" "eager" "[I", Cond.methodLink RX5 103 yX5_coveredNow, Cond.instanceMethod yX5_coveredNow, Cond.selects RX5 yX5_coveredNow yX5_coveredNow, Cond.code yX5_coveredNow cX5_coveredNow 1 (some .int), Cond.methodLink RX5 174 yX0_coveredBy, Cond.methodLink RX5 152 yX0_harmUpper, Cond.instanceMethod yX0_harmUpper, Cond.selects RX0 yX0_harmUpper yX0_harmUpper, Cond.code yX0_harmUpper cX0_harmUpper 5 (some .int), Cond.fieldLink RX0 15 "FirstOut$House" "dear" "[I"]
def wsX5_swear_r3 : List Cond := [Cond.static yX5_bitOf, Cond.code yX5_bitOf cX5_bitOf 2 (some .int), Cond.methodLink RX5 155 yX0_shares, Cond.instanceMethod yX0_shares, Cond.selects RX0 yX0_shares yX0_shares, Cond.code yX0_shares cX0_shares 2 (some .int), Cond.methodLink RX0 75 Lib.Math.max.name, Cond.static Lib.Math.max.name, Cond.initialized "java/lang/Math", Cond.code Lib.Math.max.name Lib.Math.max.code 2 (some .int), Cond.methodLink RX0 72 yX0_eagerTogether, Cond.instanceMethod yX0_eagerTogether, Cond.selects RX0 yX0_eagerTogether yX0_eagerTogether, Cond.code yX0_eagerTogether cX0_eagerTogether 4 (some .int), Cond.methodLink RX5 158 yX5_partOf, Cond.static yX5_partOf, Cond.code yX5_partOf cX5_partOf 4 (some .int), Cond.methodLink RX5 253 Lib.Math.abs.name, Cond.static Lib.Math.abs.name, Cond.code Lib.Math.abs.name Lib.Math.abs.code 1 (some .int), Cond.methodLink RX5 258 yX5_commonDivisor, Cond.static yX5_commonDivisor, Cond.code yX5_commonDivisor cX5_commonDivisor 6 (some .int)]
def wsX5_swear : List Cond := .code yX5_swear cX5_swear 7 (some .int) :: ((wsX5_swear_r1 ++ (wsX5_swear_r2 ++ wsX5_swear_r3)) ++ wsX50 ++ wsX00 ++ wsX30)
def wsX5_sense : List Cond := .code yX5_sense cX5_sense 4 (some .int) :: ([.fieldLink RX5 10 "FirstOut" "home" "LFirstOut$House;", .fieldLink RX5 171 "FirstOut$House" "things" "I", .fieldLink RX5 80 "FirstOut$House" "traits" "[I", .fieldLink RX5 29 "FirstOut" "current" "LFirstOut$Standing;", .fieldLink RX5 113 "FirstOut$Standing" "words" "I", .fieldLink RX5 100 "FirstOut$Standing" "given" "I", .methodLink RX5 130 yJ6_bitCount_0f7a4, .static yJ6_bitCount_0f7a4, .initialized RJ6, .code yJ6_bitCount_0f7a4 cJ6_bitCount_0f7a4 1 (some .int), .constant RJ6 265 (1431655765), .constant RJ6 266 (858993459), .constant RJ6 267 (252645135)] ++ wsX50 ++ wsX00 ++ wsX30)
def wsX5_both : List Cond := .code yX5_both cX5_both 2 (some .int) :: ([.fieldLink RX5 10 "FirstOut" "home" "LFirstOut$House;", .fieldLink RX5 29 "FirstOut" "current" "LFirstOut$Standing;", .methodLink RX5 123 yX5_areWords, .static yX5_areWords, .initialized RX5, .code yX5_areWords cX5_areWords 1 (some .boolean), .methodLink RX5 103 yX5_coveredNow, .instanceMethod yX5_coveredNow, .selects RX5 yX5_coveredNow yX5_coveredNow, .code yX5_coveredNow cX5_coveredNow 1 (some .int), .fieldLink RX5 113 "FirstOut$Standing" "words" "I", .methodLink RX5 174 yX0_coveredBy, .instanceMethod yX0_coveredBy, .selects RX0 yX0_coveredBy yX0_coveredBy, .initialized RX0, .code yX0_coveredBy cX0_coveredBy 3 (some .int), .fieldLink RX0 51 "FirstOut$Standing" "given" "I", .methodLink RX0 47 yX0_having, .instanceMethod yX0_having, .selects RX0 yX0_having yX0_having, .code yX0_having cX0_having 4 (some .int), .fieldLink RX0 24 "FirstOut$House" "things" "I", .fieldLink RX0 9 "FirstOut$House" "traits" "[I"] ++ wsX50 ++ wsX30 ++ wsX00)
def wsX5_fewerWords : List Cond := .code yX5_fewerWords cX5_fewerWords 2 (some .int) :: ([.methodLink RX5 130 yJ6_bitCount_0f7a4, .static yJ6_bitCount_0f7a4, .initialized RJ6, .code yJ6_bitCount_0f7a4 cJ6_bitCount_0f7a4 1 (some .int), .constant RJ6 265 (1431655765), .constant RJ6 266 (858993459), .constant RJ6 267 (252645135)])
def wsX5_means_r1 : List Cond := [Cond.fieldLink RX5 10 "FirstOut" "home" "LFirstOut$House;", Cond.fieldLink RX5 171 "FirstOut$House" "things" "I", Cond.fieldLink RX5 29 "FirstOut" "current" "LFirstOut$Standing;", Cond.methodLink RX5 178 yX0_ableBy, Cond.instanceMethod yX0_ableBy, Cond.selects RX0 yX0_ableBy yX0_ableBy, Cond.initialized RX0, Cond.code yX0_ableBy cX0_ableBy 4 (some .int), Cond.fieldLink RX0 56 "FirstOut$Standing" "knowing" "I", Cond.fieldLink RX0 51 "FirstOut$Standing" "given" "I", Cond.fieldLink RX0 65 "FirstOut$Standing" "kept" "I", Cond.methodLink RX0 57 yX0_coveredBy, Cond.instanceMethod yX0_coveredBy, Cond.selects RX0 yX0_coveredBy yX0_coveredBy, Cond.code yX0_coveredBy cX0_coveredBy 3 (some .int), Cond.methodLink RX0 47 yX0_having, Cond.instanceMethod yX0_having, Cond.selects RX0 yX0_having yX0_having, Cond.code yX0_having cX0_having 4 (some .int), Cond.fieldLink RX0 24 "FirstOut$House" "things" "I", Cond.fieldLink RX0 9 "FirstOut$House" "traits" "[I", Cond.methodLink RX0 61 yX0_eagerOnes, Cond.instanceMethod yX0_eagerOnes, Cond.selects RX0 yX0_eagerOnes yX0_eagerOnes]
def wsX5_means_r2 : List Cond := [Cond.code yX0_eagerOnes cX0_eagerOnes 3 (some .int), Cond.fieldLink RX0 18 "FirstOut$House" "eager" "[I", Cond.methodLink RX5 174 yX0_coveredBy, Cond.methodLink RX5 181 yX5_fewerWords, Cond.static yX5_fewerWords, Cond.initialized RX5, Cond.code yX5_fewerWords cX5_fewerWords 2 (some .int), Cond.methodLink RX5 130 yJ6_bitCount_0f7a4, Cond.static yJ6_bitCount_0f7a4, Cond.initialized RJ6, Cond.code yJ6_bitCount_0f7a4 cJ6_bitCount_0f7a4 1 (some .int), Cond.constant RJ6 265 (1431655765), Cond.constant RJ6 266 (858993459), Cond.constant RJ6 267 (252645135)]
def wsX5_means : List Cond := .code yX5_means cX5_means 5 (some .int) :: ((wsX5_means_r1 ++ wsX5_means_r2) ++ wsX50 ++ wsX00 ++ wsX30)
def wsX5_span_r1 : List Cond := [Cond.fieldLink RX5 10 "FirstOut" "home" "LFirstOut$House;", Cond.fieldLink RX5 29 "FirstOut" "current" "LFirstOut$Standing;", Cond.methodLink RX5 174 yX0_coveredBy, Cond.instanceMethod yX0_coveredBy, Cond.selects RX0 yX0_coveredBy yX0_coveredBy, Cond.initialized RX0, Cond.code yX0_coveredBy cX0_coveredBy 3 (some .int), Cond.fieldLink RX0 51 "FirstOut$Standing" "given" "I", Cond.methodLink RX0 47 yX0_having, Cond.instanceMethod yX0_having, Cond.selects RX0 yX0_having yX0_having, Cond.code yX0_having cX0_having 4 (some .int), Cond.fieldLink RX0 24 "FirstOut$House" "things" "I", Cond.fieldLink RX0 9 "FirstOut$House" "traits" "[I", Cond.methodLink RX5 130 yJ6_bitCount_0f7a4, Cond.static yJ6_bitCount_0f7a4, Cond.initialized RJ6, Cond.code yJ6_bitCount_0f7a4 cJ6_bitCount_0f7a4 1 (some .int), Cond.constant RJ6 265 (1431655765), Cond.constant RJ6 266 (858993459), Cond.constant RJ6 267 (252645135), Cond.methodLink RX5 181 yX5_fewerWords, Cond.static yX5_fewerWords, Cond.initialized RX5]
def wsX5_span_r2 : List Cond := [Cond.code yX5_fewerWords cX5_fewerWords 2 (some .int)]
def wsX5_span : List Cond := .code yX5_span cX5_span 3 (some .int) :: ((wsX5_span_r1 ++ wsX5_span_r2) ++ wsX50 ++ wsX30 ++ wsX00)
def wsJ6_compare_7cf53 : List Cond := .code yJ6_compare_7cf53 cJ6_compare_7cf53 2 (some .int) :: ([])
def wsX5_leastHarmful_r1 : List Cond := [Cond.fieldLink RX5 10 "FirstOut" "home" "LFirstOut$House;", Cond.fieldLink RX5 171 "FirstOut$House" "things" "I", Cond.methodLink RX5 107 yX5_ableNow, Cond.instanceMethod yX5_ableNow, Cond.selects RX5 yX5_ableNow yX5_ableNow, Cond.initialized RX5, Cond.code yX5_ableNow cX5_ableNow 1 (some .int), Cond.fieldLink RX5 29 "FirstOut" "current" "LFirstOut$Standing;", Cond.fieldLink RX5 113 "FirstOut$Standing" "words" "I", Cond.methodLink RX5 178 yX0_ableBy, Cond.instanceMethod yX0_ableBy, Cond.selects RX0 yX0_ableBy yX0_ableBy, Cond.initialized RX0, Cond.code yX0_ableBy cX0_ableBy 4 (some .int), Cond.fieldLink RX0 56 "FirstOut$Standing" "knowing" "I", Cond.fieldLink RX0 51 "FirstOut$Standing" "given" "I", Cond.fieldLink RX0 65 "FirstOut$Standing" "kept" "I", Cond.methodLink RX0 57 yX0_coveredBy, Cond.instanceMethod yX0_coveredBy, Cond.selects RX0 yX0_coveredBy yX0_coveredBy, Cond.code yX0_coveredBy cX0_coveredBy 3 (some .int), Cond.methodLink RX0 47 yX0_having, Cond.instanceMethod yX0_having, Cond.selects RX0 yX0_having yX0_having]
def wsX5_leastHarmful_r2 : List Cond := [Cond.code yX0_having cX0_having 4 (some .int), Cond.fieldLink RX0 24 "FirstOut$House" "things" "I", Cond.fieldLink RX0 9 "FirstOut$House" "traits" "[I", Cond.methodLink RX0 61 yX0_eagerOnes, Cond.instanceMethod yX0_eagerOnes, Cond.selects RX0 yX0_eagerOnes yX0_eagerOnes, Cond.code yX0_eagerOnes cX0_eagerOnes 3 (some .int), Cond.fieldLink RX0 18 "FirstOut$House" "eager" "[I", Cond.methodLink RX5 103 yX5_coveredNow, Cond.instanceMethod yX5_coveredNow, Cond.selects RX5 yX5_coveredNow yX5_coveredNow, Cond.code yX5_coveredNow cX5_coveredNow 1 (some .int), Cond.methodLink RX5 174 yX0_coveredBy, Cond.methodLink RX5 152 yX0_harmUpper, Cond.instanceMethod yX0_harmUpper, Cond.selects RX0 yX0_harmUpper yX0_harmUpper, Cond.code yX0_harmUpper cX0_harmUpper 5 (some .int), Cond.fieldLink RX0 15 "FirstOut$House" "dear" "[I", Cond.static yX5_bitOf, Cond.code yX5_bitOf cX5_bitOf 2 (some .int), Cond.methodLink RX5 155 yX0_shares, Cond.instanceMethod yX0_shares, Cond.selects RX0 yX0_shares yX0_shares, Cond.code yX0_shares cX0_shares 2 (some .int)]
def wsX5_leastHarmful_r3 : List Cond := [Cond.methodLink RX0 75 Lib.Math.max.name, Cond.static Lib.Math.max.name, Cond.initialized "java/lang/Math", Cond.code Lib.Math.max.name Lib.Math.max.code 2 (some .int), Cond.methodLink RX0 72 yX0_eagerTogether, Cond.instanceMethod yX0_eagerTogether, Cond.selects RX0 yX0_eagerTogether yX0_eagerTogether, Cond.code yX0_eagerTogether cX0_eagerTogether 4 (some .int), Cond.methodLink RX5 130 yJ6_bitCount_0f7a4, Cond.static yJ6_bitCount_0f7a4, Cond.initialized RJ6, Cond.code yJ6_bitCount_0f7a4 cJ6_bitCount_0f7a4 1 (some .int), Cond.constant RJ6 265 (1431655765), Cond.constant RJ6 266 (858993459), Cond.constant RJ6 267 (252645135), Cond.methodLink RX5 232 yJ6_compare_7cf53, Cond.static yJ6_compare_7cf53, Cond.code yJ6_compare_7cf53 cJ6_compare_7cf53 2 (some .int)]
def wsX5_leastHarmful : List Cond := .code yX5_leastHarmful cX5_leastHarmful 11 (some .int) :: ((wsX5_leastHarmful_r1 ++ (wsX5_leastHarmful_r2 ++ wsX5_leastHarmful_r3)) ++ wsX50 ++ wsX00 ++ wsX30)
def wsX5_shut_r1 : List Cond := [Cond.fieldLink RX5 10 "FirstOut" "home" "LFirstOut$House;", Cond.methodLink RX5 184 yX5_leastHarmful, Cond.instanceMethod yX5_leastHarmful, Cond.selects RX5 yX5_leastHarmful yX5_leastHarmful, Cond.initialized RX5, Cond.code yX5_leastHarmful cX5_leastHarmful 11 (some .int), Cond.fieldLink RX5 171 "FirstOut$House" "things" "I", Cond.methodLink RX5 107 yX5_ableNow, Cond.instanceMethod yX5_ableNow, Cond.selects RX5 yX5_ableNow yX5_ableNow, Cond.code yX5_ableNow cX5_ableNow 1 (some .int), Cond.fieldLink RX5 29 "FirstOut" "current" "LFirstOut$Standing;", Cond.fieldLink RX5 113 "FirstOut$Standing" "words" "I", Cond.methodLink RX5 178 yX0_ableBy, Cond.instanceMethod yX0_ableBy, Cond.selects RX0 yX0_ableBy yX0_ableBy, Cond.initialized RX0, Cond.code yX0_ableBy cX0_ableBy 4 (some .int), Cond.fieldLink RX0 56 "FirstOut$Standing" "knowing" "I", Cond.fieldLink RX0 51 "FirstOut$Standing" "given" "I", Cond.fieldLink RX0 65 "FirstOut$Standing" "kept" "I", Cond.methodLink RX0 57 yX0_coveredBy, Cond.instanceMethod yX0_coveredBy, Cond.selects RX0 yX0_coveredBy yX0_coveredBy]
def wsX5_shut_r2 : List Cond := [Cond.code yX0_coveredBy cX0_coveredBy 3 (some .int), Cond.methodLink RX0 47 yX0_having, Cond.instanceMethod yX0_having, Cond.selects RX0 yX0_having yX0_having, Cond.code yX0_having cX0_having 4 (some .int), Cond.fieldLink RX0 24 "FirstOut$House" "things" "I", Cond.fieldLink RX0 9 "FirstOut$House" "traits" "[I", Cond.methodLink RX0 61 yX0_eagerOnes, Cond.instanceMethod yX0_eagerOnes, Cond.selects RX0 yX0_eagerOnes yX0_eagerOnes, Cond.code yX0_eagerOnes cX0_eagerOnes 3 (some .int), Cond.fieldLink RX0 18 "FirstOut$House" "eager" "[I", Cond.methodLink RX5 103 yX5_coveredNow, Cond.instanceMethod yX5_coveredNow, Cond.selects RX5 yX5_coveredNow yX5_coveredNow, Cond.code yX5_coveredNow cX5_coveredNow 1 (some .int), Cond.methodLink RX5 174 yX0_coveredBy, Cond.methodLink RX5 152 yX0_harmUpper, Cond.instanceMethod yX0_harmUpper, Cond.selects RX0 yX0_harmUpper yX0_harmUpper, Cond.code yX0_harmUpper cX0_harmUpper 5 (some .int), Cond.fieldLink RX0 15 "FirstOut$House" "dear" "[I", Cond.static yX5_bitOf, Cond.code yX5_bitOf cX5_bitOf 2 (some .int)]
def wsX5_shut_r3 : List Cond := [Cond.methodLink RX5 155 yX0_shares, Cond.instanceMethod yX0_shares, Cond.selects RX0 yX0_shares yX0_shares, Cond.code yX0_shares cX0_shares 2 (some .int), Cond.methodLink RX0 75 Lib.Math.max.name, Cond.static Lib.Math.max.name, Cond.initialized "java/lang/Math", Cond.code Lib.Math.max.name Lib.Math.max.code 2 (some .int), Cond.methodLink RX0 72 yX0_eagerTogether, Cond.instanceMethod yX0_eagerTogether, Cond.selects RX0 yX0_eagerTogether yX0_eagerTogether, Cond.code yX0_eagerTogether cX0_eagerTogether 4 (some .int), Cond.methodLink RX5 130 yJ6_bitCount_0f7a4, Cond.static yJ6_bitCount_0f7a4, Cond.initialized RJ6, Cond.code yJ6_bitCount_0f7a4 cJ6_bitCount_0f7a4 1 (some .int), Cond.constant RJ6 265 (1431655765), Cond.constant RJ6 266 (858993459), Cond.constant RJ6 267 (252645135), Cond.methodLink RX5 232 yJ6_compare_7cf53, Cond.static yJ6_compare_7cf53, Cond.code yJ6_compare_7cf53 cJ6_compare_7cf53 2 (some .int), Cond.methodLink RX5 158 yX5_partOf, Cond.static yX5_partOf]
def wsX5_shut_r4 : List Cond := [Cond.code yX5_partOf cX5_partOf 4 (some .int), Cond.methodLink RX5 253 Lib.Math.abs.name, Cond.static Lib.Math.abs.name, Cond.code Lib.Math.abs.name Lib.Math.abs.code 1 (some .int), Cond.methodLink RX5 258 yX5_commonDivisor, Cond.static yX5_commonDivisor, Cond.code yX5_commonDivisor cX5_commonDivisor 6 (some .int)]
def wsX5_shut : List Cond := .code yX5_shut cX5_shut 5 (some .int) :: ((wsX5_shut_r1 ++ (wsX5_shut_r2 ++ (wsX5_shut_r3 ++ wsX5_shut_r4))) ++ wsX50 ++ wsX00 ++ wsX30)
def wsX5_tell_r1 : List Cond := [Cond.fieldLink RX5 10 "FirstOut" "home" "LFirstOut$House;", Cond.methodLink RX5 107 yX5_ableNow, Cond.instanceMethod yX5_ableNow, Cond.selects RX5 yX5_ableNow yX5_ableNow, Cond.initialized RX5, Cond.code yX5_ableNow cX5_ableNow 1 (some .int), Cond.fieldLink RX5 29 "FirstOut" "current" "LFirstOut$Standing;", Cond.fieldLink RX5 113 "FirstOut$Standing" "words" "I", Cond.methodLink RX5 178 yX0_ableBy, Cond.instanceMethod yX0_ableBy, Cond.selects RX0 yX0_ableBy yX0_ableBy, Cond.initialized RX0, Cond.code yX0_ableBy cX0_ableBy 4 (some .int), Cond.fieldLink RX0 56 "FirstOut$Standing" "knowing" "I", Cond.fieldLink RX0 51 "FirstOut$Standing" "given" "I", Cond.fieldLink RX0 65 "FirstOut$Standing" "kept" "I", Cond.methodLink RX0 57 yX0_coveredBy, Cond.instanceMethod yX0_coveredBy, Cond.selects RX0 yX0_coveredBy yX0_coveredBy, Cond.code yX0_coveredBy cX0_coveredBy 3 (some .int), Cond.methodLink RX0 47 yX0_having, Cond.instanceMethod yX0_having, Cond.selects RX0 yX0_having yX0_having, Cond.code yX0_having cX0_having 4 (some .int)]
def wsX5_tell_r2 : List Cond := [Cond.fieldLink RX0 24 "FirstOut$House" "things" "I", Cond.fieldLink RX0 9 "FirstOut$House" "traits" "[I", Cond.methodLink RX0 61 yX0_eagerOnes, Cond.instanceMethod yX0_eagerOnes, Cond.selects RX0 yX0_eagerOnes yX0_eagerOnes, Cond.code yX0_eagerOnes cX0_eagerOnes 3 (some .int), Cond.fieldLink RX0 18 "FirstOut$House" "eager" "[I", Cond.methodLink RX5 103 yX5_coveredNow, Cond.instanceMethod yX5_coveredNow, Cond.selects RX5 yX5_coveredNow yX5_coveredNow, Cond.code yX5_coveredNow cX5_coveredNow 1 (some .int), Cond.methodLink RX5 174 yX0_coveredBy, Cond.methodLink RX5 187 yX0_dearOnes, Cond.instanceMethod yX0_dearOnes, Cond.selects RX0 yX0_dearOnes yX0_dearOnes, Cond.code yX0_dearOnes cX0_dearOnes 4 (some .int), Cond.fieldLink RX0 15 "FirstOut$House" "dear" "[I"]
def wsX5_tell : List Cond := .code yX5_tell cX5_tell 1 (some .int) :: ((wsX5_tell_r1 ++ wsX5_tell_r2) ++ wsX50 ++ wsX30 ++ wsX00)
def wsX5_saw : List Cond := .code yX5_saw cX5_saw 3 (some .int) :: ([.fieldLink RX5 10 "FirstOut" "home" "LFirstOut$House;", .fieldLink RX5 54 "FirstOut" "seen" "LFirstOut$Seen;", .fieldLink RX5 193 "FirstOut$Seen" "known" "I", .methodLink RX5 77 yX0_holds, .instanceMethod yX0_holds, .selects RX0 yX0_holds yX0_holds, .initialized RX0, .code yX0_holds cX0_holds 2 (some .boolean), .fieldLink RX0 24 "FirstOut$House" "things" "I", .methodLink RX5 135 yX5_isYesOrNo, .static yX5_isYesOrNo, .initialized RX5, .code yX5_isYesOrNo cX5_isYesOrNo 1 (some .boolean), .methodLink RX5 190 yX2_add, .instanceMethod yX2_add, .selects RX2 yX2_add yX2_add, .initialized RX2, .code yX2_add cX2_add 3 (some .boolean), .fieldLink RX2 18 "FirstOut$Seen" "known" "I", .fieldLink RX2 9 "FirstOut$Seen" "who" "[I", .fieldLink RX2 15 "FirstOut$Seen" "wasGiven" "[I"] ++ wsX50 ++ wsX20 ++ wsX00)
def wsX5_forget : List Cond := .code yX5_forget cX5_forget 2 (some .int) :: ([.fieldLink RX5 54 "FirstOut" "seen" "LFirstOut$Seen;", .fieldLink RX5 193 "FirstOut$Seen" "known" "I"] ++ wsX50 ++ wsX20)
def wsX5_fit : List Cond := .code yX5_fit cX5_fit 6 (some .int) :: ([.fieldLink RX5 54 "FirstOut" "seen" "LFirstOut$Seen;", .fieldLink RX5 10 "FirstOut" "home" "LFirstOut$House;", .methodLink RX5 194 yX0_having, .instanceMethod yX0_having, .selects RX0 yX0_having yX0_having, .initialized RX0, .code yX0_having cX0_having 4 (some .int), .fieldLink RX0 24 "FirstOut$House" "things" "I", .fieldLink RX0 9 "FirstOut$House" "traits" "[I", .methodLink RX5 197 yX2_isSoBy, .instanceMethod yX2_isSoBy, .selects RX2 yX2_isSoBy yX2_isSoBy, .initialized RX2, .code yX2_isSoBy cX2_isSoBy 3 (some .boolean), .fieldLink RX2 18 "FirstOut$Seen" "known" "I", .fieldLink RX2 9 "FirstOut$Seen" "who" "[I", .fieldLink RX2 15 "FirstOut$Seen" "wasGiven" "[I", .static yX5_bitOf, .initialized RX5, .code yX5_bitOf cX5_bitOf 2 (some .int)] ++ wsX50 ++ wsX00 ++ wsX20)
def wsX5_lost_r1 : List Cond := [Cond.fieldLink RX5 33 "FirstOut" "trial" "LFirstOut$Standing;", Cond.fieldLink RX5 29 "FirstOut" "current" "LFirstOut$Standing;", Cond.fieldLink RX5 100 "FirstOut$Standing" "given" "I", Cond.methodLink RX5 142 yX5_isZ, Cond.static yX5_isZ, Cond.initialized RX5, Cond.code yX5_isZ cX5_isZ 1 (some .boolean), Cond.methodLink RX5 200 yX3_become, Cond.instanceMethod yX3_become, Cond.selects RX3 yX3_become yX3_become, Cond.initialized RX3, Cond.code yX3_become cX3_become 2 none, Cond.fieldLink RX3 7 "FirstOut$Standing" "words" "I", Cond.fieldLink RX3 13 "FirstOut$Standing" "knowing" "I", Cond.fieldLink RX3 16 "FirstOut$Standing" "kept" "I", Cond.fieldLink RX3 19 "FirstOut$Standing" "given" "I", Cond.fieldLink RX3 22 "FirstOut$Standing" "date" "I", Cond.methodLink RX5 145 yX5_passDay, Cond.instanceMethod yX5_passDay, Cond.selects RX5 yX5_passDay yX5_passDay, Cond.code yX5_passDay cX5_passDay 5 (some .int), Cond.fieldLink RX5 10 "FirstOut" "home" "LFirstOut$House;", Cond.fieldLink RX5 113 "FirstOut$Standing" "words" "I", Cond.fieldLink RX5 110 "FirstOut$Standing" "date" "I"]
def wsX5_lost_r2 : List Cond := [Cond.methodLink RX5 178 yX0_ableBy, Cond.instanceMethod yX0_ableBy, Cond.selects RX0 yX0_ableBy yX0_ableBy, Cond.initialized RX0, Cond.code yX0_ableBy cX0_ableBy 4 (some .int), Cond.fieldLink RX0 56 "FirstOut$Standing" "knowing" "I", Cond.fieldLink RX0 51 "FirstOut$Standing" "given" "I", Cond.fieldLink RX0 65 "FirstOut$Standing" "kept" "I", Cond.methodLink RX0 57 yX0_coveredBy, Cond.instanceMethod yX0_coveredBy, Cond.selects RX0 yX0_coveredBy yX0_coveredBy, Cond.code yX0_coveredBy cX0_coveredBy 3 (some .int), Cond.methodLink RX0 47 yX0_having, Cond.instanceMethod yX0_having, Cond.selects RX0 yX0_having yX0_having, Cond.code yX0_having cX0_having 4 (some .int), Cond.fieldLink RX0 24 "FirstOut$House" "things" "I", Cond.fieldLink RX0 9 "FirstOut$House" "traits" "[I", Cond.methodLink RX0 61 yX0_eagerOnes, Cond.instanceMethod yX0_eagerOnes, Cond.selects RX0 yX0_eagerOnes yX0_eagerOnes, Cond.code yX0_eagerOnes cX0_eagerOnes 3 (some .int), Cond.fieldLink RX0 18 "FirstOut$House" "eager" "[I", Cond.methodLink RX5 203 yX0_eagerTogether]
def wsX5_lost_r3 : List Cond := [Cond.instanceMethod yX0_eagerTogether, Cond.selects RX0 yX0_eagerTogether yX0_eagerTogether, Cond.code yX0_eagerTogether cX0_eagerTogether 4 (some .int), Cond.static yX5_bitOf, Cond.code yX5_bitOf cX5_bitOf 2 (some .int), Cond.methodLink RX5 206 yX5_drawn, Cond.static yX5_drawn, Cond.code yX5_drawn cX5_drawn 7 (some .int), Cond.constantLong RX5 245 (7919), Cond.constantLong RX5 247 (4253), Cond.constantLong RX5 249 (65521), Cond.constantLong RX5 251 (8), Cond.methodLink RX5 229 yX0_countedOff, Cond.instanceMethod yX0_countedOff, Cond.selects RX0 yX0_countedOff yX0_countedOff, Cond.code yX0_countedOff cX0_countedOff 6 (some .int), Cond.methodLink RX5 174 yX0_coveredBy]
def wsX5_lost : List Cond := .code yX5_lost cX5_lost 4 (some .int) :: ((wsX5_lost_r1 ++ (wsX5_lost_r2 ++ wsX5_lost_r3)) ++ wsX50 ++ wsX30 ++ wsX00)
def wsX5_draw_r1 : List Cond := [Cond.fieldLink RX5 10 "FirstOut" "home" "LFirstOut$House;", Cond.fieldLink RX5 87 "FirstOut$House" "eager" "[I", Cond.fieldLink RX5 29 "FirstOut" "current" "LFirstOut$Standing;", Cond.fieldLink RX5 110 "FirstOut$Standing" "date" "I", Cond.methodLink RX5 77 yX0_holds, Cond.instanceMethod yX0_holds, Cond.selects RX0 yX0_holds yX0_holds, Cond.initialized RX0, Cond.code yX0_holds cX0_holds 2 (some .boolean), Cond.fieldLink RX0 24 "FirstOut$House" "things" "I", Cond.methodLink RX5 135 yX5_isYesOrNo, Cond.static yX5_isYesOrNo, Cond.initialized RX5, Cond.code yX5_isYesOrNo cX5_isYesOrNo 1 (some .boolean), Cond.methodLink RX5 107 yX5_ableNow, Cond.instanceMethod yX5_ableNow, Cond.selects RX5 yX5_ableNow yX5_ableNow, Cond.code yX5_ableNow cX5_ableNow 1 (some .int), Cond.fieldLink RX5 113 "FirstOut$Standing" "words" "I", Cond.methodLink RX5 178 yX0_ableBy, Cond.instanceMethod yX0_ableBy, Cond.selects RX0 yX0_ableBy yX0_ableBy, Cond.code yX0_ableBy cX0_ableBy 4 (some .int), Cond.fieldLink RX0 56 "FirstOut$Standing" "knowing" "I"]
def wsX5_draw_r2 : List Cond := [Cond.fieldLink RX0 51 "FirstOut$Standing" "given" "I", Cond.fieldLink RX0 65 "FirstOut$Standing" "kept" "I", Cond.methodLink RX0 57 yX0_coveredBy, Cond.instanceMethod yX0_coveredBy, Cond.selects RX0 yX0_coveredBy yX0_coveredBy, Cond.code yX0_coveredBy cX0_coveredBy 3 (some .int), Cond.methodLink RX0 47 yX0_having, Cond.instanceMethod yX0_having, Cond.selects RX0 yX0_having yX0_having, Cond.code yX0_having cX0_having 4 (some .int), Cond.fieldLink RX0 9 "FirstOut$House" "traits" "[I", Cond.methodLink RX0 61 yX0_eagerOnes, Cond.instanceMethod yX0_eagerOnes, Cond.selects RX0 yX0_eagerOnes yX0_eagerOnes, Cond.code yX0_eagerOnes cX0_eagerOnes 3 (some .int), Cond.fieldLink RX0 18 "FirstOut$House" "eager" "[I", Cond.methodLink RX5 93 yX5_bitOf, Cond.static yX5_bitOf, Cond.code yX5_bitOf cX5_bitOf 2 (some .int), Cond.methodLink RX5 203 yX0_eagerTogether, Cond.instanceMethod yX0_eagerTogether, Cond.selects RX0 yX0_eagerTogether yX0_eagerTogether, Cond.code yX0_eagerTogether cX0_eagerTogether 4 (some .int), Cond.methodLink RX5 155 yX0_shares]
def wsX5_draw_r3 : List Cond := [Cond.instanceMethod yX0_shares, Cond.selects RX0 yX0_shares yX0_shares, Cond.code yX0_shares cX0_shares 2 (some .int), Cond.methodLink RX0 75 Lib.Math.max.name, Cond.static Lib.Math.max.name, Cond.initialized "java/lang/Math", Cond.code Lib.Math.max.name Lib.Math.max.code 2 (some .int), Cond.methodLink RX0 72 yX0_eagerTogether, Cond.methodLink RX5 206 yX5_drawn, Cond.static yX5_drawn, Cond.code yX5_drawn cX5_drawn 7 (some .int), Cond.constantLong RX5 245 (7919), Cond.constantLong RX5 247 (4253), Cond.constantLong RX5 249 (65521), Cond.constantLong RX5 251 (8)]
def wsX5_draw : List Cond := .code yX5_draw cX5_draw 11 (some .int) :: ((wsX5_draw_r1 ++ (wsX5_draw_r2 ++ wsX5_draw_r3)) ++ wsX50 ++ wsX00 ++ wsX30)
def wsX5_rateAsThing : List Cond := .code yX5_rateAsThing cX5_rateAsThing 2 (some .int) :: ([.fieldLink RX5 58 "FirstOut" "traced" "J", .fieldLink RX5 10 "FirstOut" "home" "LFirstOut$House;", .fieldLink RX5 84 "FirstOut$House" "dear" "[I"] ++ wsX50 ++ wsX00)
def wsX5_rateAsCalf : List Cond := .code yX5_rateAsCalf cX5_rateAsCalf 2 (some .int) :: ([.fieldLink RX5 58 "FirstOut" "traced" "J", .constantLong RX5 235 (10), .fieldLink RX5 10 "FirstOut" "home" "LFirstOut$House;", .fieldLink RX5 87 "FirstOut$House" "eager" "[I", .methodLink RX5 224 yX5_rateAsThing, .instanceMethod yX5_rateAsThing, .selects RX5 yX5_rateAsThing yX5_rateAsThing, .initialized RX5, .code yX5_rateAsThing cX5_rateAsThing 2 (some .int), .fieldLink RX5 84 "FirstOut$House" "dear" "[I"] ++ wsX50 ++ wsX00)
def wsX5_rateAsChild : List Cond := .code yX5_rateAsChild cX5_rateAsChild 2 (some .int) :: ([.fieldLink RX5 58 "FirstOut" "traced" "J", .constantLong RX5 237 (100), .fieldLink RX5 10 "FirstOut" "home" "LFirstOut$House;", .fieldLink RX5 80 "FirstOut$House" "traits" "[I", .methodLink RX5 224 yX5_rateAsThing, .instanceMethod yX5_rateAsThing, .selects RX5 yX5_rateAsThing yX5_rateAsThing, .initialized RX5, .code yX5_rateAsThing cX5_rateAsThing 2 (some .int), .fieldLink RX5 84 "FirstOut$House" "dear" "[I", .methodLink RX5 130 yJ6_bitCount_0f7a4, .static yJ6_bitCount_0f7a4, .initialized RJ6, .code yJ6_bitCount_0f7a4 cJ6_bitCount_0f7a4 1 (some .int), .constant RJ6 265 (1431655765), .constant RJ6 266 (858993459), .constant RJ6 267 (252645135)] ++ wsX50 ++ wsX00)
def wsX5_rateAsDog : List Cond := .code yX5_rateAsDog cX5_rateAsDog 2 (some .int) :: ([.fieldLink RX5 58 "FirstOut" "traced" "J", .constantLong RX5 239 (1000), .methodLink RX5 209 yX5_rateAsCalf, .instanceMethod yX5_rateAsCalf, .selects RX5 yX5_rateAsCalf yX5_rateAsCalf, .initialized RX5, .code yX5_rateAsCalf cX5_rateAsCalf 2 (some .int), .constantLong RX5 235 (10), .fieldLink RX5 10 "FirstOut" "home" "LFirstOut$House;", .fieldLink RX5 87 "FirstOut$House" "eager" "[I", .methodLink RX5 224 yX5_rateAsThing, .instanceMethod yX5_rateAsThing, .selects RX5 yX5_rateAsThing yX5_rateAsThing, .code yX5_rateAsThing cX5_rateAsThing 2 (some .int), .fieldLink RX5 84 "FirstOut$House" "dear" "[I"] ++ wsX50 ++ wsX00)
def wsX5_rateAsDrum : List Cond := .code yX5_rateAsDrum cX5_rateAsDrum 2 (some .int) :: ([.fieldLink RX5 58 "FirstOut" "traced" "J", .constantLong RX5 241 (10000), .methodLink RX5 212 yX5_rateAsChild, .instanceMethod yX5_rateAsChild, .selects RX5 yX5_rateAsChild yX5_rateAsChild, .initialized RX5, .code yX5_rateAsChild cX5_rateAsChild 2 (some .int), .constantLong RX5 237 (100), .fieldLink RX5 10 "FirstOut" "home" "LFirstOut$House;", .fieldLink RX5 80 "FirstOut$House" "traits" "[I", .methodLink RX5 224 yX5_rateAsThing, .instanceMethod yX5_rateAsThing, .selects RX5 yX5_rateAsThing yX5_rateAsThing, .code yX5_rateAsThing cX5_rateAsThing 2 (some .int), .fieldLink RX5 84 "FirstOut$House" "dear" "[I", .methodLink RX5 130 yJ6_bitCount_0f7a4, .static yJ6_bitCount_0f7a4, .initialized RJ6, .code yJ6_bitCount_0f7a4 cJ6_bitCount_0f7a4 1 (some .int), .constant RJ6 265 (1431655765), .constant RJ6 266 (858993459), .constant RJ6 267 (252645135)] ++ wsX50 ++ wsX00)
def wsX5_rateAsPriest : List Cond := .code yX5_rateAsPriest cX5_rateAsPriest 2 (some .int) :: ([.fieldLink RX5 58 "FirstOut" "traced" "J", .constantLong RX5 243 (100000), .fieldLink RX5 29 "FirstOut" "current" "LFirstOut$Standing;", .fieldLink RX5 110 "FirstOut$Standing" "date" "I", .methodLink RX5 224 yX5_rateAsThing, .instanceMethod yX5_rateAsThing, .selects RX5 yX5_rateAsThing yX5_rateAsThing, .initialized RX5, .code yX5_rateAsThing cX5_rateAsThing 2 (some .int), .fieldLink RX5 10 "FirstOut" "home" "LFirstOut$House;", .fieldLink RX5 84 "FirstOut$House" "dear" "[I"] ++ wsX50 ++ wsX30 ++ wsX00)
def wsX5_rate_r1 : List Cond := [Cond.fieldLink RX5 10 "FirstOut" "home" "LFirstOut$House;", Cond.constant RX5 161 (-1000000), Cond.methodLink RX5 77 yX0_holds, Cond.instanceMethod yX0_holds, Cond.selects RX0 yX0_holds yX0_holds, Cond.initialized RX0, Cond.code yX0_holds cX0_holds 2 (some .boolean), Cond.fieldLink RX0 24 "FirstOut$House" "things" "I", Cond.methodLink RX5 209 yX5_rateAsCalf, Cond.instanceMethod yX5_rateAsCalf, Cond.selects RX5 yX5_rateAsCalf yX5_rateAsCalf, Cond.initialized RX5, Cond.code yX5_rateAsCalf cX5_rateAsCalf 2 (some .int), Cond.fieldLink RX5 58 "FirstOut" "traced" "J", Cond.constantLong RX5 235 (10), Cond.fieldLink RX5 87 "FirstOut$House" "eager" "[I", Cond.methodLink RX5 224 yX5_rateAsThing, Cond.instanceMethod yX5_rateAsThing, Cond.selects RX5 yX5_rateAsThing yX5_rateAsThing, Cond.code yX5_rateAsThing cX5_rateAsThing 2 (some .int), Cond.fieldLink RX5 84 "FirstOut$House" "dear" "[I", Cond.methodLink RX5 212 yX5_rateAsChild, Cond.instanceMethod yX5_rateAsChild, Cond.selects RX5 yX5_rateAsChild yX5_rateAsChild]
def wsX5_rate_r2 : List Cond := [Cond.code yX5_rateAsChild cX5_rateAsChild 2 (some .int), Cond.constantLong RX5 237 (100), Cond.fieldLink RX5 80 "FirstOut$House" "traits" "[I", Cond.methodLink RX5 130 yJ6_bitCount_0f7a4, Cond.static yJ6_bitCount_0f7a4, Cond.initialized RJ6, Cond.code yJ6_bitCount_0f7a4 cJ6_bitCount_0f7a4 1 (some .int), Cond.constant RJ6 265 (1431655765), Cond.constant RJ6 266 (858993459), Cond.constant RJ6 267 (252645135), Cond.methodLink RX5 215 yX5_rateAsDog, Cond.instanceMethod yX5_rateAsDog, Cond.selects RX5 yX5_rateAsDog yX5_rateAsDog, Cond.code yX5_rateAsDog cX5_rateAsDog 2 (some .int), Cond.constantLong RX5 239 (1000), Cond.methodLink RX5 218 yX5_rateAsDrum, Cond.instanceMethod yX5_rateAsDrum, Cond.selects RX5 yX5_rateAsDrum yX5_rateAsDrum, Cond.code yX5_rateAsDrum cX5_rateAsDrum 2 (some .int), Cond.constantLong RX5 241 (10000), Cond.methodLink RX5 221 yX5_rateAsPriest, Cond.instanceMethod yX5_rateAsPriest, Cond.selects RX5 yX5_rateAsPriest yX5_rateAsPriest, Cond.code yX5_rateAsPriest cX5_rateAsPriest 2 (some .int)]
def wsX5_rate_r3 : List Cond := [Cond.constantLong RX5 243 (100000), Cond.fieldLink RX5 29 "FirstOut" "current" "LFirstOut$Standing;", Cond.fieldLink RX5 110 "FirstOut$Standing" "date" "I"]
def wsX5_rate : List Cond := .code yX5_rate cX5_rate 3 (some .int) :: ((wsX5_rate_r1 ++ (wsX5_rate_r2 ++ wsX5_rate_r3)) ++ wsX50 ++ wsX00 ++ wsX30)
def wsX5_keep : List Cond := .code yX5_keep cX5_keep 2 (some .int) :: ([.fieldLink RX5 43 "FirstOut" "images" "[LFirstOut$Standing;", .fieldLink RX5 29 "FirstOut" "current" "LFirstOut$Standing;", .fieldLink RX5 47 "FirstOut" "imageKept" "[Z", .fieldLink RX5 110 "FirstOut$Standing" "date" "I", .methodLink RX5 200 yX3_become, .instanceMethod yX3_become, .selects RX3 yX3_become yX3_become, .initialized RX3, .code yX3_become cX3_become 2 none, .fieldLink RX3 7 "FirstOut$Standing" "words" "I", .fieldLink RX3 13 "FirstOut$Standing" "knowing" "I", .fieldLink RX3 16 "FirstOut$Standing" "kept" "I", .fieldLink RX3 19 "FirstOut$Standing" "given" "I", .fieldLink RX3 22 "FirstOut$Standing" "date" "I"] ++ wsX50 ++ wsX30)
def wsX5_back : List Cond := .code yX5_back cX5_back 2 (some .int) :: ([.fieldLink RX5 47 "FirstOut" "imageKept" "[Z", .fieldLink RX5 29 "FirstOut" "current" "LFirstOut$Standing;", .fieldLink RX5 43 "FirstOut" "images" "[LFirstOut$Standing;", .fieldLink RX5 39 "FirstOut" "past" "LFirstOut$Past;", .fieldLink RX5 120 "FirstOut$Past" "known" "I", .fieldLink RX5 110 "FirstOut$Standing" "date" "I", .methodLink RX5 200 yX3_become, .instanceMethod yX3_become, .selects RX3 yX3_become yX3_become, .initialized RX3, .code yX3_become cX3_become 2 none, .fieldLink RX3 7 "FirstOut$Standing" "words" "I", .fieldLink RX3 13 "FirstOut$Standing" "knowing" "I", .fieldLink RX3 16 "FirstOut$Standing" "kept" "I", .fieldLink RX3 19 "FirstOut$Standing" "given" "I", .fieldLink RX3 22 "FirstOut$Standing" "date" "I"] ++ wsX50 ++ wsX10 ++ wsX30)
def wsX5_count : List Cond := .code yX5_count cX5_count 2 (some .int) :: ([.fieldLink RX5 10 "FirstOut" "home" "LFirstOut$House;", .fieldLink RX5 171 "FirstOut$House" "things" "I", .fieldLink RX5 168 "FirstOut$House" "chance" "I", .fieldLink RX5 162 "FirstOut$House" "help" "I", .fieldLink RX5 165 "FirstOut$House" "worth" "I", .fieldLink RX5 54 "FirstOut" "seen" "LFirstOut$Seen;", .fieldLink RX5 193 "FirstOut$Seen" "known" "I", .fieldLink RX5 22 "FirstOut" "text" "LFirstOut$Text;", .fieldLink RX5 66 "FirstOut$Text" "length" "I"] ++ wsX50 ++ wsX00 ++ wsX20 ++ wsX40)
def wsX5_trace : List Cond := .code yX5_trace cX5_trace 1 (some .long) :: ([.fieldLink RX5 58 "FirstOut" "traced" "J"] ++ wsX50)
def wsX6_begins : List Cond := .code yX6_begins cX6_begins 1 none :: ([.fieldLink RX6 94 "FirstOutModel" "told" "I", .fieldLink RX6 97 "FirstOutModel" "knowing" "I", .fieldLink RX6 13 "FirstOutModel" "many" "[I"] ++ wsX60)
def wsX6_settles : List Cond := .code yX6_settles cX6_settles 2 none :: ([.fieldLink RX6 13 "FirstOutModel" "many" "[I", .fieldLink RX6 25 "FirstOutModel" "s" "[I", .fieldLink RX6 16 "FirstOutModel" "traits" "[I", .fieldLink RX6 19 "FirstOutModel" "dear" "[I", .fieldLink RX6 22 "FirstOutModel" "eager" "[I", .fieldLink RX6 97 "FirstOutModel" "knowing" "I", .fieldLink RX6 61 "FirstOutModel" "typed" "I", .fieldLink RX6 108 "FirstOutModel" "sawMany" "I", .fieldLink RX6 111 "FirstOutModel" "undoMany" "I", .fieldLink RX6 34 "FirstOutModel" "isKept" "[Z"] ++ wsX60)
def wsX6_init_r1 : List Cond := [Cond.methodLink RX6 1 objectInit, Cond.instanceMethod objectInit, Cond.code objectInit ⟨#[0xb1]⟩ 1 none, Cond.arrayClass .int, Cond.fieldLink RX6 7 "FirstOutModel" "text" "[I", Cond.fieldLink RX6 13 "FirstOutModel" "many" "[I", Cond.fieldLink RX6 16 "FirstOutModel" "traits" "[I", Cond.fieldLink RX6 19 "FirstOutModel" "dear" "[I", Cond.fieldLink RX6 22 "FirstOutModel" "eager" "[I", Cond.fieldLink RX6 25 "FirstOutModel" "s" "[I", Cond.fieldLink RX6 28 "FirstOutModel" "w" "[I", Cond.fieldLink RX6 31 "FirstOutModel" "kept" "[I", Cond.arrayClass .boolean, Cond.fieldLink RX6 34 "FirstOutModel" "isKept" "[Z", Cond.fieldLink RX6 38 "FirstOutModel" "undos" "[I", Cond.fieldLink RX6 41 "FirstOutModel" "sawOf" "[I", Cond.fieldLink RX6 44 "FirstOutModel" "sawIs" "[I", Cond.methodLink RX6 47 yX6_begins, Cond.instanceMethod yX6_begins, Cond.selects RX6 yX6_begins yX6_begins, Cond.initialized RX6, Cond.code yX6_begins cX6_begins 1 none, Cond.fieldLink RX6 94 "FirstOutModel" "told" "I", Cond.fieldLink RX6 97 "FirstOutModel" "knowing" "I"]
def wsX6_init_r2 : List Cond := [Cond.methodLink RX6 50 yX6_settles, Cond.instanceMethod yX6_settles, Cond.selects RX6 yX6_settles yX6_settles, Cond.code yX6_settles cX6_settles 2 none, Cond.fieldLink RX6 61 "FirstOutModel" "typed" "I", Cond.fieldLink RX6 108 "FirstOutModel" "sawMany" "I", Cond.fieldLink RX6 111 "FirstOutModel" "undoMany" "I"]
def wsX6_init : List Cond := .code yX6_init cX6_init 1 none :: ((wsX6_init_r1 ++ wsX6_init_r2) ++ wsX60)
def wsX6_in : List Cond := .code yX6_in cX6_in 3 (some .boolean) :: ([])
def wsX6_ones : List Cond := .code yX6_ones cX6_ones 3 (some .int) :: ([])
def wsX6_type : List Cond := .code yX6_type cX6_type 2 (some .int) :: ([.fieldLink RX6 53 "FirstOutModel" "thrown" "I", .fieldLink RX6 61 "FirstOutModel" "typed" "I", .fieldLink RX6 7 "FirstOutModel" "text" "[I", .methodLink RX6 57 yX6_in, .static yX6_in, .initialized RX6, .code yX6_in cX6_in 3 (some .boolean)] ++ wsX60)
def wsX6_clear : List Cond := .code yX6_clear cX6_clear 2 (some .int) :: ([.fieldLink RX6 53 "FirstOutModel" "thrown" "I", .fieldLink RX6 61 "FirstOutModel" "typed" "I"] ++ wsX60)
def wsX6_letterAt : List Cond := .code yX6_letterAt cX6_letterAt 2 (some .int) :: ([.fieldLink RX6 61 "FirstOutModel" "typed" "I", .fieldLink RX6 7 "FirstOutModel" "text" "[I"] ++ wsX60)
def wsX6_advances : List Cond := .code yX6_advances cX6_advances 2 none :: ([.fieldLink RX6 64 "FirstOutModel" "next" "I", .fieldLink RX6 71 "FirstOutModel" "place" "I", .fieldLink RX6 74 "FirstOutModel" "token" "I", .fieldLink RX6 77 "FirstOutModel" "value" "I", .methodLink RX6 67 yX6_letterAt, .instanceMethod yX6_letterAt, .selects RX6 yX6_letterAt yX6_letterAt, .initialized RX6, .code yX6_letterAt cX6_letterAt 2 (some .int), .fieldLink RX6 61 "FirstOutModel" "typed" "I", .fieldLink RX6 7 "FirstOutModel" "text" "[I", .methodLink RX6 57 yX6_in, .static yX6_in, .code yX6_in cX6_in 3 (some .boolean)] ++ wsX60)
def wsX6_isWell : List Cond := .code yX6_isWell cX6_isWell 1 (some .boolean) :: ([.fieldLink RX6 80 "FirstOutModel" "fault" "I"] ++ wsX60)
def wsX6_takes : List Cond := .code yX6_takes cX6_takes 3 (some .int) :: ([.fieldLink RX6 71 "FirstOutModel" "place" "I", .fieldLink RX6 80 "FirstOutModel" "fault" "I", .fieldLink RX6 77 "FirstOutModel" "value" "I", .methodLink RX6 83 yX6_isWell, .instanceMethod yX6_isWell, .selects RX6 yX6_isWell yX6_isWell, .initialized RX6, .code yX6_isWell cX6_isWell 1 (some .boolean), .methodLink RX6 87 yX6_advances, .instanceMethod yX6_advances, .selects RX6 yX6_advances yX6_advances, .code yX6_advances cX6_advances 2 none, .fieldLink RX6 64 "FirstOutModel" "next" "I", .fieldLink RX6 74 "FirstOutModel" "token" "I", .methodLink RX6 67 yX6_letterAt, .instanceMethod yX6_letterAt, .selects RX6 yX6_letterAt yX6_letterAt, .code yX6_letterAt cX6_letterAt 2 (some .int), .fieldLink RX6 61 "FirstOutModel" "typed" "I", .fieldLink RX6 7 "FirstOutModel" "text" "[I", .methodLink RX6 57 yX6_in, .static yX6_in, .code yX6_in cX6_in 3 (some .boolean)] ++ wsX60)
def wsX6_number_r1 : List Cond := [Cond.fieldLink RX6 74 "FirstOutModel" "token" "I", Cond.fieldLink RX6 77 "FirstOutModel" "value" "I", Cond.methodLink RX6 57 yX6_in, Cond.static yX6_in, Cond.initialized RX6, Cond.code yX6_in cX6_in 3 (some .boolean), Cond.methodLink RX6 90 yX6_takes, Cond.instanceMethod yX6_takes, Cond.selects RX6 yX6_takes yX6_takes, Cond.code yX6_takes cX6_takes 3 (some .int), Cond.fieldLink RX6 71 "FirstOutModel" "place" "I", Cond.fieldLink RX6 80 "FirstOutModel" "fault" "I", Cond.methodLink RX6 83 yX6_isWell, Cond.instanceMethod yX6_isWell, Cond.selects RX6 yX6_isWell yX6_isWell, Cond.code yX6_isWell cX6_isWell 1 (some .boolean), Cond.methodLink RX6 87 yX6_advances, Cond.instanceMethod yX6_advances, Cond.selects RX6 yX6_advances yX6_advances, Cond.code yX6_advances cX6_advances 2 none, Cond.fieldLink RX6 64 "FirstOutModel" "next" "I", Cond.methodLink RX6 67 yX6_letterAt, Cond.instanceMethod yX6_letterAt, Cond.selects RX6 yX6_letterAt yX6_letterAt]
def wsX6_number_r2 : List Cond := [Cond.code yX6_letterAt cX6_letterAt 2 (some .int), Cond.fieldLink RX6 61 "FirstOutModel" "typed" "I", Cond.fieldLink RX6 7 "FirstOutModel" "text" "[I"]
def wsX6_number : List Cond := .code yX6_number cX6_number 3 (some .int) :: ((wsX6_number_r1 ++ wsX6_number_r2) ++ wsX60)
def wsX6_readsItem_r1 : List Cond := [Cond.fieldLink RX6 13 "FirstOutModel" "many" "[I", Cond.fieldLink RX6 16 "FirstOutModel" "traits" "[I", Cond.fieldLink RX6 19 "FirstOutModel" "dear" "[I", Cond.fieldLink RX6 22 "FirstOutModel" "eager" "[I", Cond.fieldLink RX6 97 "FirstOutModel" "knowing" "I", Cond.fieldLink RX6 94 "FirstOutModel" "told" "I", Cond.methodLink RX6 100 yX6_number, Cond.instanceMethod yX6_number, Cond.selects RX6 yX6_number yX6_number, Cond.initialized RX6, Cond.code yX6_number cX6_number 3 (some .int), Cond.fieldLink RX6 74 "FirstOutModel" "token" "I", Cond.fieldLink RX6 77 "FirstOutModel" "value" "I", Cond.methodLink RX6 57 yX6_in, Cond.static yX6_in, Cond.code yX6_in cX6_in 3 (some .boolean), Cond.methodLink RX6 90 yX6_takes, Cond.instanceMethod yX6_takes, Cond.selects RX6 yX6_takes yX6_takes, Cond.code yX6_takes cX6_takes 3 (some .int), Cond.fieldLink RX6 71 "FirstOutModel" "place" "I", Cond.fieldLink RX6 80 "FirstOutModel" "fault" "I", Cond.methodLink RX6 83 yX6_isWell, Cond.instanceMethod yX6_isWell]
def wsX6_readsItem_r2 : List Cond := [Cond.selects RX6 yX6_isWell yX6_isWell, Cond.code yX6_isWell cX6_isWell 1 (some .boolean), Cond.methodLink RX6 87 yX6_advances, Cond.instanceMethod yX6_advances, Cond.selects RX6 yX6_advances yX6_advances, Cond.code yX6_advances cX6_advances 2 none, Cond.fieldLink RX6 64 "FirstOutModel" "next" "I", Cond.methodLink RX6 67 yX6_letterAt, Cond.instanceMethod yX6_letterAt, Cond.selects RX6 yX6_letterAt yX6_letterAt, Cond.code yX6_letterAt cX6_letterAt 2 (some .int), Cond.fieldLink RX6 61 "FirstOutModel" "typed" "I", Cond.fieldLink RX6 7 "FirstOutModel" "text" "[I"]
def wsX6_readsItem : List Cond := .code yX6_readsItem cX6_readsItem 3 none :: ((wsX6_readsItem_r1 ++ wsX6_readsItem_r2) ++ wsX60)
def wsX6_house_r1 : List Cond := [Cond.fieldLink RX6 53 "FirstOutModel" "thrown" "I", Cond.fieldLink RX6 80 "FirstOutModel" "fault" "I", Cond.fieldLink RX6 64 "FirstOutModel" "next" "I", Cond.fieldLink RX6 74 "FirstOutModel" "token" "I", Cond.fieldLink RX6 77 "FirstOutModel" "value" "I", Cond.fieldLink RX6 13 "FirstOutModel" "many" "[I", Cond.fieldLink RX6 94 "FirstOutModel" "told" "I", Cond.methodLink RX6 47 yX6_begins, Cond.instanceMethod yX6_begins, Cond.selects RX6 yX6_begins yX6_begins, Cond.initialized RX6, Cond.code yX6_begins cX6_begins 1 none, Cond.fieldLink RX6 97 "FirstOutModel" "knowing" "I", Cond.methodLink RX6 87 yX6_advances, Cond.instanceMethod yX6_advances, Cond.selects RX6 yX6_advances yX6_advances, Cond.code yX6_advances cX6_advances 2 none, Cond.fieldLink RX6 71 "FirstOutModel" "place" "I", Cond.methodLink RX6 67 yX6_letterAt, Cond.instanceMethod yX6_letterAt, Cond.selects RX6 yX6_letterAt yX6_letterAt, Cond.code yX6_letterAt cX6_letterAt 2 (some .int), Cond.fieldLink RX6 61 "FirstOutModel" "typed" "I", Cond.fieldLink RX6 7 "FirstOutModel" "text" "[I"]
def wsX6_house_r2 : List Cond := [Cond.methodLink RX6 57 yX6_in, Cond.static yX6_in, Cond.code yX6_in cX6_in 3 (some .boolean), Cond.methodLink RX6 83 yX6_isWell, Cond.instanceMethod yX6_isWell, Cond.selects RX6 yX6_isWell yX6_isWell, Cond.code yX6_isWell cX6_isWell 1 (some .boolean), Cond.methodLink RX6 90 yX6_takes, Cond.instanceMethod yX6_takes, Cond.selects RX6 yX6_takes yX6_takes, Cond.code yX6_takes cX6_takes 3 (some .int), Cond.methodLink RX6 104 yX6_readsItem, Cond.instanceMethod yX6_readsItem, Cond.selects RX6 yX6_readsItem yX6_readsItem, Cond.code yX6_readsItem cX6_readsItem 3 none, Cond.fieldLink RX6 16 "FirstOutModel" "traits" "[I", Cond.fieldLink RX6 19 "FirstOutModel" "dear" "[I", Cond.fieldLink RX6 22 "FirstOutModel" "eager" "[I", Cond.methodLink RX6 100 yX6_number, Cond.instanceMethod yX6_number, Cond.selects RX6 yX6_number yX6_number, Cond.code yX6_number cX6_number 3 (some .int), Cond.methodLink RX6 50 yX6_settles, Cond.instanceMethod yX6_settles]
def wsX6_house_r3 : List Cond := [Cond.selects RX6 yX6_settles yX6_settles, Cond.code yX6_settles cX6_settles 2 none, Cond.fieldLink RX6 25 "FirstOutModel" "s" "[I", Cond.fieldLink RX6 108 "FirstOutModel" "sawMany" "I", Cond.fieldLink RX6 111 "FirstOutModel" "undoMany" "I", Cond.fieldLink RX6 34 "FirstOutModel" "isKept" "[Z"]
def wsX6_house : List Cond := .code yX6_house cX6_house 3 (some .int) :: ((wsX6_house_r1 ++ (wsX6_house_r2 ++ wsX6_house_r3)) ++ wsX60)
def wsX6_isThing : List Cond := .code yX6_isThing cX6_isThing 2 (some .boolean) :: ([.fieldLink RX6 13 "FirstOutModel" "many" "[I", .methodLink RX6 57 yX6_in, .static yX6_in, .initialized RX6, .code yX6_in cX6_in 3 (some .boolean)] ++ wsX60)
def wsX6_everything : List Cond := .code yX6_everything cX6_everything 1 (some .int) :: ([.fieldLink RX6 13 "FirstOutModel" "many" "[I"] ++ wsX60)
def wsX6_hasAll : List Cond := .code yX6_hasAll cX6_hasAll 3 (some .boolean) :: ([.fieldLink RX6 16 "FirstOutModel" "traits" "[I"] ++ wsX60)
def wsX6_covered : List Cond := .code yX6_covered cX6_covered 4 (some .int) :: ([.fieldLink RX6 13 "FirstOutModel" "many" "[I", .methodLink RX6 114 yX6_hasAll, .instanceMethod yX6_hasAll, .selects RX6 yX6_hasAll yX6_hasAll, .initialized RX6, .code yX6_hasAll cX6_hasAll 3 (some .boolean), .fieldLink RX6 16 "FirstOutModel" "traits" "[I"] ++ wsX60)
def wsX6_comers : List Cond := .code yX6_comers cX6_comers 4 (some .int) :: ([.fieldLink RX6 13 "FirstOutModel" "many" "[I", .fieldLink RX6 22 "FirstOutModel" "eager" "[I", .methodLink RX6 118 yX6_covered, .instanceMethod yX6_covered, .selects RX6 yX6_covered yX6_covered, .initialized RX6, .code yX6_covered cX6_covered 4 (some .int), .methodLink RX6 114 yX6_hasAll, .instanceMethod yX6_hasAll, .selects RX6 yX6_hasAll yX6_hasAll, .code yX6_hasAll cX6_hasAll 3 (some .boolean), .fieldLink RX6 16 "FirstOutModel" "traits" "[I"] ++ wsX60)
def wsX6_eagerOf : List Cond := .code yX6_eagerOf cX6_eagerOf 4 (some .int) :: ([.fieldLink RX6 13 "FirstOutModel" "many" "[I", .fieldLink RX6 22 "FirstOutModel" "eager" "[I"] ++ wsX60)
def wsX6_dearOf : List Cond := .code yX6_dearOf cX6_dearOf 5 (some .int) :: ([.fieldLink RX6 13 "FirstOutModel" "many" "[I", .fieldLink RX6 19 "FirstOutModel" "dear" "[I", .fieldLink RX6 22 "FirstOutModel" "eager" "[I"] ++ wsX60)
def wsX6_harms_r1 : List Cond := [Cond.fieldLink RX6 129 "FirstOutModel" "harmAll" "I", Cond.fieldLink RX6 135 "FirstOutModel" "eagerAll" "I", Cond.methodLink RX6 122 yX6_comers, Cond.instanceMethod yX6_comers, Cond.selects RX6 yX6_comers yX6_comers, Cond.initialized RX6, Cond.code yX6_comers cX6_comers 4 (some .int), Cond.fieldLink RX6 13 "FirstOutModel" "many" "[I", Cond.fieldLink RX6 22 "FirstOutModel" "eager" "[I", Cond.methodLink RX6 118 yX6_covered, Cond.instanceMethod yX6_covered, Cond.selects RX6 yX6_covered yX6_covered, Cond.code yX6_covered cX6_covered 4 (some .int), Cond.methodLink RX6 114 yX6_hasAll, Cond.instanceMethod yX6_hasAll, Cond.selects RX6 yX6_hasAll yX6_hasAll, Cond.code yX6_hasAll cX6_hasAll 3 (some .boolean), Cond.fieldLink RX6 16 "FirstOutModel" "traits" "[I", Cond.methodLink RX6 125 yX6_dearOf, Cond.instanceMethod yX6_dearOf, Cond.selects RX6 yX6_dearOf yX6_dearOf, Cond.code yX6_dearOf cX6_dearOf 5 (some .int), Cond.fieldLink RX6 19 "FirstOutModel" "dear" "[I", Cond.methodLink RX6 132 yX6_eagerOf]
def wsX6_harms_r2 : List Cond := [Cond.instanceMethod yX6_eagerOf, Cond.selects RX6 yX6_eagerOf yX6_eagerOf, Cond.code yX6_eagerOf cX6_eagerOf 4 (some .int)]
def wsX6_harms : List Cond := .code yX6_harms cX6_harms 2 none :: ((wsX6_harms_r1 ++ wsX6_harms_r2) ++ wsX60)
def wsX6_thing_r1 : List Cond := [Cond.fieldLink RX6 53 "FirstOutModel" "thrown" "I", Cond.fieldLink RX6 16 "FirstOutModel" "traits" "[I", Cond.fieldLink RX6 19 "FirstOutModel" "dear" "[I", Cond.fieldLink RX6 22 "FirstOutModel" "eager" "[I", Cond.fieldLink RX6 25 "FirstOutModel" "s" "[I", Cond.methodLink RX6 138 yX6_isThing, Cond.instanceMethod yX6_isThing, Cond.selects RX6 yX6_isThing yX6_isThing, Cond.initialized RX6, Cond.code yX6_isThing cX6_isThing 2 (some .boolean), Cond.fieldLink RX6 13 "FirstOutModel" "many" "[I", Cond.methodLink RX6 57 yX6_in, Cond.static yX6_in, Cond.code yX6_in cX6_in 3 (some .boolean), Cond.methodLink RX6 118 yX6_covered, Cond.instanceMethod yX6_covered, Cond.selects RX6 yX6_covered yX6_covered, Cond.code yX6_covered cX6_covered 4 (some .int), Cond.methodLink RX6 114 yX6_hasAll, Cond.instanceMethod yX6_hasAll, Cond.selects RX6 yX6_hasAll yX6_hasAll, Cond.code yX6_hasAll cX6_hasAll 3 (some .boolean), Cond.methodLink RX6 122 yX6_comers, Cond.instanceMethod yX6_comers]
def wsX6_thing_r2 : List Cond := [Cond.selects RX6 yX6_comers yX6_comers, Cond.code yX6_comers cX6_comers 4 (some .int)]
def wsX6_thing : List Cond := .code yX6_thing cX6_thing 4 (some .int) :: ((wsX6_thing_r1 ++ wsX6_thing_r2) ++ wsX60)
def wsX6_now_r1 : List Cond := [Cond.fieldLink RX6 53 "FirstOutModel" "thrown" "I", Cond.fieldLink RX6 25 "FirstOutModel" "s" "[I", Cond.fieldLink RX6 111 "FirstOutModel" "undoMany" "I", Cond.methodLink RX6 57 yX6_in, Cond.static yX6_in, Cond.initialized RX6, Cond.code yX6_in cX6_in 3 (some .boolean), Cond.methodLink RX6 118 yX6_covered, Cond.instanceMethod yX6_covered, Cond.selects RX6 yX6_covered yX6_covered, Cond.code yX6_covered cX6_covered 4 (some .int), Cond.fieldLink RX6 13 "FirstOutModel" "many" "[I", Cond.methodLink RX6 114 yX6_hasAll, Cond.instanceMethod yX6_hasAll, Cond.selects RX6 yX6_hasAll yX6_hasAll, Cond.code yX6_hasAll cX6_hasAll 3 (some .boolean), Cond.fieldLink RX6 16 "FirstOutModel" "traits" "[I", Cond.methodLink RX6 122 yX6_comers, Cond.instanceMethod yX6_comers, Cond.selects RX6 yX6_comers yX6_comers, Cond.code yX6_comers cX6_comers 4 (some .int), Cond.fieldLink RX6 22 "FirstOutModel" "eager" "[I", Cond.methodLink RX6 125 yX6_dearOf, Cond.instanceMethod yX6_dearOf]
def wsX6_now_r2 : List Cond := [Cond.selects RX6 yX6_dearOf yX6_dearOf, Cond.code yX6_dearOf cX6_dearOf 5 (some .int), Cond.fieldLink RX6 19 "FirstOutModel" "dear" "[I"]
def wsX6_now : List Cond := .code yX6_now cX6_now 2 (some .int) :: ((wsX6_now_r1 ++ wsX6_now_r2) ++ wsX60)
def wsX6_notes : List Cond := .code yX6_notes cX6_notes 2 none :: ([.fieldLink RX6 111 "FirstOutModel" "undoMany" "I", .fieldLink RX6 38 "FirstOutModel" "undos" "[I", .fieldLink RX6 25 "FirstOutModel" "s" "[I"] ++ wsX60)
def wsX6_swears_r1 : List Cond := [Cond.fieldLink RX6 53 "FirstOutModel" "thrown" "I", Cond.fieldLink RX6 25 "FirstOutModel" "s" "[I", Cond.methodLink RX6 57 yX6_in, Cond.static yX6_in, Cond.initialized RX6, Cond.code yX6_in cX6_in 3 (some .boolean), Cond.methodLink RX6 142 yX6_notes, Cond.instanceMethod yX6_notes, Cond.selects RX6 yX6_notes yX6_notes, Cond.code yX6_notes cX6_notes 2 none, Cond.fieldLink RX6 111 "FirstOutModel" "undoMany" "I", Cond.fieldLink RX6 38 "FirstOutModel" "undos" "[I", Cond.methodLink RX6 118 yX6_covered, Cond.instanceMethod yX6_covered, Cond.selects RX6 yX6_covered yX6_covered, Cond.code yX6_covered cX6_covered 4 (some .int), Cond.fieldLink RX6 13 "FirstOutModel" "many" "[I", Cond.methodLink RX6 114 yX6_hasAll, Cond.instanceMethod yX6_hasAll, Cond.selects RX6 yX6_hasAll yX6_hasAll, Cond.code yX6_hasAll cX6_hasAll 3 (some .boolean), Cond.fieldLink RX6 16 "FirstOutModel" "traits" "[I", Cond.methodLink RX6 145 yX6_ones, Cond.static yX6_ones]
def wsX6_swears_r2 : List Cond := [Cond.code yX6_ones cX6_ones 3 (some .int)]
def wsX6_swears : List Cond := .code yX6_swears cX6_swears 2 (some .int) :: ((wsX6_swears_r1 ++ wsX6_swears_r2) ++ wsX60)
def wsX6_becomes : List Cond := .code yX6_becomes cX6_becomes 5 (some .int) :: ([.fieldLink RX6 25 "FirstOutModel" "s" "[I", .methodLink RX6 138 yX6_isThing, .instanceMethod yX6_isThing, .selects RX6 yX6_isThing yX6_isThing, .initialized RX6, .code yX6_isThing cX6_isThing 2 (some .boolean), .fieldLink RX6 13 "FirstOutModel" "many" "[I", .methodLink RX6 57 yX6_in, .static yX6_in, .code yX6_in cX6_in 3 (some .boolean), .methodLink RX6 142 yX6_notes, .instanceMethod yX6_notes, .selects RX6 yX6_notes yX6_notes, .code yX6_notes cX6_notes 2 none, .fieldLink RX6 111 "FirstOutModel" "undoMany" "I", .fieldLink RX6 38 "FirstOutModel" "undos" "[I"] ++ wsX60)
def wsX6_keepsIn : List Cond := .code yX6_keepsIn cX6_keepsIn 3 (some .int) :: ([.fieldLink RX6 53 "FirstOutModel" "thrown" "I", .methodLink RX6 148 yX6_becomes, .instanceMethod yX6_becomes, .selects RX6 yX6_becomes yX6_becomes, .initialized RX6, .code yX6_becomes cX6_becomes 5 (some .int), .fieldLink RX6 25 "FirstOutModel" "s" "[I", .methodLink RX6 138 yX6_isThing, .instanceMethod yX6_isThing, .selects RX6 yX6_isThing yX6_isThing, .code yX6_isThing cX6_isThing 2 (some .boolean), .fieldLink RX6 13 "FirstOutModel" "many" "[I", .methodLink RX6 57 yX6_in, .static yX6_in, .code yX6_in cX6_in 3 (some .boolean), .methodLink RX6 142 yX6_notes, .instanceMethod yX6_notes, .selects RX6 yX6_notes yX6_notes, .code yX6_notes cX6_notes 2 none, .fieldLink RX6 111 "FirstOutModel" "undoMany" "I", .fieldLink RX6 38 "FirstOutModel" "undos" "[I"] ++ wsX60)
def wsX6_tells : List Cond := .code yX6_tells cX6_tells 3 (some .int) :: ([.fieldLink RX6 53 "FirstOutModel" "thrown" "I", .methodLink RX6 148 yX6_becomes, .instanceMethod yX6_becomes, .selects RX6 yX6_becomes yX6_becomes, .initialized RX6, .code yX6_becomes cX6_becomes 5 (some .int), .fieldLink RX6 25 "FirstOutModel" "s" "[I", .methodLink RX6 138 yX6_isThing, .instanceMethod yX6_isThing, .selects RX6 yX6_isThing yX6_isThing, .code yX6_isThing cX6_isThing 2 (some .boolean), .fieldLink RX6 13 "FirstOutModel" "many" "[I", .methodLink RX6 57 yX6_in, .static yX6_in, .code yX6_in cX6_in 3 (some .boolean), .methodLink RX6 142 yX6_notes, .instanceMethod yX6_notes, .selects RX6 yX6_notes yX6_notes, .code yX6_notes cX6_notes 2 none, .fieldLink RX6 111 "FirstOutModel" "undoMany" "I", .fieldLink RX6 38 "FirstOutModel" "undos" "[I"] ++ wsX60)
def wsX6_comesBy : List Cond := .code yX6_comesBy cX6_comesBy 9 (some .int) :: ([.constantLong RX6 152 (7919), .constantLong RX6 154 (4253), .constantLong RX6 156 (65521), .constantLong RX6 158 (8), .fieldLink RX6 22 "FirstOutModel" "eager" "[I", .methodLink RX6 122 yX6_comers, .instanceMethod yX6_comers, .selects RX6 yX6_comers yX6_comers, .initialized RX6, .code yX6_comers cX6_comers 4 (some .int), .fieldLink RX6 13 "FirstOutModel" "many" "[I", .methodLink RX6 118 yX6_covered, .instanceMethod yX6_covered, .selects RX6 yX6_covered yX6_covered, .code yX6_covered cX6_covered 4 (some .int), .methodLink RX6 114 yX6_hasAll, .instanceMethod yX6_hasAll, .selects RX6 yX6_hasAll yX6_hasAll, .code yX6_hasAll cX6_hasAll 3 (some .boolean), .fieldLink RX6 16 "FirstOutModel" "traits" "[I", .methodLink RX6 132 yX6_eagerOf, .instanceMethod yX6_eagerOf, .selects RX6 yX6_eagerOf yX6_eagerOf, .code yX6_eagerOf cX6_eagerOf 4 (some .int)] ++ wsX60)
def wsX6_goes_r1 : List Cond := [Cond.methodLink RX6 160 yX6_comesBy, Cond.instanceMethod yX6_comesBy, Cond.selects RX6 yX6_comesBy yX6_comesBy, Cond.initialized RX6, Cond.code yX6_comesBy cX6_comesBy 9 (some .int), Cond.constantLong RX6 152 (7919), Cond.constantLong RX6 154 (4253), Cond.constantLong RX6 156 (65521), Cond.constantLong RX6 158 (8), Cond.fieldLink RX6 22 "FirstOutModel" "eager" "[I", Cond.methodLink RX6 122 yX6_comers, Cond.instanceMethod yX6_comers, Cond.selects RX6 yX6_comers yX6_comers, Cond.code yX6_comers cX6_comers 4 (some .int), Cond.fieldLink RX6 13 "FirstOutModel" "many" "[I", Cond.methodLink RX6 118 yX6_covered, Cond.instanceMethod yX6_covered, Cond.selects RX6 yX6_covered yX6_covered, Cond.code yX6_covered cX6_covered 4 (some .int), Cond.methodLink RX6 114 yX6_hasAll, Cond.instanceMethod yX6_hasAll, Cond.selects RX6 yX6_hasAll yX6_hasAll, Cond.code yX6_hasAll cX6_hasAll 3 (some .boolean), Cond.fieldLink RX6 16 "FirstOutModel" "traits" "[I"]
def wsX6_goes_r2 : List Cond := [Cond.methodLink RX6 132 yX6_eagerOf, Cond.instanceMethod yX6_eagerOf, Cond.selects RX6 yX6_eagerOf yX6_eagerOf, Cond.code yX6_eagerOf cX6_eagerOf 4 (some .int)]
def wsX6_goes : List Cond := .code yX6_goes cX6_goes 4 (some .int) :: ((wsX6_goes_r1 ++ wsX6_goes_r2) ++ wsX60)
def wsX6_day_r1 : List Cond := [Cond.fieldLink RX6 53 "FirstOutModel" "thrown" "I", Cond.fieldLink RX6 25 "FirstOutModel" "s" "[I", Cond.methodLink RX6 57 yX6_in, Cond.static yX6_in, Cond.initialized RX6, Cond.code yX6_in cX6_in 3 (some .boolean), Cond.methodLink RX6 142 yX6_notes, Cond.instanceMethod yX6_notes, Cond.selects RX6 yX6_notes yX6_notes, Cond.code yX6_notes cX6_notes 2 none, Cond.fieldLink RX6 111 "FirstOutModel" "undoMany" "I", Cond.fieldLink RX6 38 "FirstOutModel" "undos" "[I", Cond.methodLink RX6 164 yX6_goes, Cond.instanceMethod yX6_goes, Cond.selects RX6 yX6_goes yX6_goes, Cond.code yX6_goes cX6_goes 4 (some .int), Cond.methodLink RX6 160 yX6_comesBy, Cond.instanceMethod yX6_comesBy, Cond.selects RX6 yX6_comesBy yX6_comesBy, Cond.code yX6_comesBy cX6_comesBy 9 (some .int), Cond.constantLong RX6 152 (7919), Cond.constantLong RX6 154 (4253), Cond.constantLong RX6 156 (65521), Cond.constantLong RX6 158 (8)]
def wsX6_day_r2 : List Cond := [Cond.fieldLink RX6 22 "FirstOutModel" "eager" "[I", Cond.methodLink RX6 122 yX6_comers, Cond.instanceMethod yX6_comers, Cond.selects RX6 yX6_comers yX6_comers, Cond.code yX6_comers cX6_comers 4 (some .int), Cond.fieldLink RX6 13 "FirstOutModel" "many" "[I", Cond.methodLink RX6 118 yX6_covered, Cond.instanceMethod yX6_covered, Cond.selects RX6 yX6_covered yX6_covered, Cond.code yX6_covered cX6_covered 4 (some .int), Cond.methodLink RX6 114 yX6_hasAll, Cond.instanceMethod yX6_hasAll, Cond.selects RX6 yX6_hasAll yX6_hasAll, Cond.code yX6_hasAll cX6_hasAll 3 (some .boolean), Cond.fieldLink RX6 16 "FirstOutModel" "traits" "[I", Cond.methodLink RX6 132 yX6_eagerOf, Cond.instanceMethod yX6_eagerOf, Cond.selects RX6 yX6_eagerOf yX6_eagerOf, Cond.code yX6_eagerOf cX6_eagerOf 4 (some .int)]
def wsX6_day : List Cond := .code yX6_day cX6_day 2 (some .int) :: ((wsX6_day_r1 ++ wsX6_day_r2) ++ wsX60)
def wsX6_undo : List Cond := .code yX6_undo cX6_undo 2 (some .int) :: ([.fieldLink RX6 53 "FirstOutModel" "thrown" "I", .fieldLink RX6 111 "FirstOutModel" "undoMany" "I", .fieldLink RX6 25 "FirstOutModel" "s" "[I", .fieldLink RX6 38 "FirstOutModel" "undos" "[I"] ++ wsX60)
def wsX6_gcd : List Cond := .code yX6_gcd cX6_gcd 5 (some .int) :: ([])
def wsX6_part : List Cond := .code yX6_part cX6_part 4 (some .int) :: ([.methodLink RX6 167 yX6_gcd, .static yX6_gcd, .initialized RX6, .code yX6_gcd cX6_gcd 5 (some .int)])
def wsX6_harm_r1 : List Cond := [Cond.fieldLink RX6 53 "FirstOutModel" "thrown" "I", Cond.fieldLink RX6 25 "FirstOutModel" "s" "[I", Cond.fieldLink RX6 129 "FirstOutModel" "harmAll" "I", Cond.fieldLink RX6 135 "FirstOutModel" "eagerAll" "I", Cond.methodLink RX6 57 yX6_in, Cond.static yX6_in, Cond.initialized RX6, Cond.code yX6_in cX6_in 3 (some .boolean), Cond.methodLink RX6 170 yX6_harms, Cond.instanceMethod yX6_harms, Cond.selects RX6 yX6_harms yX6_harms, Cond.code yX6_harms cX6_harms 2 none, Cond.methodLink RX6 122 yX6_comers, Cond.instanceMethod yX6_comers, Cond.selects RX6 yX6_comers yX6_comers, Cond.code yX6_comers cX6_comers 4 (some .int), Cond.fieldLink RX6 13 "FirstOutModel" "many" "[I", Cond.fieldLink RX6 22 "FirstOutModel" "eager" "[I", Cond.methodLink RX6 118 yX6_covered, Cond.instanceMethod yX6_covered, Cond.selects RX6 yX6_covered yX6_covered, Cond.code yX6_covered cX6_covered 4 (some .int), Cond.methodLink RX6 114 yX6_hasAll, Cond.instanceMethod yX6_hasAll]
def wsX6_harm_r2 : List Cond := [Cond.selects RX6 yX6_hasAll yX6_hasAll, Cond.code yX6_hasAll cX6_hasAll 3 (some .boolean), Cond.fieldLink RX6 16 "FirstOutModel" "traits" "[I", Cond.methodLink RX6 125 yX6_dearOf, Cond.instanceMethod yX6_dearOf, Cond.selects RX6 yX6_dearOf yX6_dearOf, Cond.code yX6_dearOf cX6_dearOf 5 (some .int), Cond.fieldLink RX6 19 "FirstOutModel" "dear" "[I", Cond.methodLink RX6 132 yX6_eagerOf, Cond.instanceMethod yX6_eagerOf, Cond.selects RX6 yX6_eagerOf yX6_eagerOf, Cond.code yX6_eagerOf cX6_eagerOf 4 (some .int), Cond.methodLink RX6 174 yX6_part, Cond.static yX6_part, Cond.code yX6_part cX6_part 4 (some .int), Cond.methodLink RX6 167 yX6_gcd, Cond.static yX6_gcd, Cond.code yX6_gcd cX6_gcd 5 (some .int)]
def wsX6_harm : List Cond := .code yX6_harm cX6_harm 2 (some .int) :: ((wsX6_harm_r1 ++ wsX6_harm_r2) ++ wsX60)
def wsX6_odds_r1 : List Cond := [Cond.fieldLink RX6 53 "FirstOutModel" "thrown" "I", Cond.fieldLink RX6 25 "FirstOutModel" "s" "[I", Cond.fieldLink RX6 22 "FirstOutModel" "eager" "[I", Cond.methodLink RX6 138 yX6_isThing, Cond.instanceMethod yX6_isThing, Cond.selects RX6 yX6_isThing yX6_isThing, Cond.initialized RX6, Cond.code yX6_isThing cX6_isThing 2 (some .boolean), Cond.fieldLink RX6 13 "FirstOutModel" "many" "[I", Cond.methodLink RX6 57 yX6_in, Cond.static yX6_in, Cond.code yX6_in cX6_in 3 (some .boolean), Cond.methodLink RX6 122 yX6_comers, Cond.instanceMethod yX6_comers, Cond.selects RX6 yX6_comers yX6_comers, Cond.code yX6_comers cX6_comers 4 (some .int), Cond.methodLink RX6 118 yX6_covered, Cond.instanceMethod yX6_covered, Cond.selects RX6 yX6_covered yX6_covered, Cond.code yX6_covered cX6_covered 4 (some .int), Cond.methodLink RX6 114 yX6_hasAll, Cond.instanceMethod yX6_hasAll, Cond.selects RX6 yX6_hasAll yX6_hasAll, Cond.code yX6_hasAll cX6_hasAll 3 (some .boolean)]
def wsX6_odds_r2 : List Cond := [Cond.fieldLink RX6 16 "FirstOutModel" "traits" "[I", Cond.methodLink RX6 132 yX6_eagerOf, Cond.instanceMethod yX6_eagerOf, Cond.selects RX6 yX6_eagerOf yX6_eagerOf, Cond.code yX6_eagerOf cX6_eagerOf 4 (some .int), Cond.methodLink RX6 174 yX6_part, Cond.static yX6_part, Cond.code yX6_part cX6_part 4 (some .int), Cond.methodLink RX6 167 yX6_gcd, Cond.static yX6_gcd, Cond.code yX6_gcd cX6_gcd 5 (some .int)]
def wsX6_odds : List Cond := .code yX6_odds cX6_odds 4 (some .int) :: ((wsX6_odds_r1 ++ wsX6_odds_r2) ++ wsX60)
def wsX6_swear_r1 : List Cond := [Cond.fieldLink RX6 53 "FirstOutModel" "thrown" "I", Cond.constant RX6 177 (-1000000), Cond.fieldLink RX6 25 "FirstOutModel" "s" "[I", Cond.fieldLink RX6 13 "FirstOutModel" "many" "[I", Cond.fieldLink RX6 135 "FirstOutModel" "eagerAll" "I", Cond.fieldLink RX6 129 "FirstOutModel" "harmAll" "I", Cond.methodLink RX6 57 yX6_in, Cond.static yX6_in, Cond.initialized RX6, Cond.code yX6_in cX6_in 3 (some .boolean), Cond.methodLink RX6 170 yX6_harms, Cond.instanceMethod yX6_harms, Cond.selects RX6 yX6_harms yX6_harms, Cond.code yX6_harms cX6_harms 2 none, Cond.methodLink RX6 122 yX6_comers, Cond.instanceMethod yX6_comers, Cond.selects RX6 yX6_comers yX6_comers, Cond.code yX6_comers cX6_comers 4 (some .int), Cond.fieldLink RX6 22 "FirstOutModel" "eager" "[I", Cond.methodLink RX6 118 yX6_covered, Cond.instanceMethod yX6_covered, Cond.selects RX6 yX6_covered yX6_covered, Cond.code yX6_covered cX6_covered 4 (some .int), Cond.methodLink RX6 114 yX6_hasAll]
def wsX6_swear_r2 : List Cond := [Cond.instanceMethod yX6_hasAll, Cond.selects RX6 yX6_hasAll yX6_hasAll, Cond.code yX6_hasAll cX6_hasAll 3 (some .boolean), Cond.fieldLink RX6 16 "FirstOutModel" "traits" "[I", Cond.methodLink RX6 125 yX6_dearOf, Cond.instanceMethod yX6_dearOf, Cond.selects RX6 yX6_dearOf yX6_dearOf, Cond.code yX6_dearOf cX6_dearOf 5 (some .int), Cond.fieldLink RX6 19 "FirstOutModel" "dear" "[I", Cond.methodLink RX6 132 yX6_eagerOf, Cond.instanceMethod yX6_eagerOf, Cond.selects RX6 yX6_eagerOf yX6_eagerOf, Cond.code yX6_eagerOf cX6_eagerOf 4 (some .int), Cond.methodLink RX6 174 yX6_part, Cond.static yX6_part, Cond.code yX6_part cX6_part 4 (some .int), Cond.methodLink RX6 167 yX6_gcd, Cond.static yX6_gcd, Cond.code yX6_gcd cX6_gcd 5 (some .int)]
def wsX6_swear : List Cond := .code yX6_swear cX6_swear 3 (some .int) :: ((wsX6_swear_r1 ++ wsX6_swear_r2) ++ wsX60)
def wsX6_sense : List Cond := .code yX6_sense cX6_sense 4 (some .int) :: ([.fieldLink RX6 53 "FirstOutModel" "thrown" "I", .fieldLink RX6 13 "FirstOutModel" "many" "[I", .fieldLink RX6 16 "FirstOutModel" "traits" "[I", .fieldLink RX6 25 "FirstOutModel" "s" "[I", .methodLink RX6 57 yX6_in, .static yX6_in, .initialized RX6, .code yX6_in cX6_in 3 (some .boolean), .methodLink RX6 145 yX6_ones, .static yX6_ones, .code yX6_ones cX6_ones 3 (some .int)] ++ wsX60)
def wsX6_asNow : List Cond := .code yX6_asNow cX6_asNow 2 none :: ([.fieldLink RX6 28 "FirstOutModel" "w" "[I", .fieldLink RX6 25 "FirstOutModel" "s" "[I"] ++ wsX60)
def wsX6_both : List Cond := .code yX6_both cX6_both 2 (some .int) :: ([.fieldLink RX6 53 "FirstOutModel" "thrown" "I", .fieldLink RX6 28 "FirstOutModel" "w" "[I", .fieldLink RX6 25 "FirstOutModel" "s" "[I", .methodLink RX6 57 yX6_in, .static yX6_in, .initialized RX6, .code yX6_in cX6_in 3 (some .boolean), .methodLink RX6 178 yX6_asNow, .instanceMethod yX6_asNow, .selects RX6 yX6_asNow yX6_asNow, .code yX6_asNow cX6_asNow 2 none, .methodLink RX6 118 yX6_covered, .instanceMethod yX6_covered, .selects RX6 yX6_covered yX6_covered, .code yX6_covered cX6_covered 4 (some .int), .fieldLink RX6 13 "FirstOutModel" "many" "[I", .methodLink RX6 114 yX6_hasAll, .instanceMethod yX6_hasAll, .selects RX6 yX6_hasAll yX6_hasAll, .code yX6_hasAll cX6_hasAll 3 (some .boolean), .fieldLink RX6 16 "FirstOutModel" "traits" "[I"] ++ wsX60)
def wsX6_means_r1 : List Cond := [Cond.fieldLink RX6 53 "FirstOutModel" "thrown" "I", Cond.fieldLink RX6 28 "FirstOutModel" "w" "[I", Cond.methodLink RX6 181 yX6_everything, Cond.instanceMethod yX6_everything, Cond.selects RX6 yX6_everything yX6_everything, Cond.initialized RX6, Cond.code yX6_everything cX6_everything 1 (some .int), Cond.fieldLink RX6 13 "FirstOutModel" "many" "[I", Cond.methodLink RX6 57 yX6_in, Cond.static yX6_in, Cond.code yX6_in cX6_in 3 (some .boolean), Cond.methodLink RX6 178 yX6_asNow, Cond.instanceMethod yX6_asNow, Cond.selects RX6 yX6_asNow yX6_asNow, Cond.code yX6_asNow cX6_asNow 2 none, Cond.fieldLink RX6 25 "FirstOutModel" "s" "[I", Cond.methodLink RX6 122 yX6_comers, Cond.instanceMethod yX6_comers, Cond.selects RX6 yX6_comers yX6_comers, Cond.code yX6_comers cX6_comers 4 (some .int), Cond.fieldLink RX6 22 "FirstOutModel" "eager" "[I", Cond.methodLink RX6 118 yX6_covered, Cond.instanceMethod yX6_covered, Cond.selects RX6 yX6_covered yX6_covered]
def wsX6_means_r2 : List Cond := [Cond.code yX6_covered cX6_covered 4 (some .int), Cond.methodLink RX6 114 yX6_hasAll, Cond.instanceMethod yX6_hasAll, Cond.selects RX6 yX6_hasAll yX6_hasAll, Cond.code yX6_hasAll cX6_hasAll 3 (some .boolean), Cond.fieldLink RX6 16 "FirstOutModel" "traits" "[I", Cond.methodLink RX6 145 yX6_ones, Cond.static yX6_ones, Cond.code yX6_ones cX6_ones 3 (some .int)]
def wsX6_means : List Cond := .code yX6_means cX6_means 6 (some .int) :: ((wsX6_means_r1 ++ wsX6_means_r2) ++ wsX60)
def wsX6_span : List Cond := .code yX6_span cX6_span 3 (some .int) :: ([.fieldLink RX6 53 "FirstOutModel" "thrown" "I", .fieldLink RX6 28 "FirstOutModel" "w" "[I", .methodLink RX6 178 yX6_asNow, .instanceMethod yX6_asNow, .selects RX6 yX6_asNow yX6_asNow, .initialized RX6, .code yX6_asNow cX6_asNow 2 none, .fieldLink RX6 25 "FirstOutModel" "s" "[I", .methodLink RX6 118 yX6_covered, .instanceMethod yX6_covered, .selects RX6 yX6_covered yX6_covered, .code yX6_covered cX6_covered 4 (some .int), .fieldLink RX6 13 "FirstOutModel" "many" "[I", .methodLink RX6 114 yX6_hasAll, .instanceMethod yX6_hasAll, .selects RX6 yX6_hasAll yX6_hasAll, .code yX6_hasAll cX6_hasAll 3 (some .boolean), .fieldLink RX6 16 "FirstOutModel" "traits" "[I", .methodLink RX6 145 yX6_ones, .static yX6_ones, .code yX6_ones cX6_ones 3 (some .int)] ++ wsX60)
def wsX6_shut_r1 : List Cond := [Cond.fieldLink RX6 53 "FirstOutModel" "thrown" "I", Cond.fieldLink RX6 25 "FirstOutModel" "s" "[I", Cond.fieldLink RX6 129 "FirstOutModel" "harmAll" "I", Cond.fieldLink RX6 135 "FirstOutModel" "eagerAll" "I", Cond.fieldLink RX6 28 "FirstOutModel" "w" "[I", Cond.methodLink RX6 57 yX6_in, Cond.static yX6_in, Cond.initialized RX6, Cond.code yX6_in cX6_in 3 (some .boolean), Cond.methodLink RX6 178 yX6_asNow, Cond.instanceMethod yX6_asNow, Cond.selects RX6 yX6_asNow yX6_asNow, Cond.code yX6_asNow cX6_asNow 2 none, Cond.methodLink RX6 122 yX6_comers, Cond.instanceMethod yX6_comers, Cond.selects RX6 yX6_comers yX6_comers, Cond.code yX6_comers cX6_comers 4 (some .int), Cond.fieldLink RX6 13 "FirstOutModel" "many" "[I", Cond.fieldLink RX6 22 "FirstOutModel" "eager" "[I", Cond.methodLink RX6 118 yX6_covered, Cond.instanceMethod yX6_covered, Cond.selects RX6 yX6_covered yX6_covered, Cond.code yX6_covered cX6_covered 4 (some .int), Cond.methodLink RX6 114 yX6_hasAll]
def wsX6_shut_r2 : List Cond := [Cond.instanceMethod yX6_hasAll, Cond.selects RX6 yX6_hasAll yX6_hasAll, Cond.code yX6_hasAll cX6_hasAll 3 (some .boolean), Cond.fieldLink RX6 16 "FirstOutModel" "traits" "[I", Cond.methodLink RX6 170 yX6_harms, Cond.instanceMethod yX6_harms, Cond.selects RX6 yX6_harms yX6_harms, Cond.code yX6_harms cX6_harms 2 none, Cond.methodLink RX6 125 yX6_dearOf, Cond.instanceMethod yX6_dearOf, Cond.selects RX6 yX6_dearOf yX6_dearOf, Cond.code yX6_dearOf cX6_dearOf 5 (some .int), Cond.fieldLink RX6 19 "FirstOutModel" "dear" "[I", Cond.methodLink RX6 132 yX6_eagerOf, Cond.instanceMethod yX6_eagerOf, Cond.selects RX6 yX6_eagerOf yX6_eagerOf, Cond.code yX6_eagerOf cX6_eagerOf 4 (some .int), Cond.methodLink RX6 145 yX6_ones, Cond.static yX6_ones, Cond.code yX6_ones cX6_ones 3 (some .int), Cond.methodLink RX6 174 yX6_part, Cond.static yX6_part, Cond.code yX6_part cX6_part 4 (some .int), Cond.methodLink RX6 167 yX6_gcd]
def wsX6_shut_r3 : List Cond := [Cond.static yX6_gcd, Cond.code yX6_gcd cX6_gcd 5 (some .int)]
def wsX6_shut : List Cond := .code yX6_shut cX6_shut 9 (some .int) :: ((wsX6_shut_r1 ++ (wsX6_shut_r2 ++ wsX6_shut_r3)) ++ wsX60)
def wsX6_tell_r1 : List Cond := [Cond.fieldLink RX6 53 "FirstOutModel" "thrown" "I", Cond.fieldLink RX6 28 "FirstOutModel" "w" "[I", Cond.fieldLink RX6 25 "FirstOutModel" "s" "[I", Cond.fieldLink RX6 129 "FirstOutModel" "harmAll" "I", Cond.methodLink RX6 178 yX6_asNow, Cond.instanceMethod yX6_asNow, Cond.selects RX6 yX6_asNow yX6_asNow, Cond.initialized RX6, Cond.code yX6_asNow cX6_asNow 2 none, Cond.methodLink RX6 181 yX6_everything, Cond.instanceMethod yX6_everything, Cond.selects RX6 yX6_everything yX6_everything, Cond.code yX6_everything cX6_everything 1 (some .int), Cond.fieldLink RX6 13 "FirstOutModel" "many" "[I", Cond.methodLink RX6 170 yX6_harms, Cond.instanceMethod yX6_harms, Cond.selects RX6 yX6_harms yX6_harms, Cond.code yX6_harms cX6_harms 2 none, Cond.fieldLink RX6 135 "FirstOutModel" "eagerAll" "I", Cond.methodLink RX6 122 yX6_comers, Cond.instanceMethod yX6_comers, Cond.selects RX6 yX6_comers yX6_comers, Cond.code yX6_comers cX6_comers 4 (some .int), Cond.fieldLink RX6 22 "FirstOutModel" "eager" "[I"]
def wsX6_tell_r2 : List Cond := [Cond.methodLink RX6 118 yX6_covered, Cond.instanceMethod yX6_covered, Cond.selects RX6 yX6_covered yX6_covered, Cond.code yX6_covered cX6_covered 4 (some .int), Cond.methodLink RX6 114 yX6_hasAll, Cond.instanceMethod yX6_hasAll, Cond.selects RX6 yX6_hasAll yX6_hasAll, Cond.code yX6_hasAll cX6_hasAll 3 (some .boolean), Cond.fieldLink RX6 16 "FirstOutModel" "traits" "[I", Cond.methodLink RX6 125 yX6_dearOf, Cond.instanceMethod yX6_dearOf, Cond.selects RX6 yX6_dearOf yX6_dearOf, Cond.code yX6_dearOf cX6_dearOf 5 (some .int), Cond.fieldLink RX6 19 "FirstOutModel" "dear" "[I", Cond.methodLink RX6 132 yX6_eagerOf, Cond.instanceMethod yX6_eagerOf, Cond.selects RX6 yX6_eagerOf yX6_eagerOf, Cond.code yX6_eagerOf cX6_eagerOf 4 (some .int), Cond.methodLink RX6 145 yX6_ones, Cond.static yX6_ones, Cond.code yX6_ones cX6_ones 3 (some .int)]
def wsX6_tell : List Cond := .code yX6_tell cX6_tell 3 (some .int) :: ((wsX6_tell_r1 ++ wsX6_tell_r2) ++ wsX60)
def wsX6_saw : List Cond := .code yX6_saw cX6_saw 3 (some .int) :: ([.fieldLink RX6 53 "FirstOutModel" "thrown" "I", .fieldLink RX6 108 "FirstOutModel" "sawMany" "I", .fieldLink RX6 41 "FirstOutModel" "sawOf" "[I", .fieldLink RX6 44 "FirstOutModel" "sawIs" "[I", .methodLink RX6 138 yX6_isThing, .instanceMethod yX6_isThing, .selects RX6 yX6_isThing yX6_isThing, .initialized RX6, .code yX6_isThing cX6_isThing 2 (some .boolean), .fieldLink RX6 13 "FirstOutModel" "many" "[I", .methodLink RX6 57 yX6_in, .static yX6_in, .code yX6_in cX6_in 3 (some .boolean)] ++ wsX60)
def wsX6_forget : List Cond := .code yX6_forget cX6_forget 2 (some .int) :: ([.fieldLink RX6 53 "FirstOutModel" "thrown" "I", .fieldLink RX6 108 "FirstOutModel" "sawMany" "I"] ++ wsX60)
def wsX6_fit : List Cond := .code yX6_fit cX6_fit 8 (some .int) :: ([.fieldLink RX6 53 "FirstOutModel" "thrown" "I", .fieldLink RX6 108 "FirstOutModel" "sawMany" "I", .fieldLink RX6 41 "FirstOutModel" "sawOf" "[I", .fieldLink RX6 44 "FirstOutModel" "sawIs" "[I", .methodLink RX6 57 yX6_in, .static yX6_in, .initialized RX6, .code yX6_in cX6_in 3 (some .boolean), .methodLink RX6 114 yX6_hasAll, .instanceMethod yX6_hasAll, .selects RX6 yX6_hasAll yX6_hasAll, .code yX6_hasAll cX6_hasAll 3 (some .boolean), .fieldLink RX6 16 "FirstOutModel" "traits" "[I"] ++ wsX60)
def wsX6_lost_r1 : List Cond := [Cond.fieldLink RX6 53 "FirstOutModel" "thrown" "I", Cond.fieldLink RX6 28 "FirstOutModel" "w" "[I", Cond.methodLink RX6 57 yX6_in, Cond.static yX6_in, Cond.initialized RX6, Cond.code yX6_in cX6_in 3 (some .boolean), Cond.methodLink RX6 178 yX6_asNow, Cond.instanceMethod yX6_asNow, Cond.selects RX6 yX6_asNow yX6_asNow, Cond.code yX6_asNow cX6_asNow 2 none, Cond.fieldLink RX6 25 "FirstOutModel" "s" "[I", Cond.methodLink RX6 164 yX6_goes, Cond.instanceMethod yX6_goes, Cond.selects RX6 yX6_goes yX6_goes, Cond.code yX6_goes cX6_goes 4 (some .int), Cond.methodLink RX6 160 yX6_comesBy, Cond.instanceMethod yX6_comesBy, Cond.selects RX6 yX6_comesBy yX6_comesBy, Cond.code yX6_comesBy cX6_comesBy 9 (some .int), Cond.constantLong RX6 152 (7919), Cond.constantLong RX6 154 (4253), Cond.constantLong RX6 156 (65521), Cond.constantLong RX6 158 (8), Cond.fieldLink RX6 22 "FirstOutModel" "eager" "[I"]
def wsX6_lost_r2 : List Cond := [Cond.methodLink RX6 122 yX6_comers, Cond.instanceMethod yX6_comers, Cond.selects RX6 yX6_comers yX6_comers, Cond.code yX6_comers cX6_comers 4 (some .int), Cond.fieldLink RX6 13 "FirstOutModel" "many" "[I", Cond.methodLink RX6 118 yX6_covered, Cond.instanceMethod yX6_covered, Cond.selects RX6 yX6_covered yX6_covered, Cond.code yX6_covered cX6_covered 4 (some .int), Cond.methodLink RX6 114 yX6_hasAll, Cond.instanceMethod yX6_hasAll, Cond.selects RX6 yX6_hasAll yX6_hasAll, Cond.code yX6_hasAll cX6_hasAll 3 (some .boolean), Cond.fieldLink RX6 16 "FirstOutModel" "traits" "[I", Cond.methodLink RX6 132 yX6_eagerOf, Cond.instanceMethod yX6_eagerOf, Cond.selects RX6 yX6_eagerOf yX6_eagerOf, Cond.code yX6_eagerOf cX6_eagerOf 4 (some .int)]
def wsX6_lost : List Cond := .code yX6_lost cX6_lost 4 (some .int) :: ((wsX6_lost_r1 ++ wsX6_lost_r2) ++ wsX60)
def wsX6_draw_r1 : List Cond := [Cond.fieldLink RX6 53 "FirstOutModel" "thrown" "I", Cond.fieldLink RX6 25 "FirstOutModel" "s" "[I", Cond.methodLink RX6 138 yX6_isThing, Cond.instanceMethod yX6_isThing, Cond.selects RX6 yX6_isThing yX6_isThing, Cond.initialized RX6, Cond.code yX6_isThing cX6_isThing 2 (some .boolean), Cond.fieldLink RX6 13 "FirstOutModel" "many" "[I", Cond.methodLink RX6 57 yX6_in, Cond.static yX6_in, Cond.code yX6_in cX6_in 3 (some .boolean), Cond.methodLink RX6 160 yX6_comesBy, Cond.instanceMethod yX6_comesBy, Cond.selects RX6 yX6_comesBy yX6_comesBy, Cond.code yX6_comesBy cX6_comesBy 9 (some .int), Cond.constantLong RX6 152 (7919), Cond.constantLong RX6 154 (4253), Cond.constantLong RX6 156 (65521), Cond.constantLong RX6 158 (8), Cond.fieldLink RX6 22 "FirstOutModel" "eager" "[I", Cond.methodLink RX6 122 yX6_comers, Cond.instanceMethod yX6_comers, Cond.selects RX6 yX6_comers yX6_comers, Cond.code yX6_comers cX6_comers 4 (some .int)]
def wsX6_draw_r2 : List Cond := [Cond.methodLink RX6 118 yX6_covered, Cond.instanceMethod yX6_covered, Cond.selects RX6 yX6_covered yX6_covered, Cond.code yX6_covered cX6_covered 4 (some .int), Cond.methodLink RX6 114 yX6_hasAll, Cond.instanceMethod yX6_hasAll, Cond.selects RX6 yX6_hasAll yX6_hasAll, Cond.code yX6_hasAll cX6_hasAll 3 (some .boolean), Cond.fieldLink RX6 16 "FirstOutModel" "traits" "[I", Cond.methodLink RX6 132 yX6_eagerOf, Cond.instanceMethod yX6_eagerOf, Cond.selects RX6 yX6_eagerOf yX6_eagerOf, Cond.code yX6_eagerOf cX6_eagerOf 4 (some .int)]
def wsX6_draw : List Cond := .code yX6_draw cX6_draw 6 (some .int) :: ((wsX6_draw_r1 ++ wsX6_draw_r2) ++ wsX60)
def wsX6_rate : List Cond := .code yX6_rate cX6_rate 5 (some .int) :: ([.fieldLink RX6 53 "FirstOutModel" "thrown" "I", .constant RX6 177 (-1000000), .fieldLink RX6 19 "FirstOutModel" "dear" "[I", .fieldLink RX6 22 "FirstOutModel" "eager" "[I", .fieldLink RX6 16 "FirstOutModel" "traits" "[I", .fieldLink RX6 185 "FirstOutModel" "trace" "J", .constantLong RX6 189 (11), .constantLong RX6 191 (101), .constantLong RX6 193 (1011), .constantLong RX6 195 (10101), .constantLong RX6 197 (100001), .fieldLink RX6 25 "FirstOutModel" "s" "[I", .methodLink RX6 57 yX6_in, .static yX6_in, .initialized RX6, .code yX6_in cX6_in 3 (some .boolean), .methodLink RX6 138 yX6_isThing, .instanceMethod yX6_isThing, .selects RX6 yX6_isThing yX6_isThing, .code yX6_isThing cX6_isThing 2 (some .boolean), .fieldLink RX6 13 "FirstOutModel" "many" "[I", .methodLink RX6 145 yX6_ones, .static yX6_ones, .code yX6_ones cX6_ones 3 (some .int)] ++ wsX60)
def wsX6_keep : List Cond := .code yX6_keep cX6_keep 3 (some .int) :: ([.fieldLink RX6 53 "FirstOutModel" "thrown" "I", .fieldLink RX6 31 "FirstOutModel" "kept" "[I", .fieldLink RX6 25 "FirstOutModel" "s" "[I", .fieldLink RX6 34 "FirstOutModel" "isKept" "[Z", .methodLink RX6 57 yX6_in, .static yX6_in, .initialized RX6, .code yX6_in cX6_in 3 (some .boolean)] ++ wsX60)
def wsX6_back : List Cond := .code yX6_back cX6_back 3 (some .int) :: ([.fieldLink RX6 53 "FirstOutModel" "thrown" "I", .fieldLink RX6 34 "FirstOutModel" "isKept" "[Z", .fieldLink RX6 25 "FirstOutModel" "s" "[I", .fieldLink RX6 31 "FirstOutModel" "kept" "[I", .fieldLink RX6 111 "FirstOutModel" "undoMany" "I", .methodLink RX6 57 yX6_in, .static yX6_in, .initialized RX6, .code yX6_in cX6_in 3 (some .boolean)] ++ wsX60)
def wsX6_count : List Cond := .code yX6_count cX6_count 2 (some .int) :: ([.fieldLink RX6 53 "FirstOutModel" "thrown" "I", .fieldLink RX6 13 "FirstOutModel" "many" "[I", .fieldLink RX6 108 "FirstOutModel" "sawMany" "I", .fieldLink RX6 61 "FirstOutModel" "typed" "I", .methodLink RX6 57 yX6_in, .static yX6_in, .initialized RX6, .code yX6_in cX6_in 3 (some .boolean)] ++ wsX60)
def wsX6_trace : List Cond := .code yX6_trace cX6_trace 1 (some .long) :: ([.fieldLink RX6 53 "FirstOutModel" "thrown" "I", .fieldLink RX6 185 "FirstOutModel" "trace" "J"] ++ wsX60)
def wsJ9_abs_0f7a4 : List Cond := .code yJ9_abs_0f7a4 cJ9_abs_0f7a4 1 (some .int) :: ([])
def wsJ9_max_7cf53 : List Cond := .code yJ9_max_7cf53 cJ9_max_7cf53 2 (some .int) :: ([])
def wsJ9_min_7cf53 : List Cond := .code yJ9_min_7cf53 cJ9_min_7cf53 2 (some .int) :: ([])
set_option maxRecDepth 20000 in
theorem ggX0_init_X0_setBare : GoodIn wsX0_init wsX0_setBare := goodIn_r _ [12, 13, 14, 15, 16, 17, 18, 19, 20, 21, 22, 23, 24, 25, 26, 27] (by decide +kernel) (by decide +kernel)
set_option maxRecDepth 20000 in
theorem gX0_init_X0_setBare : GoodIn wsX0_init (wsV RX0 21 RX0 yX0_setBare wsX0_setBare) := goodIn_app (goodIn_of _ (by decide +kernel)) ggX0_init_X0_setBare
theorem dX0_init_0 : decode cX0_init 0 = .ok (.aload_n 0, 1) := by decide +kernel
theorem dX0_init_1 : decode cX0_init 1 = .ok (.invokespecial 3, 3) := by decide +kernel
theorem dX0_init_4 : decode cX0_init 4 = .ok (.aload_n 0, 1) := by decide +kernel
theorem dX0_init_5 : decode cX0_init 5 = .ok (.bipush 7, 2) := by decide +kernel
theorem dX0_init_7 : decode cX0_init 7 = .ok (.newarray .int, 2) := by decide +kernel
theorem dX0_init_9 : decode cX0_init 9 = .ok (.putfield 9, 3) := by decide +kernel
theorem dX0_init_12 : decode cX0_init 12 = .ok (.aload_n 0, 1) := by decide +kernel
theorem dX0_init_13 : decode cX0_init 13 = .ok (.bipush 7, 2) := by decide +kernel
theorem dX0_init_15 : decode cX0_init 15 = .ok (.newarray .int, 2) := by decide +kernel
theorem dX0_init_17 : decode cX0_init 17 = .ok (.putfield 15, 3) := by decide +kernel
theorem dX0_init_20 : decode cX0_init 20 = .ok (.aload_n 0, 1) := by decide +kernel
theorem dX0_init_21 : decode cX0_init 21 = .ok (.bipush 7, 2) := by decide +kernel
theorem dX0_init_23 : decode cX0_init 23 = .ok (.newarray .int, 2) := by decide +kernel
theorem dX0_init_25 : decode cX0_init 25 = .ok (.putfield 18, 3) := by decide +kernel
theorem dX0_init_28 : decode cX0_init 28 = .ok (.aload_n 0, 1) := by decide +kernel
theorem dX0_init_29 : decode cX0_init 29 = .ok (.invokevirtual 21, 3) := by decide +kernel
theorem dX0_init_32 : decode cX0_init 32 = .ok (.return_, 1) := by decide +kernel
theorem dX0_setBare_0 : decode cX0_setBare 0 = .ok (.aload_n 0, 1) := by decide +kernel
theorem dX0_setBare_1 : decode cX0_setBare 1 = .ok (.iconst 0, 1) := by decide +kernel
theorem dX0_setBare_2 : decode cX0_setBare 2 = .ok (.putfield 24, 3) := by decide +kernel
theorem dX0_setBare_5 : decode cX0_setBare 5 = .ok (.aload_n 0, 1) := by decide +kernel
theorem dX0_setBare_6 : decode cX0_setBare 6 = .ok (.iconst 0, 1) := by decide +kernel
theorem dX0_setBare_7 : decode cX0_setBare 7 = .ok (.putfield 28, 3) := by decide +kernel
theorem dX0_setBare_10 : decode cX0_setBare 10 = .ok (.aload_n 0, 1) := by decide +kernel
theorem dX0_setBare_11 : decode cX0_setBare 11 = .ok (.iconst 0, 1) := by decide +kernel
theorem dX0_setBare_12 : decode cX0_setBare 12 = .ok (.putfield 31, 3) := by decide +kernel
theorem dX0_setBare_15 : decode cX0_setBare 15 = .ok (.aload_n 0, 1) := by decide +kernel
theorem dX0_setBare_16 : decode cX0_setBare 16 = .ok (.iconst 5, 1) := by decide +kernel
abbrev vwCl : List vw_C := [(RX0, TX0, 9), (RX1, TX1, 3), (RX2, TX2, 3), (RX3, TX3, 5), (RX4, TX4, 5), (RX5, TX5, 10), (RX6, TX6, 26)]
end
section
theorem dX0_setBare_17 : decode cX0_setBare 17 = .ok (.putfield 34, 3) := by decide +kernel
theorem dX0_setBare_20 : decode cX0_setBare 20 = .ok (.aload_n 0, 1) := by decide +kernel
theorem dX0_setBare_21 : decode cX0_setBare 21 = .ok (.iconst 0, 1) := by decide +kernel
theorem dX0_setBare_22 : decode cX0_setBare 22 = .ok (.putfield 37, 3) := by decide +kernel
theorem dX0_setBare_25 : decode cX0_setBare 25 = .ok (.aload_n 0, 1) := by decide +kernel
theorem dX0_setBare_26 : decode cX0_setBare 26 = .ok (.bipush 100, 2) := by decide +kernel
theorem dX0_setBare_28 : decode cX0_setBare 28 = .ok (.putfield 40, 3) := by decide +kernel
theorem dX0_setBare_31 : decode cX0_setBare 31 = .ok (.return_, 1) := by decide +kernel
theorem dX0_hasRoom_0 : decode cX0_hasRoom 0 = .ok (.aload_n 0, 1) := by decide +kernel
theorem dX0_hasRoom_1 : decode cX0_hasRoom 1 = .ok (.getfield 24, 3) := by decide +kernel
theorem dX0_hasRoom_4 : decode cX0_hasRoom 4 = .ok (.bipush 7, 2) := by decide +kernel
theorem dX0_hasRoom_6 : decode cX0_hasRoom 6 = .ok (.if_icmp .ge 7, 3) := by decide +kernel
theorem dX0_hasRoom_9 : decode cX0_hasRoom 9 = .ok (.iconst 1, 1) := by decide +kernel
theorem dX0_hasRoom_10 : decode cX0_hasRoom 10 = .ok (.goto 4, 3) := by decide +kernel
theorem dX0_hasRoom_13 : decode cX0_hasRoom 13 = .ok (.iconst 0, 1) := by decide +kernel
theorem dX0_hasRoom_14 : decode cX0_hasRoom 14 = .ok (.ireturn, 1) := by decide +kernel
set_option maxRecDepth 20000 in
theorem ggX0_add_X0_hasRoom : GoodIn wsX0_add wsX0_hasRoom := goodIn_r _ [10, 2, 11, 12, 13, 14, 15, 16, 17, 18, 19] (by decide +kernel) (by decide +kernel)
set_option maxRecDepth 20000 in
theorem gX0_add_X0_hasRoom : GoodIn wsX0_add (wsV RX0 43 RX0 yX0_hasRoom wsX0_hasRoom) := goodIn_app (goodIn_of _ (by decide +kernel)) ggX0_add_X0_hasRoom
theorem dX0_add_0 : decode cX0_add 0 = .ok (.aload_n 0, 1) := by decide +kernel
theorem dX0_add_1 : decode cX0_add 1 = .ok (.invokevirtual 43, 3) := by decide +kernel
theorem dX0_add_4 : decode cX0_add 4 = .ok (.ifCond .ne 4, 3) := by decide +kernel
theorem dX0_add_7 : decode cX0_add 7 = .ok (.return_, 1) := by decide +kernel
theorem dX0_add_8 : decode cX0_add 8 = .ok (.aload_n 0, 1) := by decide +kernel
theorem dX0_add_9 : decode cX0_add 9 = .ok (.getfield 9, 3) := by decide +kernel
theorem dX0_add_12 : decode cX0_add 12 = .ok (.aload_n 0, 1) := by decide +kernel
theorem dX0_add_13 : decode cX0_add 13 = .ok (.getfield 24, 3) := by decide +kernel
theorem dX0_add_16 : decode cX0_add 16 = .ok (.iload_n 1, 1) := by decide +kernel
theorem dX0_add_17 : decode cX0_add 17 = .ok (.iastore, 1) := by decide +kernel
theorem dX0_add_18 : decode cX0_add 18 = .ok (.aload_n 0, 1) := by decide +kernel
theorem dX0_add_19 : decode cX0_add 19 = .ok (.getfield 15, 3) := by decide +kernel
theorem dX0_add_22 : decode cX0_add 22 = .ok (.aload_n 0, 1) := by decide +kernel
theorem dX0_add_23 : decode cX0_add 23 = .ok (.getfield 24, 3) := by decide +kernel
theorem dX0_add_26 : decode cX0_add 26 = .ok (.iload_n 2, 1) := by decide +kernel
theorem dX0_add_27 : decode cX0_add 27 = .ok (.iastore, 1) := by decide +kernel
theorem dX0_add_28 : decode cX0_add 28 = .ok (.aload_n 0, 1) := by decide +kernel
theorem dX0_add_29 : decode cX0_add 29 = .ok (.getfield 18, 3) := by decide +kernel
theorem dX0_add_32 : decode cX0_add 32 = .ok (.aload_n 0, 1) := by decide +kernel
theorem dX0_add_33 : decode cX0_add 33 = .ok (.getfield 24, 3) := by decide +kernel
theorem dX0_add_36 : decode cX0_add 36 = .ok (.iload_n 3, 1) := by decide +kernel
theorem dX0_add_37 : decode cX0_add 37 = .ok (.iastore, 1) := by decide +kernel
theorem dX0_add_38 : decode cX0_add 38 = .ok (.aload_n 0, 1) := by decide +kernel
theorem dX0_add_39 : decode cX0_add 39 = .ok (.dup, 1) := by decide +kernel
theorem dX0_add_40 : decode cX0_add 40 = .ok (.getfield 28, 3) := by decide +kernel
theorem dX0_add_43 : decode cX0_add 43 = .ok (.iload 4, 2) := by decide +kernel
theorem dX0_add_45 : decode cX0_add 45 = .ok (.aload_n 0, 1) := by decide +kernel
theorem dX0_add_46 : decode cX0_add 46 = .ok (.getfield 24, 3) := by decide +kernel
theorem dX0_add_49 : decode cX0_add 49 = .ok (.ishl, 1) := by decide +kernel
theorem dX0_add_50 : decode cX0_add 50 = .ok (.ior, 1) := by decide +kernel
theorem dX0_add_51 : decode cX0_add 51 = .ok (.putfield 28, 3) := by decide +kernel
theorem dX0_add_54 : decode cX0_add 54 = .ok (.aload_n 0, 1) := by decide +kernel
theorem dX0_add_55 : decode cX0_add 55 = .ok (.dup, 1) := by decide +kernel
theorem dX0_add_56 : decode cX0_add 56 = .ok (.getfield 24, 3) := by decide +kernel
theorem dX0_add_59 : decode cX0_add 59 = .ok (.iconst 1, 1) := by decide +kernel
theorem dX0_add_60 : decode cX0_add 60 = .ok (.iadd, 1) := by decide +kernel
theorem dX0_add_61 : decode cX0_add 61 = .ok (.putfield 24, 3) := by decide +kernel
theorem dX0_add_64 : decode cX0_add 64 = .ok (.return_, 1) := by decide +kernel
theorem dX0_holds_0 : decode cX0_holds 0 = .ok (.iload_n 1, 1) := by decide +kernel
theorem dX0_holds_1 : decode cX0_holds 1 = .ok (.ifCond .lt 15, 3) := by decide +kernel
theorem dX0_holds_4 : decode cX0_holds 4 = .ok (.iload_n 1, 1) := by decide +kernel
theorem dX0_holds_5 : decode cX0_holds 5 = .ok (.aload_n 0, 1) := by decide +kernel
theorem dX0_holds_6 : decode cX0_holds 6 = .ok (.getfield 24, 3) := by decide +kernel
theorem dX0_holds_9 : decode cX0_holds 9 = .ok (.if_icmp .ge 7, 3) := by decide +kernel
theorem dX0_holds_12 : decode cX0_holds 12 = .ok (.iconst 1, 1) := by decide +kernel
theorem dX0_holds_13 : decode cX0_holds 13 = .ok (.goto 4, 3) := by decide +kernel
theorem dX0_holds_16 : decode cX0_holds 16 = .ok (.iconst 0, 1) := by decide +kernel
theorem dX0_holds_17 : decode cX0_holds 17 = .ok (.ireturn, 1) := by decide +kernel
theorem dX0_having_0 : decode cX0_having 0 = .ok (.iconst 0, 1) := by decide +kernel
theorem dX0_having_1 : decode cX0_having 1 = .ok (.istore_n 2, 1) := by decide +kernel
theorem dX0_having_2 : decode cX0_having 2 = .ok (.iconst 0, 1) := by decide +kernel
theorem dX0_having_3 : decode cX0_having 3 = .ok (.istore_n 3, 1) := by decide +kernel
theorem dX0_having_4 : decode cX0_having 4 = .ok (.iload_n 3, 1) := by decide +kernel
theorem dX0_having_5 : decode cX0_having 5 = .ok (.aload_n 0, 1) := by decide +kernel
theorem dX0_having_6 : decode cX0_having 6 = .ok (.getfield 24, 3) := by decide +kernel
theorem dX0_having_9 : decode cX0_having 9 = .ok (.if_icmp .ge 27, 3) := by decide +kernel
theorem dX0_having_12 : decode cX0_having 12 = .ok (.aload_n 0, 1) := by decide +kernel
theorem dX0_having_13 : decode cX0_having 13 = .ok (.getfield 9, 3) := by decide +kernel
theorem dX0_having_16 : decode cX0_having 16 = .ok (.iload_n 3, 1) := by decide +kernel
theorem dX0_having_17 : decode cX0_having 17 = .ok (.iaload, 1) := by decide +kernel
theorem dX0_having_18 : decode cX0_having 18 = .ok (.iload_n 1, 1) := by decide +kernel
theorem dX0_having_19 : decode cX0_having 19 = .ok (.iand, 1) := by decide +kernel
theorem dX0_having_20 : decode cX0_having 20 = .ok (.iload_n 1, 1) := by decide +kernel
theorem dX0_having_21 : decode cX0_having 21 = .ok (.if_icmp .ne 9, 3) := by decide +kernel
theorem dX0_having_24 : decode cX0_having 24 = .ok (.iload_n 2, 1) := by decide +kernel
theorem dX0_having_25 : decode cX0_having 25 = .ok (.iconst 1, 1) := by decide +kernel
theorem dX0_having_26 : decode cX0_having 26 = .ok (.iload_n 3, 1) := by decide +kernel
theorem dX0_having_27 : decode cX0_having 27 = .ok (.ishl, 1) := by decide +kernel
theorem dX0_having_28 : decode cX0_having 28 = .ok (.ior, 1) := by decide +kernel
theorem dX0_having_29 : decode cX0_having 29 = .ok (.istore_n 2, 1) := by decide +kernel
theorem dX0_having_30 : decode cX0_having 30 = .ok (.iinc 3 1, 3) := by decide +kernel
theorem dX0_having_33 : decode cX0_having 33 = .ok (.goto (-29), 3) := by decide +kernel
theorem dX0_having_36 : decode cX0_having 36 = .ok (.iload_n 2, 1) := by decide +kernel
theorem dX0_having_37 : decode cX0_having 37 = .ok (.ireturn, 1) := by decide +kernel
set_option maxRecDepth 20000 in
theorem ggX0_coveredBy_X0_having : GoodIn wsX0_coveredBy wsX0_having := goodIn_r _ [6, 7, 8, 14, 15, 16, 17, 18, 19, 20, 21, 22] (by decide +kernel) (by decide +kernel)
set_option maxRecDepth 20000 in
theorem gX0_coveredBy_X0_having : GoodIn wsX0_coveredBy (wsV RX0 47 RX0 yX0_having wsX0_having) := goodIn_app (goodIn_of _ (by decide +kernel)) ggX0_coveredBy_X0_having
theorem dX0_coveredBy_0 : decode cX0_coveredBy 0 = .ok (.aload_n 0, 1) := by decide +kernel
theorem dX0_coveredBy_1 : decode cX0_coveredBy 1 = .ok (.iload_n 1, 1) := by decide +kernel
theorem dX0_coveredBy_2 : decode cX0_coveredBy 2 = .ok (.invokevirtual 47, 3) := by decide +kernel
theorem dX0_coveredBy_5 : decode cX0_coveredBy 5 = .ok (.aload_n 2, 1) := by decide +kernel
theorem dX0_coveredBy_6 : decode cX0_coveredBy 6 = .ok (.getfield 51, 3) := by decide +kernel
theorem dX0_coveredBy_9 : decode cX0_coveredBy 9 = .ok (.iconst (-1), 1) := by decide +kernel
theorem dX0_coveredBy_10 : decode cX0_coveredBy 10 = .ok (.ixor, 1) := by decide +kernel
theorem dX0_coveredBy_11 : decode cX0_coveredBy 11 = .ok (.iand, 1) := by decide +kernel
theorem dX0_coveredBy_12 : decode cX0_coveredBy 12 = .ok (.ireturn, 1) := by decide +kernel
set_option maxRecDepth 20000 in
theorem ggX0_ableBy_X0_coveredBy : GoodIn wsX0_ableBy wsX0_coveredBy := goodIn_r _ [8, 2, 9, 10, 11, 7, 12, 13, 14, 20, 21, 22, 23, 24, 25, 26, 27, 28, 29, 30, 31, 32, 33] (by decide +kernel) (by decide +kernel)
set_option maxRecDepth 20000 in
theorem gX0_ableBy_X0_coveredBy : GoodIn wsX0_ableBy (wsV RX0 57 RX0 yX0_coveredBy wsX0_coveredBy) := goodIn_app (goodIn_of _ (by decide +kernel)) ggX0_ableBy_X0_coveredBy
set_option maxRecDepth 20000 in
theorem ggX0_ableBy_X0_eagerOnes : GoodIn wsX0_ableBy wsX0_eagerOnes := goodIn_r _ [18, 13, 19, 25, 26, 27, 28, 29, 30, 31, 32, 33] (by decide +kernel) (by decide +kernel)
set_option maxRecDepth 20000 in
theorem gX0_ableBy_X0_eagerOnes : GoodIn wsX0_ableBy (wsV RX0 61 RX0 yX0_eagerOnes wsX0_eagerOnes) := goodIn_app (goodIn_of _ (by decide +kernel)) ggX0_ableBy_X0_eagerOnes
theorem dX0_ableBy_0 : decode cX0_ableBy 0 = .ok (.aload_n 2, 1) := by decide +kernel
theorem dX0_ableBy_1 : decode cX0_ableBy 1 = .ok (.getfield 56, 3) := by decide +kernel
theorem dX0_ableBy_4 : decode cX0_ableBy 4 = .ok (.aload_n 0, 1) := by decide +kernel
theorem dX0_ableBy_5 : decode cX0_ableBy 5 = .ok (.iload_n 1, 1) := by decide +kernel
theorem dX0_ableBy_6 : decode cX0_ableBy 6 = .ok (.aload_n 2, 1) := by decide +kernel
theorem dX0_ableBy_7 : decode cX0_ableBy 7 = .ok (.invokevirtual 57, 3) := by decide +kernel
theorem dX0_ableBy_10 : decode cX0_ableBy 10 = .ok (.iand, 1) := by decide +kernel
theorem dX0_ableBy_11 : decode cX0_ableBy 11 = .ok (.istore_n 3, 1) := by decide +kernel
theorem dX0_ableBy_12 : decode cX0_ableBy 12 = .ok (.aload_n 0, 1) := by decide +kernel
theorem dX0_ableBy_13 : decode cX0_ableBy 13 = .ok (.invokevirtual 61, 3) := by decide +kernel
theorem dX0_ableBy_16 : decode cX0_ableBy 16 = .ok (.aload_n 2, 1) := by decide +kernel
theorem dX0_ableBy_17 : decode cX0_ableBy 17 = .ok (.getfield 51, 3) := by decide +kernel
theorem dX0_ableBy_20 : decode cX0_ableBy 20 = .ok (.iconst (-1), 1) := by decide +kernel
theorem dX0_ableBy_21 : decode cX0_ableBy 21 = .ok (.ixor, 1) := by decide +kernel
theorem dX0_ableBy_22 : decode cX0_ableBy 22 = .ok (.iand, 1) := by decide +kernel
theorem dX0_ableBy_23 : decode cX0_ableBy 23 = .ok (.aload_n 2, 1) := by decide +kernel
theorem dX0_ableBy_24 : decode cX0_ableBy 24 = .ok (.getfield 65, 3) := by decide +kernel
theorem dX0_ableBy_27 : decode cX0_ableBy 27 = .ok (.iconst (-1), 1) := by decide +kernel
theorem dX0_ableBy_28 : decode cX0_ableBy 28 = .ok (.ixor, 1) := by decide +kernel
theorem dX0_ableBy_29 : decode cX0_ableBy 29 = .ok (.iand, 1) := by decide +kernel
theorem dX0_ableBy_30 : decode cX0_ableBy 30 = .ok (.iload_n 3, 1) := by decide +kernel
theorem dX0_ableBy_31 : decode cX0_ableBy 31 = .ok (.iconst (-1), 1) := by decide +kernel
theorem dX0_ableBy_32 : decode cX0_ableBy 32 = .ok (.ixor, 1) := by decide +kernel
theorem dX0_ableBy_33 : decode cX0_ableBy 33 = .ok (.iand, 1) := by decide +kernel
theorem dX0_ableBy_34 : decode cX0_ableBy 34 = .ok (.ireturn, 1) := by decide +kernel
theorem dX0_eagerOnes_0 : decode cX0_eagerOnes 0 = .ok (.iconst 0, 1) := by decide +kernel
theorem dX0_eagerOnes_1 : decode cX0_eagerOnes 1 = .ok (.istore_n 1, 1) := by decide +kernel
theorem dX0_eagerOnes_2 : decode cX0_eagerOnes 2 = .ok (.iconst 0, 1) := by decide +kernel
theorem dX0_eagerOnes_3 : decode cX0_eagerOnes 3 = .ok (.istore_n 2, 1) := by decide +kernel
theorem dX0_eagerOnes_4 : decode cX0_eagerOnes 4 = .ok (.iload_n 2, 1) := by decide +kernel
theorem dX0_eagerOnes_5 : decode cX0_eagerOnes 5 = .ok (.aload_n 0, 1) := by decide +kernel
theorem dX0_eagerOnes_6 : decode cX0_eagerOnes 6 = .ok (.getfield 24, 3) := by decide +kernel
theorem dX0_eagerOnes_9 : decode cX0_eagerOnes 9 = .ok (.if_icmp .ge 24, 3) := by decide +kernel
theorem dX0_eagerOnes_12 : decode cX0_eagerOnes 12 = .ok (.aload_n 0, 1) := by decide +kernel
theorem dX0_eagerOnes_13 : decode cX0_eagerOnes 13 = .ok (.getfield 18, 3) := by decide +kernel
theorem dX0_eagerOnes_16 : decode cX0_eagerOnes 16 = .ok (.iload_n 2, 1) := by decide +kernel
theorem dX0_eagerOnes_17 : decode cX0_eagerOnes 17 = .ok (.iaload, 1) := by decide +kernel
theorem dX0_eagerOnes_18 : decode cX0_eagerOnes 18 = .ok (.ifCond .le 9, 3) := by decide +kernel
theorem dX0_eagerOnes_21 : decode cX0_eagerOnes 21 = .ok (.iload_n 1, 1) := by decide +kernel
theorem dX0_eagerOnes_22 : decode cX0_eagerOnes 22 = .ok (.iconst 1, 1) := by decide +kernel
theorem dX0_eagerOnes_23 : decode cX0_eagerOnes 23 = .ok (.iload_n 2, 1) := by decide +kernel
theorem dX0_eagerOnes_24 : decode cX0_eagerOnes 24 = .ok (.ishl, 1) := by decide +kernel
theorem dX0_eagerOnes_25 : decode cX0_eagerOnes 25 = .ok (.ior, 1) := by decide +kernel
theorem dX0_eagerOnes_26 : decode cX0_eagerOnes 26 = .ok (.istore_n 1, 1) := by decide +kernel
theorem dX0_eagerOnes_27 : decode cX0_eagerOnes 27 = .ok (.iinc 2 1, 3) := by decide +kernel
theorem dX0_eagerOnes_30 : decode cX0_eagerOnes 30 = .ok (.goto (-26), 3) := by decide +kernel
theorem dX0_eagerOnes_33 : decode cX0_eagerOnes 33 = .ok (.iload_n 1, 1) := by decide +kernel
theorem dX0_eagerOnes_34 : decode cX0_eagerOnes 34 = .ok (.ireturn, 1) := by decide +kernel
theorem dX0_dearOnes_0 : decode cX0_dearOnes 0 = .ok (.iconst 0, 1) := by decide +kernel
theorem dX0_dearOnes_1 : decode cX0_dearOnes 1 = .ok (.istore_n 2, 1) := by decide +kernel
theorem dX0_dearOnes_2 : decode cX0_dearOnes 2 = .ok (.iconst 0, 1) := by decide +kernel
theorem dX0_dearOnes_3 : decode cX0_dearOnes 3 = .ok (.istore_n 3, 1) := by decide +kernel
theorem dX0_dearOnes_4 : decode cX0_dearOnes 4 = .ok (.iload_n 3, 1) := by decide +kernel
theorem dX0_dearOnes_5 : decode cX0_dearOnes 5 = .ok (.aload_n 0, 1) := by decide +kernel
theorem dX0_dearOnes_6 : decode cX0_dearOnes 6 = .ok (.getfield 24, 3) := by decide +kernel
theorem dX0_dearOnes_9 : decode cX0_dearOnes 9 = .ok (.if_icmp .ge 26, 3) := by decide +kernel
theorem dX0_dearOnes_12 : decode cX0_dearOnes 12 = .ok (.aload_n 0, 1) := by decide +kernel
theorem dX0_dearOnes_13 : decode cX0_dearOnes 13 = .ok (.getfield 15, 3) := by decide +kernel
theorem dX0_dearOnes_16 : decode cX0_dearOnes 16 = .ok (.iload_n 3, 1) := by decide +kernel
theorem dX0_dearOnes_17 : decode cX0_dearOnes 17 = .ok (.iaload, 1) := by decide +kernel
theorem dX0_dearOnes_18 : decode cX0_dearOnes 18 = .ok (.ifCond .le 11, 3) := by decide +kernel
theorem dX0_dearOnes_21 : decode cX0_dearOnes 21 = .ok (.iload_n 2, 1) := by decide +kernel
theorem dX0_dearOnes_22 : decode cX0_dearOnes 22 = .ok (.iload_n 1, 1) := by decide +kernel
theorem dX0_dearOnes_23 : decode cX0_dearOnes 23 = .ok (.iconst 1, 1) := by decide +kernel
theorem dX0_dearOnes_24 : decode cX0_dearOnes 24 = .ok (.iload_n 3, 1) := by decide +kernel
theorem dX0_dearOnes_25 : decode cX0_dearOnes 25 = .ok (.ishl, 1) := by decide +kernel
theorem dX0_dearOnes_26 : decode cX0_dearOnes 26 = .ok (.iand, 1) := by decide +kernel
theorem dX0_dearOnes_27 : decode cX0_dearOnes 27 = .ok (.ior, 1) := by decide +kernel
theorem dX0_dearOnes_28 : decode cX0_dearOnes 28 = .ok (.istore_n 2, 1) := by decide +kernel
theorem dX0_dearOnes_29 : decode cX0_dearOnes 29 = .ok (.iinc 3 1, 3) := by decide +kernel
theorem dX0_dearOnes_32 : decode cX0_dearOnes 32 = .ok (.goto (-28), 3) := by decide +kernel
theorem dX0_dearOnes_35 : decode cX0_dearOnes 35 = .ok (.iload_n 2, 1) := by decide +kernel
theorem dX0_dearOnes_36 : decode cX0_dearOnes 36 = .ok (.ireturn, 1) := by decide +kernel
set_option maxRecDepth 20000 in
theorem ggX0_eagerTogether_X5_bitOf : GoodIn wsX0_eagerTogether wsX5_bitOf := goodIn_r _ [5] (by decide +kernel) (by decide +kernel)
set_option maxRecDepth 20000 in
theorem gX0_eagerTogether_X5_bitOf_n68 : GoodIn wsX0_eagerTogether (wsX5_bitOf) := ggX0_eagerTogether_X5_bitOf
theorem dX0_eagerTogether_0 : decode cX0_eagerTogether 0 = .ok (.iconst 0, 1) := by decide +kernel
theorem dX0_eagerTogether_1 : decode cX0_eagerTogether 1 = .ok (.istore_n 2, 1) := by decide +kernel
theorem dX0_eagerTogether_2 : decode cX0_eagerTogether 2 = .ok (.iconst 0, 1) := by decide +kernel
theorem dX0_eagerTogether_3 : decode cX0_eagerTogether 3 = .ok (.istore_n 3, 1) := by decide +kernel
theorem dX0_eagerTogether_4 : decode cX0_eagerTogether 4 = .ok (.iload_n 3, 1) := by decide +kernel
theorem dX0_eagerTogether_5 : decode cX0_eagerTogether 5 = .ok (.aload_n 0, 1) := by decide +kernel
theorem dX0_eagerTogether_6 : decode cX0_eagerTogether 6 = .ok (.getfield 24, 3) := by decide +kernel
theorem dX0_eagerTogether_9 : decode cX0_eagerTogether 9 = .ok (.if_icmp .ge 24, 3) := by decide +kernel
theorem dX0_eagerTogether_12 : decode cX0_eagerTogether 12 = .ok (.iload_n 2, 1) := by decide +kernel
theorem dX0_eagerTogether_13 : decode cX0_eagerTogether 13 = .ok (.iload_n 1, 1) := by decide +kernel
theorem dX0_eagerTogether_14 : decode cX0_eagerTogether 14 = .ok (.iload_n 3, 1) := by decide +kernel
theorem dX0_eagerTogether_15 : decode cX0_eagerTogether 15 = .ok (.invokestatic 68, 3) := by decide +kernel
theorem dX0_eagerTogether_18 : decode cX0_eagerTogether 18 = .ok (.aload_n 0, 1) := by decide +kernel
theorem dX0_eagerTogether_19 : decode cX0_eagerTogether 19 = .ok (.getfield 18, 3) := by decide +kernel
theorem dX0_eagerTogether_22 : decode cX0_eagerTogether 22 = .ok (.iload_n 3, 1) := by decide +kernel
theorem dX0_eagerTogether_23 : decode cX0_eagerTogether 23 = .ok (.iaload, 1) := by decide +kernel
theorem dX0_eagerTogether_24 : decode cX0_eagerTogether 24 = .ok (.imul, 1) := by decide +kernel
theorem dX0_eagerTogether_25 : decode cX0_eagerTogether 25 = .ok (.iadd, 1) := by decide +kernel
theorem dX0_eagerTogether_26 : decode cX0_eagerTogether 26 = .ok (.istore_n 2, 1) := by decide +kernel
theorem dX0_eagerTogether_27 : decode cX0_eagerTogether 27 = .ok (.iinc 3 1, 3) := by decide +kernel
theorem dX0_eagerTogether_30 : decode cX0_eagerTogether 30 = .ok (.goto (-26), 3) := by decide +kernel
theorem dX0_eagerTogether_33 : decode cX0_eagerTogether 33 = .ok (.iload_n 2, 1) := by decide +kernel
theorem dX0_eagerTogether_34 : decode cX0_eagerTogether 34 = .ok (.ireturn, 1) := by decide +kernel
set_option maxRecDepth 20000 in
theorem ggX0_dearTogether_X5_bitOf : GoodIn wsX0_dearTogether wsX5_bitOf := goodIn_r _ [5] (by decide +kernel) (by decide +kernel)
set_option maxRecDepth 20000 in
theorem gX0_dearTogether_X5_bitOf_n68 : GoodIn wsX0_dearTogether (wsX5_bitOf) := ggX0_dearTogether_X5_bitOf
theorem dX0_dearTogether_0 : decode cX0_dearTogether 0 = .ok (.iconst 0, 1) := by decide +kernel
theorem dX0_dearTogether_1 : decode cX0_dearTogether 1 = .ok (.istore_n 2, 1) := by decide +kernel
theorem dX0_dearTogether_2 : decode cX0_dearTogether 2 = .ok (.iconst 0, 1) := by decide +kernel
theorem dX0_dearTogether_3 : decode cX0_dearTogether 3 = .ok (.istore_n 3, 1) := by decide +kernel
theorem dX0_dearTogether_4 : decode cX0_dearTogether 4 = .ok (.iload_n 3, 1) := by decide +kernel
theorem dX0_dearTogether_5 : decode cX0_dearTogether 5 = .ok (.aload_n 0, 1) := by decide +kernel
theorem dX0_dearTogether_6 : decode cX0_dearTogether 6 = .ok (.getfield 24, 3) := by decide +kernel
theorem dX0_dearTogether_9 : decode cX0_dearTogether 9 = .ok (.if_icmp .ge 24, 3) := by decide +kernel
theorem dX0_dearTogether_12 : decode cX0_dearTogether 12 = .ok (.iload_n 2, 1) := by decide +kernel
theorem dX0_dearTogether_13 : decode cX0_dearTogether 13 = .ok (.iload_n 1, 1) := by decide +kernel
theorem dX0_dearTogether_14 : decode cX0_dearTogether 14 = .ok (.iload_n 3, 1) := by decide +kernel
theorem dX0_dearTogether_15 : decode cX0_dearTogether 15 = .ok (.invokestatic 68, 3) := by decide +kernel
theorem dX0_dearTogether_18 : decode cX0_dearTogether 18 = .ok (.aload_n 0, 1) := by decide +kernel
theorem dX0_dearTogether_19 : decode cX0_dearTogether 19 = .ok (.getfield 15, 3) := by decide +kernel
theorem dX0_dearTogether_22 : decode cX0_dearTogether 22 = .ok (.iload_n 3, 1) := by decide +kernel
theorem dX0_dearTogether_23 : decode cX0_dearTogether 23 = .ok (.iaload, 1) := by decide +kernel
theorem dX0_dearTogether_24 : decode cX0_dearTogether 24 = .ok (.imul, 1) := by decide +kernel
theorem dX0_dearTogether_25 : decode cX0_dearTogether 25 = .ok (.iadd, 1) := by decide +kernel
theorem dX0_dearTogether_26 : decode cX0_dearTogether 26 = .ok (.istore_n 2, 1) := by decide +kernel
theorem dX0_dearTogether_27 : decode cX0_dearTogether 27 = .ok (.iinc 3 1, 3) := by decide +kernel
theorem dX0_dearTogether_30 : decode cX0_dearTogether 30 = .ok (.goto (-26), 3) := by decide +kernel
theorem dX0_dearTogether_33 : decode cX0_dearTogether 33 = .ok (.iload_n 2, 1) := by decide +kernel
theorem dX0_dearTogether_34 : decode cX0_dearTogether 34 = .ok (.ireturn, 1) := by decide +kernel
set_option maxRecDepth 20000 in
theorem ggX0_harmUpper_X5_bitOf : GoodIn wsX0_harmUpper wsX5_bitOf := goodIn_r _ [6] (by decide +kernel) (by decide +kernel)
set_option maxRecDepth 20000 in
theorem gX0_harmUpper_X5_bitOf_n68 : GoodIn wsX0_harmUpper (wsX5_bitOf) := ggX0_harmUpper_X5_bitOf
theorem dX0_harmUpper_0 : decode cX0_harmUpper 0 = .ok (.iconst 0, 1) := by decide +kernel
theorem dX0_harmUpper_1 : decode cX0_harmUpper 1 = .ok (.istore_n 3, 1) := by decide +kernel
theorem dX0_harmUpper_2 : decode cX0_harmUpper 2 = .ok (.iconst 0, 1) := by decide +kernel
theorem dX0_harmUpper_3 : decode cX0_harmUpper 3 = .ok (.istore 4, 2) := by decide +kernel
theorem dX0_harmUpper_5 : decode cX0_harmUpper 5 = .ok (.iload 4, 2) := by decide +kernel
theorem dX0_harmUpper_7 : decode cX0_harmUpper 7 = .ok (.aload_n 0, 1) := by decide +kernel
theorem dX0_harmUpper_8 : decode cX0_harmUpper 8 = .ok (.getfield 24, 3) := by decide +kernel
theorem dX0_harmUpper_11 : decode cX0_harmUpper 11 = .ok (.if_icmp .ge 36, 3) := by decide +kernel
theorem dX0_harmUpper_14 : decode cX0_harmUpper 14 = .ok (.iload_n 3, 1) := by decide +kernel
theorem dX0_harmUpper_15 : decode cX0_harmUpper 15 = .ok (.iload_n 1, 1) := by decide +kernel
theorem dX0_harmUpper_16 : decode cX0_harmUpper 16 = .ok (.iload_n 2, 1) := by decide +kernel
theorem dX0_harmUpper_17 : decode cX0_harmUpper 17 = .ok (.iand, 1) := by decide +kernel
theorem dX0_harmUpper_18 : decode cX0_harmUpper 18 = .ok (.iload 4, 2) := by decide +kernel
theorem dX0_harmUpper_20 : decode cX0_harmUpper 20 = .ok (.invokestatic 68, 3) := by decide +kernel
theorem dX0_harmUpper_23 : decode cX0_harmUpper 23 = .ok (.aload_n 0, 1) := by decide +kernel
theorem dX0_harmUpper_24 : decode cX0_harmUpper 24 = .ok (.getfield 15, 3) := by decide +kernel
theorem dX0_harmUpper_27 : decode cX0_harmUpper 27 = .ok (.iload 4, 2) := by decide +kernel
theorem dX0_harmUpper_29 : decode cX0_harmUpper 29 = .ok (.iaload, 1) := by decide +kernel
theorem dX0_harmUpper_30 : decode cX0_harmUpper 30 = .ok (.imul, 1) := by decide +kernel
theorem dX0_harmUpper_31 : decode cX0_harmUpper 31 = .ok (.aload_n 0, 1) := by decide +kernel
theorem dX0_harmUpper_32 : decode cX0_harmUpper 32 = .ok (.getfield 18, 3) := by decide +kernel
theorem dX0_harmUpper_35 : decode cX0_harmUpper 35 = .ok (.iload 4, 2) := by decide +kernel
theorem dX0_harmUpper_37 : decode cX0_harmUpper 37 = .ok (.iaload, 1) := by decide +kernel
theorem dX0_harmUpper_38 : decode cX0_harmUpper 38 = .ok (.imul, 1) := by decide +kernel
theorem dX0_harmUpper_39 : decode cX0_harmUpper 39 = .ok (.iadd, 1) := by decide +kernel
theorem dX0_harmUpper_40 : decode cX0_harmUpper 40 = .ok (.istore_n 3, 1) := by decide +kernel
theorem dX0_harmUpper_41 : decode cX0_harmUpper 41 = .ok (.iinc 4 1, 3) := by decide +kernel
theorem dX0_harmUpper_44 : decode cX0_harmUpper 44 = .ok (.goto (-39), 3) := by decide +kernel
theorem dX0_harmUpper_47 : decode cX0_harmUpper 47 = .ok (.iload_n 3, 1) := by decide +kernel
theorem dX0_harmUpper_48 : decode cX0_harmUpper 48 = .ok (.ireturn, 1) := by decide +kernel
set_option maxRecDepth 20000 in
theorem ggX0_shares_X0_eagerTogether : GoodIn wsX0_shares wsX0_eagerTogether := goodIn_r _ [9, 10, 11, 12, 13, 14, 15, 16, 17, 18, 19, 20, 21, 22, 23] (by decide +kernel) (by decide +kernel)
set_option maxRecDepth 20000 in
theorem gX0_shares_X0_eagerTogether : GoodIn wsX0_shares (wsV RX0 72 RX0 yX0_eagerTogether wsX0_eagerTogether) := goodIn_app (goodIn_of _ (by decide +kernel)) ggX0_shares_X0_eagerTogether
theorem dX0_shares_0 : decode cX0_shares 0 = .ok (.iconst 1, 1) := by decide +kernel
theorem dX0_shares_1 : decode cX0_shares 1 = .ok (.aload_n 0, 1) := by decide +kernel
theorem dX0_shares_2 : decode cX0_shares 2 = .ok (.iload_n 1, 1) := by decide +kernel
theorem dX0_shares_3 : decode cX0_shares 3 = .ok (.invokevirtual 72, 3) := by decide +kernel
theorem dX0_shares_6 : decode cX0_shares 6 = .ok (.invokestatic 75, 3) := by decide +kernel
theorem dX0_shares_9 : decode cX0_shares 9 = .ok (.ireturn, 1) := by decide +kernel
set_option maxRecDepth 20000 in
theorem ggX0_countedOff_X5_bitOf : GoodIn wsX0_countedOff wsX5_bitOf := goodIn_r _ [5] (by decide +kernel) (by decide +kernel)
set_option maxRecDepth 20000 in
theorem gX0_countedOff_X5_bitOf_n68 : GoodIn wsX0_countedOff (wsX5_bitOf) := ggX0_countedOff_X5_bitOf
theorem dX0_countedOff_0 : decode cX0_countedOff 0 = .ok (.iload_n 2, 1) := by decide +kernel
theorem dX0_countedOff_1 : decode cX0_countedOff 1 = .ok (.istore_n 3, 1) := by decide +kernel
theorem dX0_countedOff_2 : decode cX0_countedOff 2 = .ok (.iconst 0, 1) := by decide +kernel
theorem dX0_countedOff_3 : decode cX0_countedOff 3 = .ok (.istore 4, 2) := by decide +kernel
theorem dX0_countedOff_5 : decode cX0_countedOff 5 = .ok (.iload 4, 2) := by decide +kernel
theorem dX0_countedOff_7 : decode cX0_countedOff 7 = .ok (.aload_n 0, 1) := by decide +kernel
theorem dX0_countedOff_8 : decode cX0_countedOff 8 = .ok (.getfield 24, 3) := by decide +kernel
theorem dX0_countedOff_11 : decode cX0_countedOff 11 = .ok (.if_icmp .ge 39, 3) := by decide +kernel
theorem dX0_countedOff_14 : decode cX0_countedOff 14 = .ok (.iload_n 1, 1) := by decide +kernel
theorem dX0_countedOff_15 : decode cX0_countedOff 15 = .ok (.iload 4, 2) := by decide +kernel
theorem dX0_countedOff_17 : decode cX0_countedOff 17 = .ok (.invokestatic 68, 3) := by decide +kernel
theorem dX0_countedOff_20 : decode cX0_countedOff 20 = .ok (.aload_n 0, 1) := by decide +kernel
theorem dX0_countedOff_21 : decode cX0_countedOff 21 = .ok (.getfield 18, 3) := by decide +kernel
theorem dX0_countedOff_24 : decode cX0_countedOff 24 = .ok (.iload 4, 2) := by decide +kernel
theorem dX0_countedOff_26 : decode cX0_countedOff 26 = .ok (.iaload, 1) := by decide +kernel
theorem dX0_countedOff_27 : decode cX0_countedOff 27 = .ok (.imul, 1) := by decide +kernel
theorem dX0_countedOff_28 : decode cX0_countedOff 28 = .ok (.istore 5, 2) := by decide +kernel
theorem dX0_countedOff_30 : decode cX0_countedOff 30 = .ok (.iload_n 3, 1) := by decide +kernel
theorem dX0_countedOff_31 : decode cX0_countedOff 31 = .ok (.iload 5, 2) := by decide +kernel
theorem dX0_countedOff_33 : decode cX0_countedOff 33 = .ok (.if_icmp .ge 6, 3) := by decide +kernel
theorem dX0_countedOff_36 : decode cX0_countedOff 36 = .ok (.iload 4, 2) := by decide +kernel
theorem dX0_countedOff_38 : decode cX0_countedOff 38 = .ok (.ireturn, 1) := by decide +kernel
theorem dX0_countedOff_39 : decode cX0_countedOff 39 = .ok (.iload_n 3, 1) := by decide +kernel
theorem dX0_countedOff_40 : decode cX0_countedOff 40 = .ok (.iload 5, 2) := by decide +kernel
theorem dX0_countedOff_42 : decode cX0_countedOff 42 = .ok (.isub, 1) := by decide +kernel
theorem dX0_countedOff_43 : decode cX0_countedOff 43 = .ok (.istore_n 3, 1) := by decide +kernel
theorem dX0_countedOff_44 : decode cX0_countedOff 44 = .ok (.iinc 4 1, 3) := by decide +kernel
theorem dX0_countedOff_47 : decode cX0_countedOff 47 = .ok (.goto (-42), 3) := by decide +kernel
theorem dX0_countedOff_50 : decode cX0_countedOff 50 = .ok (.bipush (-9), 2) := by decide +kernel
theorem dX0_countedOff_52 : decode cX0_countedOff 52 = .ok (.ireturn, 1) := by decide +kernel
set_option maxRecDepth 20000 in
theorem ggX1_init_X3_init : GoodIn wsX1_init wsX3_init := goodIn_r _ [9, 10, 2, 3] (by decide +kernel) (by decide +kernel)
set_option maxRecDepth 20000 in
theorem gX1_init_X3_init_n17 : GoodIn wsX1_init (wsX3_init) := ggX1_init_X3_init
theorem dX1_init_0 : decode cX1_init 0 = .ok (.aload_n 0, 1) := by decide +kernel
theorem dX1_init_1 : decode cX1_init 1 = .ok (.invokespecial 3, 3) := by decide +kernel
theorem dX1_init_4 : decode cX1_init 4 = .ok (.aload_n 0, 1) := by decide +kernel
theorem dX1_init_5 : decode cX1_init 5 = .ok (.bipush 10, 2) := by decide +kernel
theorem dX1_init_7 : decode cX1_init 7 = .ok (.anewarray 9, 3) := by decide +kernel
theorem dX1_init_10 : decode cX1_init 10 = .ok (.putfield 11, 3) := by decide +kernel
theorem dX1_init_13 : decode cX1_init 13 = .ok (.iconst 0, 1) := by decide +kernel
theorem dX1_init_14 : decode cX1_init 14 = .ok (.istore_n 1, 1) := by decide +kernel
theorem dX1_init_15 : decode cX1_init 15 = .ok (.iload_n 1, 1) := by decide +kernel
theorem dX1_init_16 : decode cX1_init 16 = .ok (.bipush 10, 2) := by decide +kernel
theorem dX1_init_18 : decode cX1_init 18 = .ok (.if_icmp .ge 22, 3) := by decide +kernel
theorem dX1_init_21 : decode cX1_init 21 = .ok (.aload_n 0, 1) := by decide +kernel
theorem dX1_init_22 : decode cX1_init 22 = .ok (.getfield 11, 3) := by decide +kernel
theorem dX1_init_25 : decode cX1_init 25 = .ok (.iload_n 1, 1) := by decide +kernel
theorem dX1_init_26 : decode cX1_init 26 = .ok (.new 9, 3) := by decide +kernel
theorem dX1_init_29 : decode cX1_init 29 = .ok (.dup, 1) := by decide +kernel
theorem dX1_init_30 : decode cX1_init 30 = .ok (.invokespecial 17, 3) := by decide +kernel
theorem dX1_init_33 : decode cX1_init 33 = .ok (.aastore, 1) := by decide +kernel
theorem dX1_init_34 : decode cX1_init 34 = .ok (.iinc 1 1, 3) := by decide +kernel
theorem dX1_init_37 : decode cX1_init 37 = .ok (.goto (-22), 3) := by decide +kernel
theorem dX1_init_40 : decode cX1_init 40 = .ok (.return_, 1) := by decide +kernel
set_option maxRecDepth 20000 in
theorem ggX1_push_X3_become : GoodIn wsX1_push wsX3_become := goodIn_r _ [12, 13, 14, 15, 16, 17, 21, 22, 23, 24, 25] (by decide +kernel) (by decide +kernel)
set_option maxRecDepth 20000 in
theorem gX1_push_X3_become : GoodIn wsX1_push (wsV RX1 22 RX3 yX3_become wsX3_become) := goodIn_app (goodIn_of _ (by decide +kernel)) ggX1_push_X3_become
theorem dX1_push_0 : decode cX1_push 0 = .ok (.aload_n 0, 1) := by decide +kernel
theorem dX1_push_1 : decode cX1_push 1 = .ok (.getfield 11, 3) := by decide +kernel
theorem dX1_push_4 : decode cX1_push 4 = .ok (.aload_n 0, 1) := by decide +kernel
theorem dX1_push_5 : decode cX1_push 5 = .ok (.getfield 18, 3) := by decide +kernel
theorem dX1_push_8 : decode cX1_push 8 = .ok (.aaload, 1) := by decide +kernel
theorem dX1_push_9 : decode cX1_push 9 = .ok (.aload_n 1, 1) := by decide +kernel
theorem dX1_push_10 : decode cX1_push 10 = .ok (.invokevirtual 22, 3) := by decide +kernel
theorem dX1_push_13 : decode cX1_push 13 = .ok (.aload_n 0, 1) := by decide +kernel
theorem dX1_push_14 : decode cX1_push 14 = .ok (.aload_n 0, 1) := by decide +kernel
theorem dX1_push_15 : decode cX1_push 15 = .ok (.getfield 18, 3) := by decide +kernel
theorem dX1_push_18 : decode cX1_push 18 = .ok (.iconst 1, 1) := by decide +kernel
theorem dX1_push_19 : decode cX1_push 19 = .ok (.iadd, 1) := by decide +kernel
theorem dX1_push_20 : decode cX1_push 20 = .ok (.bipush 10, 2) := by decide +kernel
theorem dX1_push_22 : decode cX1_push 22 = .ok (.irem, 1) := by decide +kernel
theorem dX1_push_23 : decode cX1_push 23 = .ok (.putfield 18, 3) := by decide +kernel
theorem dX1_push_26 : decode cX1_push 26 = .ok (.aload_n 0, 1) := by decide +kernel
theorem dX1_push_27 : decode cX1_push 27 = .ok (.aload_n 0, 1) := by decide +kernel
theorem dX1_push_28 : decode cX1_push 28 = .ok (.getfield 26, 3) := by decide +kernel
theorem dX1_push_31 : decode cX1_push 31 = .ok (.iconst 1, 1) := by decide +kernel
theorem dX1_push_32 : decode cX1_push 32 = .ok (.iadd, 1) := by decide +kernel
theorem dX1_push_33 : decode cX1_push 33 = .ok (.bipush 10, 2) := by decide +kernel
theorem dX1_push_35 : decode cX1_push 35 = .ok (.invokestatic 29, 3) := by decide +kernel
theorem dX1_push_38 : decode cX1_push 38 = .ok (.putfield 26, 3) := by decide +kernel
theorem dX1_push_41 : decode cX1_push 41 = .ok (.return_, 1) := by decide +kernel
set_option maxRecDepth 20000 in
theorem ggX1_pop_X3_become : GoodIn wsX1_pop wsX3_become := goodIn_r _ [8, 9, 10, 11, 12, 13, 17, 18, 19, 20, 21] (by decide +kernel) (by decide +kernel)
set_option maxRecDepth 20000 in
theorem gX1_pop_X3_become : GoodIn wsX1_pop (wsV RX1 22 RX3 yX3_become wsX3_become) := goodIn_app (goodIn_of _ (by decide +kernel)) ggX1_pop_X3_become
theorem dX1_pop_0 : decode cX1_pop 0 = .ok (.aload_n 0, 1) := by decide +kernel
theorem dX1_pop_1 : decode cX1_pop 1 = .ok (.aload_n 0, 1) := by decide +kernel
theorem dX1_pop_2 : decode cX1_pop 2 = .ok (.getfield 18, 3) := by decide +kernel
theorem dX1_pop_5 : decode cX1_pop 5 = .ok (.bipush 10, 2) := by decide +kernel
theorem dX1_pop_7 : decode cX1_pop 7 = .ok (.iadd, 1) := by decide +kernel
theorem dX1_pop_8 : decode cX1_pop 8 = .ok (.iconst 1, 1) := by decide +kernel
theorem dX1_pop_9 : decode cX1_pop 9 = .ok (.isub, 1) := by decide +kernel
theorem dX1_pop_10 : decode cX1_pop 10 = .ok (.bipush 10, 2) := by decide +kernel
theorem dX1_pop_12 : decode cX1_pop 12 = .ok (.irem, 1) := by decide +kernel
theorem dX1_pop_13 : decode cX1_pop 13 = .ok (.putfield 18, 3) := by decide +kernel
theorem dX1_pop_16 : decode cX1_pop 16 = .ok (.aload_n 0, 1) := by decide +kernel
theorem dX1_pop_17 : decode cX1_pop 17 = .ok (.dup, 1) := by decide +kernel
theorem dX1_pop_18 : decode cX1_pop 18 = .ok (.getfield 26, 3) := by decide +kernel
theorem dX1_pop_21 : decode cX1_pop 21 = .ok (.iconst 1, 1) := by decide +kernel
theorem dX1_pop_22 : decode cX1_pop 22 = .ok (.isub, 1) := by decide +kernel
theorem dX1_pop_23 : decode cX1_pop 23 = .ok (.putfield 26, 3) := by decide +kernel
theorem dX1_pop_26 : decode cX1_pop 26 = .ok (.aload_n 1, 1) := by decide +kernel
theorem dX1_pop_27 : decode cX1_pop 27 = .ok (.aload_n 0, 1) := by decide +kernel
theorem dX1_pop_28 : decode cX1_pop 28 = .ok (.getfield 11, 3) := by decide +kernel
theorem dX1_pop_31 : decode cX1_pop 31 = .ok (.aload_n 0, 1) := by decide +kernel
theorem dX1_pop_32 : decode cX1_pop 32 = .ok (.getfield 18, 3) := by decide +kernel
theorem dX1_pop_35 : decode cX1_pop 35 = .ok (.aaload, 1) := by decide +kernel
theorem dX1_pop_36 : decode cX1_pop 36 = .ok (.invokevirtual 22, 3) := by decide +kernel
theorem dX1_pop_39 : decode cX1_pop 39 = .ok (.return_, 1) := by decide +kernel
theorem dX2_init_0 : decode cX2_init 0 = .ok (.aload_n 0, 1) := by decide +kernel
theorem dX2_init_1 : decode cX2_init 1 = .ok (.invokespecial 3, 3) := by decide +kernel
theorem dX2_init_4 : decode cX2_init 4 = .ok (.aload_n 0, 1) := by decide +kernel
theorem dX2_init_5 : decode cX2_init 5 = .ok (.bipush 6, 2) := by decide +kernel
theorem dX2_init_7 : decode cX2_init 7 = .ok (.newarray .int, 2) := by decide +kernel
theorem dX2_init_9 : decode cX2_init 9 = .ok (.putfield 9, 3) := by decide +kernel
theorem dX2_init_12 : decode cX2_init 12 = .ok (.aload_n 0, 1) := by decide +kernel
theorem dX2_init_13 : decode cX2_init 13 = .ok (.bipush 6, 2) := by decide +kernel
theorem dX2_init_15 : decode cX2_init 15 = .ok (.newarray .int, 2) := by decide +kernel
theorem dX2_init_17 : decode cX2_init 17 = .ok (.putfield 15, 3) := by decide +kernel
theorem dX2_init_20 : decode cX2_init 20 = .ok (.return_, 1) := by decide +kernel
theorem dX2_add_0 : decode cX2_add 0 = .ok (.aload_n 0, 1) := by decide +kernel
theorem dX2_add_1 : decode cX2_add 1 = .ok (.getfield 18, 3) := by decide +kernel
theorem dX2_add_4 : decode cX2_add 4 = .ok (.bipush 6, 2) := by decide +kernel
theorem dX2_add_6 : decode cX2_add 6 = .ok (.if_icmp .lt 5, 3) := by decide +kernel
theorem dX2_add_9 : decode cX2_add 9 = .ok (.iconst 0, 1) := by decide +kernel
theorem dX2_add_10 : decode cX2_add 10 = .ok (.ireturn, 1) := by decide +kernel
theorem dX2_add_11 : decode cX2_add 11 = .ok (.aload_n 0, 1) := by decide +kernel
theorem dX2_add_12 : decode cX2_add 12 = .ok (.getfield 9, 3) := by decide +kernel
theorem dX2_add_15 : decode cX2_add 15 = .ok (.aload_n 0, 1) := by decide +kernel
theorem dX2_add_16 : decode cX2_add 16 = .ok (.getfield 18, 3) := by decide +kernel
theorem dX2_add_19 : decode cX2_add 19 = .ok (.iload_n 1, 1) := by decide +kernel
theorem dX2_add_20 : decode cX2_add 20 = .ok (.iastore, 1) := by decide +kernel
theorem dX2_add_21 : decode cX2_add 21 = .ok (.aload_n 0, 1) := by decide +kernel
theorem dX2_add_22 : decode cX2_add 22 = .ok (.getfield 15, 3) := by decide +kernel
theorem dX2_add_25 : decode cX2_add 25 = .ok (.aload_n 0, 1) := by decide +kernel
theorem dX2_add_26 : decode cX2_add 26 = .ok (.getfield 18, 3) := by decide +kernel
theorem dX2_add_29 : decode cX2_add 29 = .ok (.iload_n 2, 1) := by decide +kernel
theorem dX2_add_30 : decode cX2_add 30 = .ok (.iastore, 1) := by decide +kernel
theorem dX2_add_31 : decode cX2_add 31 = .ok (.aload_n 0, 1) := by decide +kernel
theorem dX2_add_32 : decode cX2_add 32 = .ok (.dup, 1) := by decide +kernel
theorem dX2_add_33 : decode cX2_add 33 = .ok (.getfield 18, 3) := by decide +kernel
theorem dX2_add_36 : decode cX2_add 36 = .ok (.iconst 1, 1) := by decide +kernel
theorem dX2_add_37 : decode cX2_add 37 = .ok (.iadd, 1) := by decide +kernel
theorem dX2_add_38 : decode cX2_add 38 = .ok (.putfield 18, 3) := by decide +kernel
theorem dX2_add_41 : decode cX2_add 41 = .ok (.iconst 1, 1) := by decide +kernel
theorem dX2_add_42 : decode cX2_add 42 = .ok (.ireturn, 1) := by decide +kernel
set_option maxRecDepth 20000 in
theorem ggX2_isSoBy_X5_bitOf : GoodIn wsX2_isSoBy wsX5_bitOf := goodIn_r _ [6] (by decide +kernel) (by decide +kernel)
set_option maxRecDepth 20000 in
theorem gX2_isSoBy_X5_bitOf_n22 : GoodIn wsX2_isSoBy (wsX5_bitOf) := ggX2_isSoBy_X5_bitOf
theorem dX2_isSoBy_0 : decode cX2_isSoBy 0 = .ok (.iconst 0, 1) := by decide +kernel
theorem dX2_isSoBy_1 : decode cX2_isSoBy 1 = .ok (.istore_n 2, 1) := by decide +kernel
theorem dX2_isSoBy_2 : decode cX2_isSoBy 2 = .ok (.iload_n 2, 1) := by decide +kernel
theorem dX2_isSoBy_3 : decode cX2_isSoBy 3 = .ok (.aload_n 0, 1) := by decide +kernel
theorem dX2_isSoBy_4 : decode cX2_isSoBy 4 = .ok (.getfield 18, 3) := by decide +kernel
theorem dX2_isSoBy_7 : decode cX2_isSoBy 7 = .ok (.if_icmp .ge 30, 3) := by decide +kernel
theorem dX2_isSoBy_10 : decode cX2_isSoBy 10 = .ok (.iload_n 1, 1) := by decide +kernel
theorem dX2_isSoBy_11 : decode cX2_isSoBy 11 = .ok (.aload_n 0, 1) := by decide +kernel
theorem dX2_isSoBy_12 : decode cX2_isSoBy 12 = .ok (.getfield 9, 3) := by decide +kernel
theorem dX2_isSoBy_15 : decode cX2_isSoBy 15 = .ok (.iload_n 2, 1) := by decide +kernel
theorem dX2_isSoBy_16 : decode cX2_isSoBy 16 = .ok (.iaload, 1) := by decide +kernel
theorem dX2_isSoBy_17 : decode cX2_isSoBy 17 = .ok (.invokestatic 22, 3) := by decide +kernel
theorem dX2_isSoBy_20 : decode cX2_isSoBy 20 = .ok (.aload_n 0, 1) := by decide +kernel
theorem dX2_isSoBy_21 : decode cX2_isSoBy 21 = .ok (.getfield 15, 3) := by decide +kernel
theorem dX2_isSoBy_24 : decode cX2_isSoBy 24 = .ok (.iload_n 2, 1) := by decide +kernel
theorem dX2_isSoBy_25 : decode cX2_isSoBy 25 = .ok (.iaload, 1) := by decide +kernel
theorem dX2_isSoBy_26 : decode cX2_isSoBy 26 = .ok (.if_icmp .eq 5, 3) := by decide +kernel
theorem dX2_isSoBy_29 : decode cX2_isSoBy 29 = .ok (.iconst 0, 1) := by decide +kernel
theorem dX2_isSoBy_30 : decode cX2_isSoBy 30 = .ok (.ireturn, 1) := by decide +kernel
theorem dX2_isSoBy_31 : decode cX2_isSoBy 31 = .ok (.iinc 2 1, 3) := by decide +kernel
theorem dX2_isSoBy_34 : decode cX2_isSoBy 34 = .ok (.goto (-32), 3) := by decide +kernel
theorem dX2_isSoBy_37 : decode cX2_isSoBy 37 = .ok (.iconst 1, 1) := by decide +kernel
theorem dX2_isSoBy_38 : decode cX2_isSoBy 38 = .ok (.ireturn, 1) := by decide +kernel
theorem dX3_init_0 : decode cX3_init 0 = .ok (.aload_n 0, 1) := by decide +kernel
theorem dX3_init_1 : decode cX3_init 1 = .ok (.invokespecial 1, 3) := by decide +kernel
theorem dX3_init_4 : decode cX3_init 4 = .ok (.return_, 1) := by decide +kernel
theorem dX3_become_0 : decode cX3_become 0 = .ok (.aload_n 0, 1) := by decide +kernel
theorem dX3_become_1 : decode cX3_become 1 = .ok (.aload_n 1, 1) := by decide +kernel
theorem dX3_become_2 : decode cX3_become 2 = .ok (.getfield 7, 3) := by decide +kernel
theorem dX3_become_5 : decode cX3_become 5 = .ok (.putfield 7, 3) := by decide +kernel
theorem dX3_become_8 : decode cX3_become 8 = .ok (.aload_n 0, 1) := by decide +kernel
theorem dX3_become_9 : decode cX3_become 9 = .ok (.aload_n 1, 1) := by decide +kernel
theorem dX3_become_10 : decode cX3_become 10 = .ok (.getfield 13, 3) := by decide +kernel
theorem dX3_become_13 : decode cX3_become 13 = .ok (.putfield 13, 3) := by decide +kernel
theorem dX3_become_16 : decode cX3_become 16 = .ok (.aload_n 0, 1) := by decide +kernel
theorem dX3_become_17 : decode cX3_become 17 = .ok (.aload_n 1, 1) := by decide +kernel
theorem dX3_become_18 : decode cX3_become 18 = .ok (.getfield 16, 3) := by decide +kernel
theorem dX3_become_21 : decode cX3_become 21 = .ok (.putfield 16, 3) := by decide +kernel
theorem dX3_become_24 : decode cX3_become 24 = .ok (.aload_n 0, 1) := by decide +kernel
theorem dX3_become_25 : decode cX3_become 25 = .ok (.aload_n 1, 1) := by decide +kernel
theorem dX3_become_26 : decode cX3_become 26 = .ok (.getfield 19, 3) := by decide +kernel
theorem dX3_become_29 : decode cX3_become 29 = .ok (.putfield 19, 3) := by decide +kernel
theorem dX3_become_32 : decode cX3_become 32 = .ok (.aload_n 0, 1) := by decide +kernel
theorem dX3_become_33 : decode cX3_become 33 = .ok (.aload_n 1, 1) := by decide +kernel
theorem dX3_become_34 : decode cX3_become 34 = .ok (.getfield 22, 3) := by decide +kernel
theorem dX3_become_37 : decode cX3_become 37 = .ok (.putfield 22, 3) := by decide +kernel
theorem dX3_become_40 : decode cX3_become 40 = .ok (.return_, 1) := by decide +kernel
theorem dX4_init_0 : decode cX4_init 0 = .ok (.aload_n 0, 1) := by decide +kernel
theorem dX4_init_1 : decode cX4_init 1 = .ok (.invokespecial 3, 3) := by decide +kernel
theorem dX4_init_4 : decode cX4_init 4 = .ok (.aload_n 0, 1) := by decide +kernel
theorem dX4_init_5 : decode cX4_init 5 = .ok (.sipush 200, 3) := by decide +kernel
theorem dX4_init_8 : decode cX4_init 8 = .ok (.newarray .char, 2) := by decide +kernel
theorem dX4_init_10 : decode cX4_init 10 = .ok (.putfield 9, 3) := by decide +kernel
theorem dX4_init_13 : decode cX4_init 13 = .ok (.return_, 1) := by decide +kernel
theorem dX4_add_0 : decode cX4_add 0 = .ok (.aload_n 0, 1) := by decide +kernel
theorem dX4_add_1 : decode cX4_add 1 = .ok (.getfield 15, 3) := by decide +kernel
theorem dX4_add_4 : decode cX4_add 4 = .ok (.sipush 200, 3) := by decide +kernel
theorem dX4_add_7 : decode cX4_add 7 = .ok (.if_icmp .lt 5, 3) := by decide +kernel
theorem dX4_add_10 : decode cX4_add 10 = .ok (.iconst 0, 1) := by decide +kernel
theorem dX4_add_11 : decode cX4_add 11 = .ok (.ireturn, 1) := by decide +kernel
theorem dX4_add_12 : decode cX4_add 12 = .ok (.aload_n 0, 1) := by decide +kernel
theorem dX4_add_13 : decode cX4_add 13 = .ok (.getfield 9, 3) := by decide +kernel
theorem dX4_add_16 : decode cX4_add 16 = .ok (.aload_n 0, 1) := by decide +kernel
theorem dX4_add_17 : decode cX4_add 17 = .ok (.getfield 15, 3) := by decide +kernel
theorem dX4_add_20 : decode cX4_add 20 = .ok (.iload_n 1, 1) := by decide +kernel
theorem dX4_add_21 : decode cX4_add 21 = .ok (.i2c, 1) := by decide +kernel
theorem dX4_add_22 : decode cX4_add 22 = .ok (.castore, 1) := by decide +kernel
theorem dX4_add_23 : decode cX4_add 23 = .ok (.aload_n 0, 1) := by decide +kernel
theorem dX4_add_24 : decode cX4_add 24 = .ok (.dup, 1) := by decide +kernel
theorem dX4_add_25 : decode cX4_add 25 = .ok (.getfield 15, 3) := by decide +kernel
theorem dX4_add_28 : decode cX4_add 28 = .ok (.iconst 1, 1) := by decide +kernel
theorem dX4_add_29 : decode cX4_add 29 = .ok (.iadd, 1) := by decide +kernel
theorem dX4_add_30 : decode cX4_add 30 = .ok (.putfield 15, 3) := by decide +kernel
theorem dX4_add_33 : decode cX4_add 33 = .ok (.iconst 1, 1) := by decide +kernel
theorem dX4_add_34 : decode cX4_add 34 = .ok (.ireturn, 1) := by decide +kernel
set_option maxRecDepth 20000 in
theorem ggX4_readInto_X0_setBare : GoodIn wsX4_readInto wsX0_setBare := goodIn_r _ [9, 10, 11, 12, 13, 14, 15, 71, 72, 73, 74, 75, 76, 77, 78, 79] (by decide +kernel) (by decide +kernel)
set_option maxRecDepth 20000 in
theorem gX4_readInto_X0_setBare : GoodIn wsX4_readInto (wsV RX4 19 RX0 yX0_setBare wsX0_setBare) := goodIn_app (goodIn_of _ (by decide +kernel)) ggX4_readInto_X0_setBare
set_option maxRecDepth 20000 in
theorem ggX4_readInto_X4_skipBlanks : GoodIn wsX4_readInto wsX4_skipBlanks := goodIn_r _ [20, 1, 4, 21, 66, 67, 68, 69, 70] (by decide +kernel) (by decide +kernel)
set_option maxRecDepth 20000 in
theorem gX4_readInto_X4_skipBlanks : GoodIn wsX4_readInto (wsV RX4 34 RX4 yX4_skipBlanks wsX4_skipBlanks) := goodIn_app (goodIn_of _ (by decide +kernel)) ggX4_readInto_X4_skipBlanks
set_option maxRecDepth 20000 in
theorem ggX4_readInto_X4_readItem : GoodIn wsX4_readInto wsX4_readItem := goodIn_r _ [25, 21, 1, 2, 3, 26, 27, 28, 8, 29, 10, 30, 31, 32, 19, 33, 34, 35, 36, 37, 4, 38, 39, 40, 41, 16, 17, 18, 20, 42, 43, 44, 45, 46, 47, 48, 49, 50, 51, 52, 11, 53, 54, 55, 56, 57, 58, 59, 60, 61, 62, 63, 64, 65, 66, 67, 68, 69, 70, 71, 72, 73, 74, 75, 76, 77, 78, 79] (by decide +kernel) (by decide +kernel)
set_option maxRecDepth 20000 in
theorem gX4_readInto_X4_readItem : GoodIn wsX4_readInto (wsV RX4 37 RX4 yX4_readItem wsX4_readItem) := goodIn_app (goodIn_of _ (by decide +kernel)) ggX4_readInto_X4_readItem
theorem dX4_readInto_0 : decode cX4_readInto 0 = .ok (.aload_n 1, 1) := by decide +kernel
theorem dX4_readInto_1 : decode cX4_readInto 1 = .ok (.invokevirtual 19, 3) := by decide +kernel
theorem dX4_readInto_4 : decode cX4_readInto 4 = .ok (.aload_n 0, 1) := by decide +kernel
theorem dX4_readInto_5 : decode cX4_readInto 5 = .ok (.iconst 0, 1) := by decide +kernel
theorem dX4_readInto_6 : decode cX4_readInto 6 = .ok (.putfield 24, 3) := by decide +kernel
theorem dX4_readInto_9 : decode cX4_readInto 9 = .ok (.aload_n 0, 1) := by decide +kernel
theorem dX4_readInto_10 : decode cX4_readInto 10 = .ok (.iconst 0, 1) := by decide +kernel
theorem dX4_readInto_11 : decode cX4_readInto 11 = .ok (.putfield 27, 3) := by decide +kernel
theorem dX4_readInto_14 : decode cX4_readInto 14 = .ok (.aload_n 0, 1) := by decide +kernel
theorem dX4_readInto_15 : decode cX4_readInto 15 = .ok (.iconst 0, 1) := by decide +kernel
theorem dX4_readInto_16 : decode cX4_readInto 16 = .ok (.putfield 31, 3) := by decide +kernel
theorem dX4_readInto_19 : decode cX4_readInto 19 = .ok (.iconst 0, 1) := by decide +kernel
theorem dX4_readInto_20 : decode cX4_readInto 20 = .ok (.istore_n 2, 1) := by decide +kernel
theorem dX4_readInto_21 : decode cX4_readInto 21 = .ok (.iload_n 2, 1) := by decide +kernel
theorem dX4_readInto_22 : decode cX4_readInto 22 = .ok (.sipush 200, 3) := by decide +kernel
theorem dX4_readInto_25 : decode cX4_readInto 25 = .ok (.if_icmp .ge 37, 3) := by decide +kernel
theorem dX4_readInto_28 : decode cX4_readInto 28 = .ok (.aload_n 0, 1) := by decide +kernel
theorem dX4_readInto_29 : decode cX4_readInto 29 = .ok (.invokevirtual 34, 3) := by decide +kernel
theorem dX4_readInto_32 : decode cX4_readInto 32 = .ok (.aload_n 0, 1) := by decide +kernel
theorem dX4_readInto_33 : decode cX4_readInto 33 = .ok (.getfield 24, 3) := by decide +kernel
theorem dX4_readInto_36 : decode cX4_readInto 36 = .ok (.aload_n 0, 1) := by decide +kernel
theorem dX4_readInto_37 : decode cX4_readInto 37 = .ok (.getfield 15, 3) := by decide +kernel
theorem dX4_readInto_40 : decode cX4_readInto 40 = .ok (.if_icmp .lt 5, 3) := by decide +kernel
theorem dX4_readInto_43 : decode cX4_readInto 43 = .ok (.iload_n 2, 1) := by decide +kernel
theorem dX4_readInto_44 : decode cX4_readInto 44 = .ok (.ireturn, 1) := by decide +kernel
theorem dX4_readInto_45 : decode cX4_readInto 45 = .ok (.aload_n 0, 1) := by decide +kernel
theorem dX4_readInto_46 : decode cX4_readInto 46 = .ok (.aload_n 1, 1) := by decide +kernel
theorem dX4_readInto_47 : decode cX4_readInto 47 = .ok (.invokevirtual 37, 3) := by decide +kernel
theorem dX4_readInto_50 : decode cX4_readInto 50 = .ok (.ifCond .ne 6, 3) := by decide +kernel
theorem dX4_readInto_53 : decode cX4_readInto 53 = .ok (.goto 9, 3) := by decide +kernel
theorem dX4_readInto_56 : decode cX4_readInto 56 = .ok (.iinc 2 1, 3) := by decide +kernel
theorem dX4_readInto_59 : decode cX4_readInto 59 = .ok (.goto (-38), 3) := by decide +kernel
theorem dX4_readInto_62 : decode cX4_readInto 62 = .ok (.bipush (-10), 2) := by decide +kernel
theorem dX4_readInto_64 : decode cX4_readInto 64 = .ok (.aload_n 0, 1) := by decide +kernel
theorem dX4_readInto_65 : decode cX4_readInto 65 = .ok (.getfield 24, 3) := by decide +kernel
theorem dX4_readInto_68 : decode cX4_readInto 68 = .ok (.isub, 1) := by decide +kernel
theorem dX4_readInto_69 : decode cX4_readInto 69 = .ok (.ireturn, 1) := by decide +kernel
set_option maxRecDepth 20000 in
theorem ggX4_readItem_X0_hasRoom : GoodIn wsX4_readItem wsX0_hasRoom := goodIn_r _ [9, 10, 59, 60, 61, 62, 63, 64, 65, 66, 67] (by decide +kernel) (by decide +kernel)
set_option maxRecDepth 20000 in
theorem gX4_readItem_X0_hasRoom : GoodIn wsX4_readItem (wsV RX4 41 RX0 yX0_hasRoom wsX0_hasRoom) := goodIn_app (goodIn_of _ (by decide +kernel)) ggX4_readItem_X0_hasRoom
set_option maxRecDepth 20000 in
theorem ggX4_readItem_X4_readThing : GoodIn wsX4_readItem wsX4_readThing := goodIn_r _ [15, 2, 16, 17, 18, 14, 19, 20, 1, 21, 22, 23, 24, 25, 26, 27, 28, 29, 30, 31, 32, 33, 34, 35, 8, 36, 37, 10, 38, 39, 40, 41, 6, 7, 9, 54, 55, 56, 57, 58, 59, 60, 61, 62, 63, 64, 65, 66, 67] (by decide +kernel) (by decide +kernel)
set_option maxRecDepth 20000 in
theorem gX4_readItem_X4_readThing : GoodIn wsX4_readItem (wsV RX4 45 RX4 yX4_readThing wsX4_readThing) := goodIn_app (goodIn_of _ (by decide +kernel)) ggX4_readItem_X4_readThing
set_option maxRecDepth 20000 in
theorem ggX4_readItem_X4_readVow : GoodIn wsX4_readItem wsX4_readVow := goodIn_r _ [45, 2, 3, 46, 16, 17, 18, 14, 19, 20, 1, 21, 22, 23, 24, 25, 26, 27, 28, 29, 30, 31, 32, 54, 55, 56, 57, 58, 59, 60, 61, 62, 63, 64, 65, 66, 67] (by decide +kernel) (by decide +kernel)
set_option maxRecDepth 20000 in
theorem gX4_readItem_X4_readVow : GoodIn wsX4_readItem (wsV RX4 48 RX4 yX4_readVow wsX4_readVow) := goodIn_app (goodIn_of _ (by decide +kernel)) ggX4_readItem_X4_readVow
set_option maxRecDepth 20000 in
theorem ggX4_readItem_X4_readWar : GoodIn wsX4_readItem wsX4_readWar := goodIn_r _ [50, 2, 4, 51, 52, 53, 16, 17, 18, 14, 19, 20, 1, 21, 22, 23, 24, 25, 26, 27, 28, 29, 30, 31, 32, 54, 55, 56, 57, 58, 59, 60, 61, 62, 63, 64, 65, 66, 67] (by decide +kernel) (by decide +kernel)
set_option maxRecDepth 20000 in
theorem gX4_readItem_X4_readWar : GoodIn wsX4_readItem (wsV RX4 51 RX4 yX4_readWar wsX4_readWar) := goodIn_app (goodIn_of _ (by decide +kernel)) ggX4_readItem_X4_readWar
theorem dX4_readItem_0 : decode cX4_readItem 0 = .ok (.aload_n 0, 1) := by decide +kernel
theorem dX4_readItem_1 : decode cX4_readItem 1 = .ok (.getfield 9, 3) := by decide +kernel
theorem dX4_readItem_4 : decode cX4_readItem 4 = .ok (.aload_n 0, 1) := by decide +kernel
theorem dX4_readItem_5 : decode cX4_readItem 5 = .ok (.getfield 24, 3) := by decide +kernel
theorem dX4_readItem_8 : decode cX4_readItem 8 = .ok (.caload, 1) := by decide +kernel
theorem dX4_readItem_9 : decode cX4_readItem 9 = .ok (.tableswitch 94 116 119 #[31, 94, 52, 73], 31) := by decide +kernel
theorem dX4_readItem_40 : decode cX4_readItem 40 = .ok (.aload_n 1, 1) := by decide +kernel
theorem dX4_readItem_41 : decode cX4_readItem 41 = .ok (.invokevirtual 41, 3) := by decide +kernel
theorem dX4_readItem_44 : decode cX4_readItem 44 = .ok (.ifCond .eq 15, 3) := by decide +kernel
theorem dX4_readItem_47 : decode cX4_readItem 47 = .ok (.aload_n 0, 1) := by decide +kernel
theorem dX4_readItem_48 : decode cX4_readItem 48 = .ok (.aload_n 1, 1) := by decide +kernel
theorem dX4_readItem_49 : decode cX4_readItem 49 = .ok (.invokevirtual 45, 3) := by decide +kernel
theorem dX4_readItem_52 : decode cX4_readItem 52 = .ok (.ifCond .eq 7, 3) := by decide +kernel
theorem dX4_readItem_55 : decode cX4_readItem 55 = .ok (.iconst 1, 1) := by decide +kernel
theorem dX4_readItem_56 : decode cX4_readItem 56 = .ok (.goto 4, 3) := by decide +kernel
theorem dX4_readItem_59 : decode cX4_readItem 59 = .ok (.iconst 0, 1) := by decide +kernel
theorem dX4_readItem_60 : decode cX4_readItem 60 = .ok (.ireturn, 1) := by decide +kernel
theorem dX4_readItem_61 : decode cX4_readItem 61 = .ok (.aload_n 0, 1) := by decide +kernel
theorem dX4_readItem_62 : decode cX4_readItem 62 = .ok (.getfield 27, 3) := by decide +kernel
theorem dX4_readItem_65 : decode cX4_readItem 65 = .ok (.ifCond .ne 15, 3) := by decide +kernel
theorem dX4_readItem_68 : decode cX4_readItem 68 = .ok (.aload_n 0, 1) := by decide +kernel
theorem dX4_readItem_69 : decode cX4_readItem 69 = .ok (.aload_n 1, 1) := by decide +kernel
theorem dX4_readItem_70 : decode cX4_readItem 70 = .ok (.invokevirtual 48, 3) := by decide +kernel
theorem dX4_readItem_73 : decode cX4_readItem 73 = .ok (.ifCond .eq 7, 3) := by decide +kernel
theorem dX4_readItem_76 : decode cX4_readItem 76 = .ok (.iconst 1, 1) := by decide +kernel
theorem dX4_readItem_77 : decode cX4_readItem 77 = .ok (.goto 4, 3) := by decide +kernel
theorem dX4_readItem_80 : decode cX4_readItem 80 = .ok (.iconst 0, 1) := by decide +kernel
theorem dX4_readItem_81 : decode cX4_readItem 81 = .ok (.ireturn, 1) := by decide +kernel
theorem dX4_readItem_82 : decode cX4_readItem 82 = .ok (.aload_n 0, 1) := by decide +kernel
theorem dX4_readItem_83 : decode cX4_readItem 83 = .ok (.getfield 31, 3) := by decide +kernel
theorem dX4_readItem_86 : decode cX4_readItem 86 = .ok (.ifCond .ne 15, 3) := by decide +kernel
theorem dX4_readItem_89 : decode cX4_readItem 89 = .ok (.aload_n 0, 1) := by decide +kernel
theorem dX4_readItem_90 : decode cX4_readItem 90 = .ok (.aload_n 1, 1) := by decide +kernel
theorem dX4_readItem_91 : decode cX4_readItem 91 = .ok (.invokevirtual 51, 3) := by decide +kernel
theorem dX4_readItem_94 : decode cX4_readItem 94 = .ok (.ifCond .eq 7, 3) := by decide +kernel
theorem dX4_readItem_97 : decode cX4_readItem 97 = .ok (.iconst 1, 1) := by decide +kernel
theorem dX4_readItem_98 : decode cX4_readItem 98 = .ok (.goto 4, 3) := by decide +kernel
theorem dX4_readItem_101 : decode cX4_readItem 101 = .ok (.iconst 0, 1) := by decide +kernel
theorem dX4_readItem_102 : decode cX4_readItem 102 = .ok (.ireturn, 1) := by decide +kernel
theorem dX4_readItem_103 : decode cX4_readItem 103 = .ok (.iconst 0, 1) := by decide +kernel
theorem dX4_readItem_104 : decode cX4_readItem 104 = .ok (.ireturn, 1) := by decide +kernel
set_option maxRecDepth 20000 in
theorem ggX4_readThing_X4_readNumber : GoodIn wsX4_readThing wsX4_readNumber := goodIn_r _ [6, 1, 7, 8, 9, 10, 11, 12, 13, 14, 15, 5, 16, 35, 36, 37, 38, 39] (by decide +kernel) (by decide +kernel)
set_option maxRecDepth 20000 in
theorem gX4_readThing_X4_readNumber : GoodIn wsX4_readThing (wsV RX4 54 RX4 yX4_readNumber wsX4_readNumber) := goodIn_app (goodIn_of _ (by decide +kernel)) ggX4_readThing_X4_readNumber
set_option maxRecDepth 20000 in
theorem ggX4_readThing_X4_readEnd : GoodIn wsX4_readThing wsX4_readEnd := goodIn_r _ [20, 1, 7, 8, 13, 14, 15, 5, 16, 35, 36, 37, 38, 39] (by decide +kernel) (by decide +kernel)
set_option maxRecDepth 20000 in
theorem gX4_readThing_X4_readEnd : GoodIn wsX4_readThing (wsV RX4 58 RX4 yX4_readEnd wsX4_readEnd) := goodIn_app (goodIn_of _ (by decide +kernel)) ggX4_readThing_X4_readEnd
set_option maxRecDepth 20000 in
theorem ggX4_readThing_X0_add : GoodIn wsX4_readThing wsX0_add := goodIn_r _ [25, 26, 27, 28, 29, 30, 31, 32, 33, 24, 34, 40, 41, 42, 43, 44, 45, 46, 47, 48] (by decide +kernel) (by decide +kernel)
set_option maxRecDepth 20000 in
theorem gX4_readThing_X0_add : GoodIn wsX4_readThing (wsV RX4 61 RX0 yX0_add wsX0_add) := goodIn_app (goodIn_of _ (by decide +kernel)) ggX4_readThing_X0_add
theorem dX4_readThing_0 : decode cX4_readThing 0 = .ok (.aload_n 0, 1) := by decide +kernel
theorem dX4_readThing_1 : decode cX4_readThing 1 = .ok (.dup, 1) := by decide +kernel
theorem dX4_readThing_2 : decode cX4_readThing 2 = .ok (.getfield 24, 3) := by decide +kernel
theorem dX4_readThing_5 : decode cX4_readThing 5 = .ok (.iconst 1, 1) := by decide +kernel
theorem dX4_readThing_6 : decode cX4_readThing 6 = .ok (.iadd, 1) := by decide +kernel
theorem dX4_readThing_7 : decode cX4_readThing 7 = .ok (.putfield 24, 3) := by decide +kernel
theorem dX4_readThing_10 : decode cX4_readThing 10 = .ok (.aload_n 0, 1) := by decide +kernel
theorem dX4_readThing_11 : decode cX4_readThing 11 = .ok (.bipush 31, 2) := by decide +kernel
theorem dX4_readThing_13 : decode cX4_readThing 13 = .ok (.invokevirtual 54, 3) := by decide +kernel
theorem dX4_readThing_16 : decode cX4_readThing 16 = .ok (.istore_n 2, 1) := by decide +kernel
theorem dX4_readThing_17 : decode cX4_readThing 17 = .ok (.iload_n 2, 1) := by decide +kernel
theorem dX4_readThing_18 : decode cX4_readThing 18 = .ok (.ifCond .ge 7, 3) := by decide +kernel
theorem dX4_readThing_21 : decode cX4_readThing 21 = .ok (.iconst (-1), 1) := by decide +kernel
theorem dX4_readThing_22 : decode cX4_readThing 22 = .ok (.goto 9, 3) := by decide +kernel
theorem dX4_readThing_25 : decode cX4_readThing 25 = .ok (.aload_n 0, 1) := by decide +kernel
theorem dX4_readThing_26 : decode cX4_readThing 26 = .ok (.bipush 99, 2) := by decide +kernel
theorem dX4_readThing_28 : decode cX4_readThing 28 = .ok (.invokevirtual 54, 3) := by decide +kernel
theorem dX4_readThing_31 : decode cX4_readThing 31 = .ok (.istore_n 3, 1) := by decide +kernel
theorem dX4_readThing_32 : decode cX4_readThing 32 = .ok (.iload_n 3, 1) := by decide +kernel
theorem dX4_readThing_33 : decode cX4_readThing 33 = .ok (.ifCond .ge 7, 3) := by decide +kernel
theorem dX4_readThing_36 : decode cX4_readThing 36 = .ok (.iconst (-1), 1) := by decide +kernel
theorem dX4_readThing_37 : decode cX4_readThing 37 = .ok (.goto 9, 3) := by decide +kernel
theorem dX4_readThing_40 : decode cX4_readThing 40 = .ok (.aload_n 0, 1) := by decide +kernel
theorem dX4_readThing_41 : decode cX4_readThing 41 = .ok (.bipush 9, 2) := by decide +kernel
theorem dX4_readThing_43 : decode cX4_readThing 43 = .ok (.invokevirtual 54, 3) := by decide +kernel
theorem dX4_readThing_46 : decode cX4_readThing 46 = .ok (.istore 4, 2) := by decide +kernel
theorem dX4_readThing_48 : decode cX4_readThing 48 = .ok (.iload 4, 2) := by decide +kernel
theorem dX4_readThing_50 : decode cX4_readThing 50 = .ok (.ifCond .ge 7, 3) := by decide +kernel
theorem dX4_readThing_53 : decode cX4_readThing 53 = .ok (.iconst (-1), 1) := by decide +kernel
theorem dX4_readThing_54 : decode cX4_readThing 54 = .ok (.goto 8, 3) := by decide +kernel
theorem dX4_readThing_57 : decode cX4_readThing 57 = .ok (.aload_n 0, 1) := by decide +kernel
theorem dX4_readThing_58 : decode cX4_readThing 58 = .ok (.iconst 1, 1) := by decide +kernel
theorem dX4_readThing_59 : decode cX4_readThing 59 = .ok (.invokevirtual 54, 3) := by decide +kernel
theorem dX4_readThing_62 : decode cX4_readThing 62 = .ok (.istore 5, 2) := by decide +kernel
theorem dX4_readThing_64 : decode cX4_readThing 64 = .ok (.iload 5, 2) := by decide +kernel
theorem dX4_readThing_66 : decode cX4_readThing 66 = .ok (.ifCond .lt 10, 3) := by decide +kernel
theorem dX4_readThing_69 : decode cX4_readThing 69 = .ok (.aload_n 0, 1) := by decide +kernel
theorem dX4_readThing_70 : decode cX4_readThing 70 = .ok (.invokevirtual 58, 3) := by decide +kernel
theorem dX4_readThing_73 : decode cX4_readThing 73 = .ok (.ifCond .ne 5, 3) := by decide +kernel
theorem dX4_readThing_76 : decode cX4_readThing 76 = .ok (.iconst 0, 1) := by decide +kernel
theorem dX4_readThing_77 : decode cX4_readThing 77 = .ok (.ireturn, 1) := by decide +kernel
theorem dX4_readThing_78 : decode cX4_readThing 78 = .ok (.aload_n 1, 1) := by decide +kernel
theorem dX4_readThing_79 : decode cX4_readThing 79 = .ok (.iload_n 2, 1) := by decide +kernel
theorem dX4_readThing_80 : decode cX4_readThing 80 = .ok (.iload_n 3, 1) := by decide +kernel
theorem dX4_readThing_81 : decode cX4_readThing 81 = .ok (.iload 4, 2) := by decide +kernel
theorem dX4_readThing_83 : decode cX4_readThing 83 = .ok (.iload 5, 2) := by decide +kernel
theorem dX4_readThing_85 : decode cX4_readThing 85 = .ok (.invokevirtual 61, 3) := by decide +kernel
theorem dX4_readThing_88 : decode cX4_readThing 88 = .ok (.iconst 1, 1) := by decide +kernel
theorem dX4_readThing_89 : decode cX4_readThing 89 = .ok (.ireturn, 1) := by decide +kernel
set_option maxRecDepth 20000 in
theorem ggX4_readVow_X4_readNumber : GoodIn wsX4_readVow wsX4_readNumber := goodIn_r _ [8, 1, 9, 10, 11, 12, 13, 14, 15, 16, 17, 7, 18, 23, 24, 25, 26, 27] (by decide +kernel) (by decide +kernel)
set_option maxRecDepth 20000 in
theorem gX4_readVow_X4_readNumber : GoodIn wsX4_readVow (wsV RX4 54 RX4 yX4_readNumber wsX4_readNumber) := goodIn_app (goodIn_of _ (by decide +kernel)) ggX4_readVow_X4_readNumber
set_option maxRecDepth 20000 in
theorem ggX4_readVow_X4_readEnd : GoodIn wsX4_readVow wsX4_readEnd := goodIn_r _ [22, 1, 9, 10, 15, 16, 17, 7, 18, 23, 24, 25, 26, 27] (by decide +kernel) (by decide +kernel)
set_option maxRecDepth 20000 in
theorem gX4_readVow_X4_readEnd : GoodIn wsX4_readVow (wsV RX4 58 RX4 yX4_readEnd wsX4_readEnd) := goodIn_app (goodIn_of _ (by decide +kernel)) ggX4_readVow_X4_readEnd
theorem dX4_readVow_0 : decode cX4_readVow 0 = .ok (.aload_n 0, 1) := by decide +kernel
theorem dX4_readVow_1 : decode cX4_readVow 1 = .ok (.dup, 1) := by decide +kernel
theorem dX4_readVow_2 : decode cX4_readVow 2 = .ok (.getfield 24, 3) := by decide +kernel
theorem dX4_readVow_5 : decode cX4_readVow 5 = .ok (.iconst 1, 1) := by decide +kernel
theorem dX4_readVow_6 : decode cX4_readVow 6 = .ok (.iadd, 1) := by decide +kernel
theorem dX4_readVow_7 : decode cX4_readVow 7 = .ok (.putfield 24, 3) := by decide +kernel
theorem dX4_readVow_10 : decode cX4_readVow 10 = .ok (.aload_n 0, 1) := by decide +kernel
theorem dX4_readVow_11 : decode cX4_readVow 11 = .ok (.iconst 1, 1) := by decide +kernel
theorem dX4_readVow_12 : decode cX4_readVow 12 = .ok (.putfield 27, 3) := by decide +kernel
theorem dX4_readVow_15 : decode cX4_readVow 15 = .ok (.aload_n 0, 1) := by decide +kernel
theorem dX4_readVow_16 : decode cX4_readVow 16 = .ok (.bipush 31, 2) := by decide +kernel
theorem dX4_readVow_18 : decode cX4_readVow 18 = .ok (.invokevirtual 54, 3) := by decide +kernel
theorem dX4_readVow_21 : decode cX4_readVow 21 = .ok (.istore_n 2, 1) := by decide +kernel
theorem dX4_readVow_22 : decode cX4_readVow 22 = .ok (.iload_n 2, 1) := by decide +kernel
theorem dX4_readVow_23 : decode cX4_readVow 23 = .ok (.ifCond .lt 10, 3) := by decide +kernel
theorem dX4_readVow_26 : decode cX4_readVow 26 = .ok (.aload_n 0, 1) := by decide +kernel
theorem dX4_readVow_27 : decode cX4_readVow 27 = .ok (.invokevirtual 58, 3) := by decide +kernel
theorem dX4_readVow_30 : decode cX4_readVow 30 = .ok (.ifCond .ne 5, 3) := by decide +kernel
theorem dX4_readVow_33 : decode cX4_readVow 33 = .ok (.iconst 0, 1) := by decide +kernel
theorem dX4_readVow_34 : decode cX4_readVow 34 = .ok (.ireturn, 1) := by decide +kernel
theorem dX4_readVow_35 : decode cX4_readVow 35 = .ok (.aload_n 1, 1) := by decide +kernel
theorem dX4_readVow_36 : decode cX4_readVow 36 = .ok (.iload_n 2, 1) := by decide +kernel
theorem dX4_readVow_37 : decode cX4_readVow 37 = .ok (.putfield 65, 3) := by decide +kernel
theorem dX4_readVow_40 : decode cX4_readVow 40 = .ok (.iconst 1, 1) := by decide +kernel
theorem dX4_readVow_41 : decode cX4_readVow 41 = .ok (.ireturn, 1) := by decide +kernel
set_option maxRecDepth 20000 in
theorem ggX4_readWar_X4_readNumber : GoodIn wsX4_readWar wsX4_readNumber := goodIn_r _ [10, 1, 11, 12, 13, 14, 15, 16, 17, 18, 19, 9, 20, 25, 26, 27, 28, 29] (by decide +kernel) (by decide +kernel)
set_option maxRecDepth 20000 in
theorem gX4_readWar_X4_readNumber : GoodIn wsX4_readWar (wsV RX4 54 RX4 yX4_readNumber wsX4_readNumber) := goodIn_app (goodIn_of _ (by decide +kernel)) ggX4_readWar_X4_readNumber
set_option maxRecDepth 20000 in
theorem ggX4_readWar_X4_readEnd : GoodIn wsX4_readWar wsX4_readEnd := goodIn_r _ [24, 1, 11, 12, 17, 18, 19, 9, 20, 25, 26, 27, 28, 29] (by decide +kernel) (by decide +kernel)
set_option maxRecDepth 20000 in
theorem gX4_readWar_X4_readEnd : GoodIn wsX4_readWar (wsV RX4 58 RX4 yX4_readEnd wsX4_readEnd) := goodIn_app (goodIn_of _ (by decide +kernel)) ggX4_readWar_X4_readEnd
theorem dX4_readWar_0 : decode cX4_readWar 0 = .ok (.aload_n 0, 1) := by decide +kernel
theorem dX4_readWar_1 : decode cX4_readWar 1 = .ok (.dup, 1) := by decide +kernel
theorem dX4_readWar_2 : decode cX4_readWar 2 = .ok (.getfield 24, 3) := by decide +kernel
theorem dX4_readWar_5 : decode cX4_readWar 5 = .ok (.iconst 1, 1) := by decide +kernel
theorem dX4_readWar_6 : decode cX4_readWar 6 = .ok (.iadd, 1) := by decide +kernel
theorem dX4_readWar_7 : decode cX4_readWar 7 = .ok (.putfield 24, 3) := by decide +kernel
theorem dX4_readWar_10 : decode cX4_readWar 10 = .ok (.aload_n 0, 1) := by decide +kernel
theorem dX4_readWar_11 : decode cX4_readWar 11 = .ok (.iconst 1, 1) := by decide +kernel
theorem dX4_readWar_12 : decode cX4_readWar 12 = .ok (.putfield 31, 3) := by decide +kernel
theorem dX4_readWar_15 : decode cX4_readWar 15 = .ok (.aload_n 0, 1) := by decide +kernel
theorem dX4_readWar_16 : decode cX4_readWar 16 = .ok (.bipush 10, 2) := by decide +kernel
theorem dX4_readWar_18 : decode cX4_readWar 18 = .ok (.invokevirtual 54, 3) := by decide +kernel
theorem dX4_readWar_21 : decode cX4_readWar 21 = .ok (.istore_n 2, 1) := by decide +kernel
theorem dX4_readWar_22 : decode cX4_readWar 22 = .ok (.iload_n 2, 1) := by decide +kernel
theorem dX4_readWar_23 : decode cX4_readWar 23 = .ok (.ifCond .ge 7, 3) := by decide +kernel
theorem dX4_readWar_26 : decode cX4_readWar 26 = .ok (.iconst (-1), 1) := by decide +kernel
theorem dX4_readWar_27 : decode cX4_readWar 27 = .ok (.goto 11, 3) := by decide +kernel
theorem dX4_readWar_30 : decode cX4_readWar 30 = .ok (.aload_n 0, 1) := by decide +kernel
theorem dX4_readWar_31 : decode cX4_readWar 31 = .ok (.bipush 10, 2) := by decide +kernel
theorem dX4_readWar_33 : decode cX4_readWar 33 = .ok (.iload_n 2, 1) := by decide +kernel
theorem dX4_readWar_34 : decode cX4_readWar 34 = .ok (.isub, 1) := by decide +kernel
theorem dX4_readWar_35 : decode cX4_readWar 35 = .ok (.invokevirtual 54, 3) := by decide +kernel
theorem dX4_readWar_38 : decode cX4_readWar 38 = .ok (.istore_n 3, 1) := by decide +kernel
theorem dX4_readWar_39 : decode cX4_readWar 39 = .ok (.iload_n 3, 1) := by decide +kernel
theorem dX4_readWar_40 : decode cX4_readWar 40 = .ok (.ifCond .ge 7, 3) := by decide +kernel
theorem dX4_readWar_43 : decode cX4_readWar 43 = .ok (.iconst (-1), 1) := by decide +kernel
theorem dX4_readWar_44 : decode cX4_readWar 44 = .ok (.goto 10, 3) := by decide +kernel
theorem dX4_readWar_47 : decode cX4_readWar 47 = .ok (.aload_n 0, 1) := by decide +kernel
theorem dX4_readWar_48 : decode cX4_readWar 48 = .ok (.sipush 999, 3) := by decide +kernel
theorem dX4_readWar_51 : decode cX4_readWar 51 = .ok (.invokevirtual 54, 3) := by decide +kernel
theorem dX4_readWar_54 : decode cX4_readWar 54 = .ok (.istore 4, 2) := by decide +kernel
theorem dX4_readWar_56 : decode cX4_readWar 56 = .ok (.iload 4, 2) := by decide +kernel
theorem dX4_readWar_58 : decode cX4_readWar 58 = .ok (.ifCond .lt 10, 3) := by decide +kernel
theorem dX4_readWar_61 : decode cX4_readWar 61 = .ok (.aload_n 0, 1) := by decide +kernel
theorem dX4_readWar_62 : decode cX4_readWar 62 = .ok (.invokevirtual 58, 3) := by decide +kernel
theorem dX4_readWar_65 : decode cX4_readWar 65 = .ok (.ifCond .ne 5, 3) := by decide +kernel
theorem dX4_readWar_68 : decode cX4_readWar 68 = .ok (.iconst 0, 1) := by decide +kernel
theorem dX4_readWar_69 : decode cX4_readWar 69 = .ok (.ireturn, 1) := by decide +kernel
theorem dX4_readWar_70 : decode cX4_readWar 70 = .ok (.aload_n 1, 1) := by decide +kernel
theorem dX4_readWar_71 : decode cX4_readWar 71 = .ok (.iload_n 2, 1) := by decide +kernel
theorem dX4_readWar_72 : decode cX4_readWar 72 = .ok (.putfield 68, 3) := by decide +kernel
theorem dX4_readWar_75 : decode cX4_readWar 75 = .ok (.aload_n 1, 1) := by decide +kernel
theorem dX4_readWar_76 : decode cX4_readWar 76 = .ok (.iload_n 3, 1) := by decide +kernel
theorem dX4_readWar_77 : decode cX4_readWar 77 = .ok (.putfield 71, 3) := by decide +kernel
theorem dX4_readWar_80 : decode cX4_readWar 80 = .ok (.aload_n 1, 1) := by decide +kernel
theorem dX4_readWar_81 : decode cX4_readWar 81 = .ok (.iload 4, 2) := by decide +kernel
theorem dX4_readWar_83 : decode cX4_readWar 83 = .ok (.putfield 74, 3) := by decide +kernel
theorem dX4_readWar_86 : decode cX4_readWar 86 = .ok (.iconst 1, 1) := by decide +kernel
theorem dX4_readWar_87 : decode cX4_readWar 87 = .ok (.ireturn, 1) := by decide +kernel
set_option maxRecDepth 20000 in
theorem ggX4_readNumber_X4_skipBlanks : GoodIn wsX4_readNumber wsX4_skipBlanks := goodIn_r _ [12, 1, 2, 3, 13, 14, 15, 16, 17] (by decide +kernel) (by decide +kernel)
set_option maxRecDepth 20000 in
theorem gX4_readNumber_X4_skipBlanks : GoodIn wsX4_readNumber (wsV RX4 34 RX4 yX4_skipBlanks wsX4_skipBlanks) := goodIn_app (goodIn_of _ (by decide +kernel)) ggX4_readNumber_X4_skipBlanks
theorem dX4_readNumber_0 : decode cX4_readNumber 0 = .ok (.aload_n 0, 1) := by decide +kernel
theorem dX4_readNumber_1 : decode cX4_readNumber 1 = .ok (.invokevirtual 34, 3) := by decide +kernel
theorem dX4_readNumber_4 : decode cX4_readNumber 4 = .ok (.iconst 0, 1) := by decide +kernel
theorem dX4_readNumber_5 : decode cX4_readNumber 5 = .ok (.istore_n 2, 1) := by decide +kernel
theorem dX4_readNumber_6 : decode cX4_readNumber 6 = .ok (.aload_n 0, 1) := by decide +kernel
theorem dX4_readNumber_7 : decode cX4_readNumber 7 = .ok (.getfield 24, 3) := by decide +kernel
theorem dX4_readNumber_10 : decode cX4_readNumber 10 = .ok (.istore_n 3, 1) := by decide +kernel
theorem dX4_readNumber_11 : decode cX4_readNumber 11 = .ok (.iload_n 3, 1) := by decide +kernel
theorem dX4_readNumber_12 : decode cX4_readNumber 12 = .ok (.aload_n 0, 1) := by decide +kernel
theorem dX4_readNumber_13 : decode cX4_readNumber 13 = .ok (.getfield 15, 3) := by decide +kernel
theorem dX4_readNumber_16 : decode cX4_readNumber 16 = .ok (.if_icmp .ge 52, 3) := by decide +kernel
theorem dX4_readNumber_19 : decode cX4_readNumber 19 = .ok (.aload_n 0, 1) := by decide +kernel
theorem dX4_readNumber_20 : decode cX4_readNumber 20 = .ok (.getfield 9, 3) := by decide +kernel
theorem dX4_readNumber_23 : decode cX4_readNumber 23 = .ok (.iload_n 3, 1) := by decide +kernel
theorem dX4_readNumber_24 : decode cX4_readNumber 24 = .ok (.caload, 1) := by decide +kernel
theorem dX4_readNumber_25 : decode cX4_readNumber 25 = .ok (.bipush 48, 2) := by decide +kernel
theorem dX4_readNumber_27 : decode cX4_readNumber 27 = .ok (.if_icmp .lt 41, 3) := by decide +kernel
theorem dX4_readNumber_30 : decode cX4_readNumber 30 = .ok (.aload_n 0, 1) := by decide +kernel
theorem dX4_readNumber_31 : decode cX4_readNumber 31 = .ok (.getfield 9, 3) := by decide +kernel
theorem dX4_readNumber_34 : decode cX4_readNumber 34 = .ok (.iload_n 3, 1) := by decide +kernel
theorem dX4_readNumber_35 : decode cX4_readNumber 35 = .ok (.caload, 1) := by decide +kernel
theorem dX4_readNumber_36 : decode cX4_readNumber 36 = .ok (.bipush 57, 2) := by decide +kernel
theorem dX4_readNumber_38 : decode cX4_readNumber 38 = .ok (.if_icmp .gt 30, 3) := by decide +kernel
theorem dX4_readNumber_41 : decode cX4_readNumber 41 = .ok (.iload_n 2, 1) := by decide +kernel
theorem dX4_readNumber_42 : decode cX4_readNumber 42 = .ok (.bipush 10, 2) := by decide +kernel
theorem dX4_readNumber_44 : decode cX4_readNumber 44 = .ok (.imul, 1) := by decide +kernel
theorem dX4_readNumber_45 : decode cX4_readNumber 45 = .ok (.aload_n 0, 1) := by decide +kernel
theorem dX4_readNumber_46 : decode cX4_readNumber 46 = .ok (.getfield 9, 3) := by decide +kernel
theorem dX4_readNumber_49 : decode cX4_readNumber 49 = .ok (.iload_n 3, 1) := by decide +kernel
theorem dX4_readNumber_50 : decode cX4_readNumber 50 = .ok (.caload, 1) := by decide +kernel
theorem dX4_readNumber_51 : decode cX4_readNumber 51 = .ok (.iadd, 1) := by decide +kernel
theorem dX4_readNumber_52 : decode cX4_readNumber 52 = .ok (.bipush 48, 2) := by decide +kernel
theorem dX4_readNumber_54 : decode cX4_readNumber 54 = .ok (.isub, 1) := by decide +kernel
theorem dX4_readNumber_55 : decode cX4_readNumber 55 = .ok (.sipush 1000, 3) := by decide +kernel
theorem dX4_readNumber_58 : decode cX4_readNumber 58 = .ok (.invokestatic 77, 3) := by decide +kernel
theorem dX4_readNumber_61 : decode cX4_readNumber 61 = .ok (.istore_n 2, 1) := by decide +kernel
theorem dX4_readNumber_62 : decode cX4_readNumber 62 = .ok (.iinc 3 1, 3) := by decide +kernel
theorem dX4_readNumber_65 : decode cX4_readNumber 65 = .ok (.goto (-54), 3) := by decide +kernel
theorem dX4_readNumber_68 : decode cX4_readNumber 68 = .ok (.iload_n 3, 1) := by decide +kernel
theorem dX4_readNumber_69 : decode cX4_readNumber 69 = .ok (.aload_n 0, 1) := by decide +kernel
theorem dX4_readNumber_70 : decode cX4_readNumber 70 = .ok (.getfield 24, 3) := by decide +kernel
theorem dX4_readNumber_73 : decode cX4_readNumber 73 = .ok (.isub, 1) := by decide +kernel
theorem dX4_readNumber_74 : decode cX4_readNumber 74 = .ok (.iconst 1, 1) := by decide +kernel
theorem dX4_readNumber_75 : decode cX4_readNumber 75 = .ok (.if_icmp .le 21, 3) := by decide +kernel
theorem dX4_readNumber_78 : decode cX4_readNumber 78 = .ok (.aload_n 0, 1) := by decide +kernel
theorem dX4_readNumber_79 : decode cX4_readNumber 79 = .ok (.getfield 9, 3) := by decide +kernel
theorem dX4_readNumber_82 : decode cX4_readNumber 82 = .ok (.aload_n 0, 1) := by decide +kernel
theorem dX4_readNumber_83 : decode cX4_readNumber 83 = .ok (.getfield 24, 3) := by decide +kernel
theorem dX4_readNumber_86 : decode cX4_readNumber 86 = .ok (.caload, 1) := by decide +kernel
theorem dX4_readNumber_87 : decode cX4_readNumber 87 = .ok (.bipush 48, 2) := by decide +kernel
theorem dX4_readNumber_89 : decode cX4_readNumber 89 = .ok (.if_icmp .ne 7, 3) := by decide +kernel
theorem dX4_readNumber_92 : decode cX4_readNumber 92 = .ok (.iconst 1, 1) := by decide +kernel
theorem dX4_readNumber_93 : decode cX4_readNumber 93 = .ok (.goto 4, 3) := by decide +kernel
theorem dX4_readNumber_96 : decode cX4_readNumber 96 = .ok (.iconst 0, 1) := by decide +kernel
theorem dX4_readNumber_97 : decode cX4_readNumber 97 = .ok (.istore 4, 2) := by decide +kernel
theorem dX4_readNumber_99 : decode cX4_readNumber 99 = .ok (.iload_n 3, 1) := by decide +kernel
theorem dX4_readNumber_100 : decode cX4_readNumber 100 = .ok (.aload_n 0, 1) := by decide +kernel
theorem dX4_readNumber_101 : decode cX4_readNumber 101 = .ok (.getfield 24, 3) := by decide +kernel
theorem dX4_readNumber_104 : decode cX4_readNumber 104 = .ok (.if_icmp .eq 13, 3) := by decide +kernel
theorem dX4_readNumber_107 : decode cX4_readNumber 107 = .ok (.iload 4, 2) := by decide +kernel
theorem dX4_readNumber_109 : decode cX4_readNumber 109 = .ok (.ifCond .ne 8, 3) := by decide +kernel
theorem dX4_readNumber_112 : decode cX4_readNumber 112 = .ok (.iload_n 2, 1) := by decide +kernel
theorem dX4_readNumber_113 : decode cX4_readNumber 113 = .ok (.iload_n 1, 1) := by decide +kernel
theorem dX4_readNumber_114 : decode cX4_readNumber 114 = .ok (.if_icmp .le 5, 3) := by decide +kernel
theorem dX4_readNumber_117 : decode cX4_readNumber 117 = .ok (.iconst (-1), 1) := by decide +kernel
theorem dX4_readNumber_118 : decode cX4_readNumber 118 = .ok (.ireturn, 1) := by decide +kernel
theorem dX4_readNumber_119 : decode cX4_readNumber 119 = .ok (.aload_n 0, 1) := by decide +kernel
theorem dX4_readNumber_120 : decode cX4_readNumber 120 = .ok (.iload_n 3, 1) := by decide +kernel
theorem dX4_readNumber_121 : decode cX4_readNumber 121 = .ok (.putfield 24, 3) := by decide +kernel
theorem dX4_readNumber_124 : decode cX4_readNumber 124 = .ok (.iload_n 2, 1) := by decide +kernel
theorem dX4_readNumber_125 : decode cX4_readNumber 125 = .ok (.ireturn, 1) := by decide +kernel
set_option maxRecDepth 20000 in
theorem ggX4_readEnd_X4_skipBlanks : GoodIn wsX4_readEnd wsX4_skipBlanks := goodIn_r _ [8, 1, 2, 3, 9, 10, 11, 12, 13] (by decide +kernel) (by decide +kernel)
set_option maxRecDepth 20000 in
theorem gX4_readEnd_X4_skipBlanks : GoodIn wsX4_readEnd (wsV RX4 34 RX4 yX4_skipBlanks wsX4_skipBlanks) := goodIn_app (goodIn_of _ (by decide +kernel)) ggX4_readEnd_X4_skipBlanks
theorem dX4_readEnd_0 : decode cX4_readEnd 0 = .ok (.aload_n 0, 1) := by decide +kernel
theorem dX4_readEnd_1 : decode cX4_readEnd 1 = .ok (.invokevirtual 34, 3) := by decide +kernel
theorem dX4_readEnd_4 : decode cX4_readEnd 4 = .ok (.aload_n 0, 1) := by decide +kernel
theorem dX4_readEnd_5 : decode cX4_readEnd 5 = .ok (.getfield 24, 3) := by decide +kernel
theorem dX4_readEnd_8 : decode cX4_readEnd 8 = .ok (.aload_n 0, 1) := by decide +kernel
theorem dX4_readEnd_9 : decode cX4_readEnd 9 = .ok (.getfield 15, 3) := by decide +kernel
theorem dX4_readEnd_12 : decode cX4_readEnd 12 = .ok (.if_icmp .ge 17, 3) := by decide +kernel
theorem dX4_readEnd_15 : decode cX4_readEnd 15 = .ok (.aload_n 0, 1) := by decide +kernel
theorem dX4_readEnd_16 : decode cX4_readEnd 16 = .ok (.getfield 9, 3) := by decide +kernel
theorem dX4_readEnd_19 : decode cX4_readEnd 19 = .ok (.aload_n 0, 1) := by decide +kernel
theorem dX4_readEnd_20 : decode cX4_readEnd 20 = .ok (.getfield 24, 3) := by decide +kernel
theorem dX4_readEnd_23 : decode cX4_readEnd 23 = .ok (.caload, 1) := by decide +kernel
theorem dX4_readEnd_24 : decode cX4_readEnd 24 = .ok (.bipush 59, 2) := by decide +kernel
theorem dX4_readEnd_26 : decode cX4_readEnd 26 = .ok (.if_icmp .eq 5, 3) := by decide +kernel
theorem dX4_readEnd_29 : decode cX4_readEnd 29 = .ok (.iconst 0, 1) := by decide +kernel
theorem dX4_readEnd_30 : decode cX4_readEnd 30 = .ok (.ireturn, 1) := by decide +kernel
theorem dX4_readEnd_31 : decode cX4_readEnd 31 = .ok (.aload_n 0, 1) := by decide +kernel
theorem dX4_readEnd_32 : decode cX4_readEnd 32 = .ok (.dup, 1) := by decide +kernel
theorem dX4_readEnd_33 : decode cX4_readEnd 33 = .ok (.getfield 24, 3) := by decide +kernel
theorem dX4_readEnd_36 : decode cX4_readEnd 36 = .ok (.iconst 1, 1) := by decide +kernel
theorem dX4_readEnd_37 : decode cX4_readEnd 37 = .ok (.iadd, 1) := by decide +kernel
theorem dX4_readEnd_38 : decode cX4_readEnd 38 = .ok (.putfield 24, 3) := by decide +kernel
theorem dX4_readEnd_41 : decode cX4_readEnd 41 = .ok (.iconst 1, 1) := by decide +kernel
theorem dX4_readEnd_42 : decode cX4_readEnd 42 = .ok (.ireturn, 1) := by decide +kernel
theorem dX4_skipBlanks_0 : decode cX4_skipBlanks 0 = .ok (.aload_n 0, 1) := by decide +kernel
theorem dX4_skipBlanks_1 : decode cX4_skipBlanks 1 = .ok (.getfield 24, 3) := by decide +kernel
theorem dX4_skipBlanks_4 : decode cX4_skipBlanks 4 = .ok (.aload_n 0, 1) := by decide +kernel
theorem dX4_skipBlanks_5 : decode cX4_skipBlanks 5 = .ok (.getfield 15, 3) := by decide +kernel
theorem dX4_skipBlanks_8 : decode cX4_skipBlanks 8 = .ok (.if_icmp .ge 30, 3) := by decide +kernel
theorem dX4_skipBlanks_11 : decode cX4_skipBlanks 11 = .ok (.aload_n 0, 1) := by decide +kernel
theorem dX4_skipBlanks_12 : decode cX4_skipBlanks 12 = .ok (.getfield 9, 3) := by decide +kernel
theorem dX4_skipBlanks_15 : decode cX4_skipBlanks 15 = .ok (.aload_n 0, 1) := by decide +kernel
theorem dX4_skipBlanks_16 : decode cX4_skipBlanks 16 = .ok (.getfield 24, 3) := by decide +kernel
theorem dX4_skipBlanks_19 : decode cX4_skipBlanks 19 = .ok (.caload, 1) := by decide +kernel
theorem dX4_skipBlanks_20 : decode cX4_skipBlanks 20 = .ok (.bipush 32, 2) := by decide +kernel
theorem dX4_skipBlanks_22 : decode cX4_skipBlanks 22 = .ok (.if_icmp .ne 16, 3) := by decide +kernel
theorem dX4_skipBlanks_25 : decode cX4_skipBlanks 25 = .ok (.aload_n 0, 1) := by decide +kernel
theorem dX4_skipBlanks_26 : decode cX4_skipBlanks 26 = .ok (.dup, 1) := by decide +kernel
theorem dX4_skipBlanks_27 : decode cX4_skipBlanks 27 = .ok (.getfield 24, 3) := by decide +kernel
theorem dX4_skipBlanks_30 : decode cX4_skipBlanks 30 = .ok (.iconst 1, 1) := by decide +kernel
theorem dX4_skipBlanks_31 : decode cX4_skipBlanks 31 = .ok (.iadd, 1) := by decide +kernel
theorem dX4_skipBlanks_32 : decode cX4_skipBlanks 32 = .ok (.putfield 24, 3) := by decide +kernel
theorem dX4_skipBlanks_35 : decode cX4_skipBlanks 35 = .ok (.goto (-35), 3) := by decide +kernel
theorem dX4_skipBlanks_38 : decode cX4_skipBlanks 38 = .ok (.return_, 1) := by decide +kernel
set_option maxRecDepth 20000 in
theorem ggX5_init_X0_init : GoodIn wsX5_init wsX0_init := goodIn_r _ [32, 33, 2, 3, 34, 35, 36, 37, 38, 39, 40, 6, 41, 42, 43, 44, 45, 46, 47, 67, 68, 69, 70, 71, 72, 73, 74, 75] (by decide +kernel) (by decide +kernel)
set_option maxRecDepth 20000 in
theorem gX5_init_X0_init : GoodIn wsX5_init (wsX0_init) := ggX5_init_X0_init
set_option maxRecDepth 20000 in
theorem ggX5_init_X4_init : GoodIn wsX5_init wsX4_init := goodIn_r _ [49, 50, 2, 3, 51, 52, 86, 87, 88, 89, 90] (by decide +kernel) (by decide +kernel)
set_option maxRecDepth 20000 in
theorem gX5_init_X4_init_n21 : GoodIn wsX5_init (wsX4_init) := ggX5_init_X4_init
set_option maxRecDepth 20000 in
theorem ggX5_init_X3_init : GoodIn wsX5_init wsX3_init := goodIn_r _ [54, 55, 2, 3] (by decide +kernel) (by decide +kernel)
set_option maxRecDepth 20000 in
theorem gX5_init_X3_init_n28 : GoodIn wsX5_init (wsX3_init) := ggX5_init_X3_init
set_option maxRecDepth 20000 in
theorem ggX5_init_X1_init : GoodIn wsX5_init wsX1_init := goodIn_r _ [58, 59, 2, 3, 60, 61, 14, 15, 53, 54, 55, 96, 97, 98, 91, 92, 93, 94, 95] (by decide +kernel) (by decide +kernel)
set_option maxRecDepth 20000 in
theorem gX5_init_X1_init : GoodIn wsX5_init (wsX1_init) := ggX5_init_X1_init
set_option maxRecDepth 20000 in
theorem ggX5_init_X2_init : GoodIn wsX5_init wsX2_init := goodIn_r _ [63, 64, 2, 3, 34, 65, 66, 99, 100, 101] (by decide +kernel) (by decide +kernel)
set_option maxRecDepth 20000 in
theorem gX5_init_X2_init_n53 : GoodIn wsX5_init (wsX2_init) := ggX5_init_X2_init
theorem dX5_init_0 : decode cX5_init 0 = .ok (.aload_n 0, 1) := by decide +kernel
theorem dX5_init_1 : decode cX5_init 1 = .ok (.invokespecial 1, 3) := by decide +kernel
theorem dX5_init_4 : decode cX5_init 4 = .ok (.aload_n 0, 1) := by decide +kernel
theorem dX5_init_5 : decode cX5_init 5 = .ok (.new 7, 3) := by decide +kernel
theorem dX5_init_8 : decode cX5_init 8 = .ok (.dup, 1) := by decide +kernel
theorem dX5_init_9 : decode cX5_init 9 = .ok (.invokespecial 9, 3) := by decide +kernel
theorem dX5_init_12 : decode cX5_init 12 = .ok (.putfield 10, 3) := by decide +kernel
theorem dX5_init_15 : decode cX5_init 15 = .ok (.aload_n 0, 1) := by decide +kernel
theorem dX5_init_16 : decode cX5_init 16 = .ok (.new 7, 3) := by decide +kernel
theorem dX5_init_19 : decode cX5_init 19 = .ok (.dup, 1) := by decide +kernel
theorem dX5_init_20 : decode cX5_init 20 = .ok (.invokespecial 9, 3) := by decide +kernel
theorem dX5_init_23 : decode cX5_init 23 = .ok (.putfield 16, 3) := by decide +kernel
theorem dX5_init_26 : decode cX5_init 26 = .ok (.aload_n 0, 1) := by decide +kernel
theorem dX5_init_27 : decode cX5_init 27 = .ok (.new 19, 3) := by decide +kernel
theorem dX5_init_30 : decode cX5_init 30 = .ok (.dup, 1) := by decide +kernel
theorem dX5_init_31 : decode cX5_init 31 = .ok (.invokespecial 21, 3) := by decide +kernel
theorem dX5_init_34 : decode cX5_init 34 = .ok (.putfield 22, 3) := by decide +kernel
theorem dX5_init_37 : decode cX5_init 37 = .ok (.aload_n 0, 1) := by decide +kernel
theorem dX5_init_38 : decode cX5_init 38 = .ok (.new 26, 3) := by decide +kernel
theorem dX5_init_41 : decode cX5_init 41 = .ok (.dup, 1) := by decide +kernel
theorem dX5_init_42 : decode cX5_init 42 = .ok (.invokespecial 28, 3) := by decide +kernel
theorem dX5_init_45 : decode cX5_init 45 = .ok (.putfield 29, 3) := by decide +kernel
theorem dX5_init_48 : decode cX5_init 48 = .ok (.aload_n 0, 1) := by decide +kernel
theorem dX5_init_49 : decode cX5_init 49 = .ok (.new 26, 3) := by decide +kernel
theorem dX5_init_52 : decode cX5_init 52 = .ok (.dup, 1) := by decide +kernel
theorem dX5_init_53 : decode cX5_init 53 = .ok (.invokespecial 28, 3) := by decide +kernel
theorem dX5_init_56 : decode cX5_init 56 = .ok (.putfield 33, 3) := by decide +kernel
theorem dX5_init_59 : decode cX5_init 59 = .ok (.aload_n 0, 1) := by decide +kernel
theorem dX5_init_60 : decode cX5_init 60 = .ok (.new 36, 3) := by decide +kernel
theorem dX5_init_63 : decode cX5_init 63 = .ok (.dup, 1) := by decide +kernel
theorem dX5_init_64 : decode cX5_init 64 = .ok (.invokespecial 38, 3) := by decide +kernel
theorem dX5_init_67 : decode cX5_init 67 = .ok (.putfield 39, 3) := by decide +kernel
theorem dX5_init_70 : decode cX5_init 70 = .ok (.aload_n 0, 1) := by decide +kernel
theorem dX5_init_71 : decode cX5_init 71 = .ok (.iconst 2, 1) := by decide +kernel
theorem dX5_init_72 : decode cX5_init 72 = .ok (.anewarray 26, 3) := by decide +kernel
theorem dX5_init_75 : decode cX5_init 75 = .ok (.putfield 43, 3) := by decide +kernel
theorem dX5_init_78 : decode cX5_init 78 = .ok (.iconst 0, 1) := by decide +kernel
theorem dX5_init_79 : decode cX5_init 79 = .ok (.istore_n 1, 1) := by decide +kernel
theorem dX5_init_80 : decode cX5_init 80 = .ok (.iload_n 1, 1) := by decide +kernel
theorem dX5_init_81 : decode cX5_init 81 = .ok (.iconst 2, 1) := by decide +kernel
theorem dX5_init_82 : decode cX5_init 82 = .ok (.if_icmp .ge 22, 3) := by decide +kernel
theorem dX5_init_85 : decode cX5_init 85 = .ok (.aload_n 0, 1) := by decide +kernel
theorem dX5_init_86 : decode cX5_init 86 = .ok (.getfield 43, 3) := by decide +kernel
theorem dX5_init_89 : decode cX5_init 89 = .ok (.iload_n 1, 1) := by decide +kernel
theorem dX5_init_90 : decode cX5_init 90 = .ok (.new 26, 3) := by decide +kernel
theorem dX5_init_93 : decode cX5_init 93 = .ok (.dup, 1) := by decide +kernel
theorem dX5_init_94 : decode cX5_init 94 = .ok (.invokespecial 28, 3) := by decide +kernel
theorem dX5_init_97 : decode cX5_init 97 = .ok (.aastore, 1) := by decide +kernel
theorem dX5_init_98 : decode cX5_init 98 = .ok (.iinc 1 1, 3) := by decide +kernel
theorem dX5_init_101 : decode cX5_init 101 = .ok (.goto (-21), 3) := by decide +kernel
theorem dX5_init_104 : decode cX5_init 104 = .ok (.aload_n 0, 1) := by decide +kernel
theorem dX5_init_105 : decode cX5_init 105 = .ok (.iconst 2, 1) := by decide +kernel
theorem dX5_init_106 : decode cX5_init 106 = .ok (.newarray .boolean, 2) := by decide +kernel
theorem dX5_init_108 : decode cX5_init 108 = .ok (.putfield 47, 3) := by decide +kernel
theorem dX5_init_111 : decode cX5_init 111 = .ok (.aload_n 0, 1) := by decide +kernel
theorem dX5_init_112 : decode cX5_init 112 = .ok (.new 51, 3) := by decide +kernel
theorem dX5_init_115 : decode cX5_init 115 = .ok (.dup, 1) := by decide +kernel
theorem dX5_init_116 : decode cX5_init 116 = .ok (.invokespecial 53, 3) := by decide +kernel
theorem dX5_init_119 : decode cX5_init 119 = .ok (.putfield 54, 3) := by decide +kernel
theorem dX5_init_122 : decode cX5_init 122 = .ok (.aload_n 0, 1) := by decide +kernel
theorem dX5_init_123 : decode cX5_init 123 = .ok (.lconst 0, 1) := by decide +kernel
theorem dX5_init_124 : decode cX5_init 124 = .ok (.putfield 58, 3) := by decide +kernel
theorem dX5_init_127 : decode cX5_init 127 = .ok (.return_, 1) := by decide +kernel
set_option maxRecDepth 20000 in
theorem ggX5_type_X4_add : GoodIn wsX5_type wsX4_add := goodIn_r _ [7, 8, 9, 20, 21, 22, 23, 24] (by decide +kernel) (by decide +kernel)
set_option maxRecDepth 20000 in
theorem gX5_type_X4_add : GoodIn wsX5_type (wsV RX5 62 RX4 yX4_add wsX4_add) := goodIn_app (goodIn_of _ (by decide +kernel)) ggX5_type_X4_add
theorem dX5_type_0 : decode cX5_type 0 = .ok (.iload_n 1, 1) := by decide +kernel
theorem dX5_type_1 : decode cX5_type 1 = .ok (.ifCond .lt 10, 3) := by decide +kernel
theorem dX5_type_4 : decode cX5_type 4 = .ok (.iload_n 1, 1) := by decide +kernel
theorem dX5_type_5 : decode cX5_type 5 = .ok (.sipush 255, 3) := by decide +kernel
theorem dX5_type_8 : decode cX5_type 8 = .ok (.if_icmp .le 5, 3) := by decide +kernel
theorem dX5_type_11 : decode cX5_type 11 = .ok (.iconst (-1), 1) := by decide +kernel
theorem dX5_type_12 : decode cX5_type 12 = .ok (.ireturn, 1) := by decide +kernel
theorem dX5_type_13 : decode cX5_type 13 = .ok (.aload_n 0, 1) := by decide +kernel
theorem dX5_type_14 : decode cX5_type 14 = .ok (.getfield 22, 3) := by decide +kernel
theorem dX5_type_17 : decode cX5_type 17 = .ok (.iload_n 1, 1) := by decide +kernel
theorem dX5_type_18 : decode cX5_type 18 = .ok (.invokevirtual 62, 3) := by decide +kernel
theorem dX5_type_21 : decode cX5_type 21 = .ok (.ifCond .eq 13, 3) := by decide +kernel
theorem dX5_type_24 : decode cX5_type 24 = .ok (.aload_n 0, 1) := by decide +kernel
theorem dX5_type_25 : decode cX5_type 25 = .ok (.getfield 22, 3) := by decide +kernel
theorem dX5_type_28 : decode cX5_type 28 = .ok (.getfield 66, 3) := by decide +kernel
theorem dX5_type_31 : decode cX5_type 31 = .ok (.goto 5, 3) := by decide +kernel
theorem dX5_type_34 : decode cX5_type 34 = .ok (.bipush (-3), 2) := by decide +kernel
theorem dX5_type_36 : decode cX5_type 36 = .ok (.ireturn, 1) := by decide +kernel
theorem dX5_clear_0 : decode cX5_clear 0 = .ok (.aload_n 0, 1) := by decide +kernel
theorem dX5_clear_1 : decode cX5_clear 1 = .ok (.getfield 22, 3) := by decide +kernel
theorem dX5_clear_4 : decode cX5_clear 4 = .ok (.getfield 66, 3) := by decide +kernel
theorem dX5_clear_7 : decode cX5_clear 7 = .ok (.istore_n 1, 1) := by decide +kernel
theorem dX5_clear_8 : decode cX5_clear 8 = .ok (.aload_n 0, 1) := by decide +kernel
theorem dX5_clear_9 : decode cX5_clear 9 = .ok (.getfield 22, 3) := by decide +kernel
theorem dX5_clear_12 : decode cX5_clear 12 = .ok (.iconst 0, 1) := by decide +kernel
theorem dX5_clear_13 : decode cX5_clear 13 = .ok (.putfield 66, 3) := by decide +kernel
theorem dX5_clear_16 : decode cX5_clear 16 = .ok (.iload_n 1, 1) := by decide +kernel
theorem dX5_clear_17 : decode cX5_clear 17 = .ok (.ireturn, 1) := by decide +kernel
set_option maxRecDepth 20000 in
theorem ggX5_house_X4_readInto : GoodIn wsX5_house wsX4_readInto := goodIn_r _ [9, 10, 11, 12, 13, 14, 15, 16, 17, 18, 19, 20, 21, 22, 23, 24, 25, 26, 27, 8, 28, 29, 30, 31, 32, 33, 34, 35, 36, 37, 38, 39, 40, 41, 42, 43, 44, 45, 46, 47, 48, 49, 50, 51, 52, 53, 54, 55, 56, 57, 58, 59, 60, 61, 62, 63, 64, 65, 66, 67, 68, 69, 70, 71, 72, 73, 102, 103, 104, 105, 106, 107, 108, 109, 110, 111, 112, 113, 114, 115] (by decide +kernel) (by decide +kernel)
set_option maxRecDepth 20000 in
theorem gX5_house_X4_readInto : GoodIn wsX5_house (wsV RX5 70 RX4 yX4_readInto wsX4_readInto) := goodIn_app (goodIn_of _ (by decide +kernel)) ggX5_house_X4_readInto
set_option maxRecDepth 20000 in
theorem ggX5_house_X5_beginAnew : GoodIn wsX5_house wsX5_beginAnew := goodIn_r _ [78, 79, 3, 80, 81, 82, 83, 84, 85, 86, 87, 88, 89, 90, 91, 92, 93, 94, 95, 96, 97, 98, 99, 100, 101, 107, 108, 109, 110, 111, 112, 113, 114, 115, 116, 117, 118, 119, 120, 121, 122, 123, 124, 125, 126] (by decide +kernel) (by decide +kernel)
set_option maxRecDepth 20000 in
theorem gX5_house_X5_beginAnew : GoodIn wsX5_house (wsV RX5 74 RX5 yX5_beginAnew wsX5_beginAnew) := goodIn_app (goodIn_of _ (by decide +kernel)) ggX5_house_X5_beginAnew
theorem dX5_house_0 : decode cX5_house 0 = .ok (.aload_n 0, 1) := by decide +kernel
theorem dX5_house_1 : decode cX5_house 1 = .ok (.getfield 22, 3) := by decide +kernel
theorem dX5_house_4 : decode cX5_house 4 = .ok (.aload_n 0, 1) := by decide +kernel
theorem dX5_house_5 : decode cX5_house 5 = .ok (.getfield 16, 3) := by decide +kernel
theorem dX5_house_8 : decode cX5_house 8 = .ok (.invokevirtual 70, 3) := by decide +kernel
theorem dX5_house_11 : decode cX5_house 11 = .ok (.istore_n 1, 1) := by decide +kernel
theorem dX5_house_12 : decode cX5_house 12 = .ok (.iload_n 1, 1) := by decide +kernel
theorem dX5_house_13 : decode cX5_house 13 = .ok (.ifCond .ge 5, 3) := by decide +kernel
theorem dX5_house_16 : decode cX5_house 16 = .ok (.iload_n 1, 1) := by decide +kernel
theorem dX5_house_17 : decode cX5_house 17 = .ok (.ireturn, 1) := by decide +kernel
theorem dX5_house_18 : decode cX5_house 18 = .ok (.aload_n 0, 1) := by decide +kernel
theorem dX5_house_19 : decode cX5_house 19 = .ok (.getfield 10, 3) := by decide +kernel
theorem dX5_house_22 : decode cX5_house 22 = .ok (.astore_n 2, 1) := by decide +kernel
theorem dX5_house_23 : decode cX5_house 23 = .ok (.aload_n 0, 1) := by decide +kernel
theorem dX5_house_24 : decode cX5_house 24 = .ok (.aload_n 0, 1) := by decide +kernel
theorem dX5_house_25 : decode cX5_house 25 = .ok (.getfield 16, 3) := by decide +kernel
theorem dX5_house_28 : decode cX5_house 28 = .ok (.putfield 10, 3) := by decide +kernel
theorem dX5_house_31 : decode cX5_house 31 = .ok (.aload_n 0, 1) := by decide +kernel
theorem dX5_house_32 : decode cX5_house 32 = .ok (.aload_n 2, 1) := by decide +kernel
theorem dX5_house_33 : decode cX5_house 33 = .ok (.putfield 16, 3) := by decide +kernel
theorem dX5_house_36 : decode cX5_house 36 = .ok (.aload_n 0, 1) := by decide +kernel
theorem dX5_house_37 : decode cX5_house 37 = .ok (.getfield 22, 3) := by decide +kernel
theorem dX5_house_40 : decode cX5_house 40 = .ok (.iconst 0, 1) := by decide +kernel
theorem dX5_house_41 : decode cX5_house 41 = .ok (.putfield 66, 3) := by decide +kernel
theorem dX5_house_44 : decode cX5_house 44 = .ok (.aload_n 0, 1) := by decide +kernel
theorem dX5_house_45 : decode cX5_house 45 = .ok (.invokevirtual 74, 3) := by decide +kernel
theorem dX5_house_48 : decode cX5_house 48 = .ok (.iload_n 1, 1) := by decide +kernel
theorem dX5_house_49 : decode cX5_house 49 = .ok (.ireturn, 1) := by decide +kernel
set_option maxRecDepth 20000 in
theorem ggX5_thing_X0_holds : GoodIn wsX5_thing wsX0_holds := goodIn_r _ [13, 14, 60, 61, 62, 63, 64, 65, 66, 67, 68] (by decide +kernel) (by decide +kernel)
set_option maxRecDepth 20000 in
theorem gX5_thing_X0_holds : GoodIn wsX5_thing (wsV RX5 77 RX0 yX0_holds wsX0_holds) := goodIn_app (goodIn_of _ (by decide +kernel)) ggX5_thing_X0_holds
set_option maxRecDepth 20000 in
theorem ggX5_thing_X5_bitOf : GoodIn wsX5_thing wsX5_bitOf := goodIn_r _ [18] (by decide +kernel) (by decide +kernel)
set_option maxRecDepth 20000 in
theorem gX5_thing_X5_bitOf : GoodIn wsX5_thing (va_wsS RX5 93 yX5_bitOf wsX5_bitOf) := goodIn_app (goodIn_of _ (by decide +kernel)) ggX5_thing_X5_bitOf
set_option maxRecDepth 20000 in
theorem ggX5_thing_X5_coveredNow : GoodIn wsX5_thing wsX5_coveredNow := goodIn_r _ [22, 1, 5, 23, 24, 25, 26, 12, 27, 28, 29, 30, 31, 32, 14, 33, 50, 51, 52, 53, 54, 55, 56, 57, 58, 59, 69, 70, 71, 72, 73, 60, 61, 62, 63, 64, 65, 66, 67, 68] (by decide +kernel) (by decide +kernel)
set_option maxRecDepth 20000 in
theorem gX5_thing_X5_coveredNow : GoodIn wsX5_thing (wsV RX5 103 RX5 yX5_coveredNow wsX5_coveredNow) := goodIn_app (goodIn_of _ (by decide +kernel)) ggX5_thing_X5_coveredNow
set_option maxRecDepth 20000 in
theorem ggX5_thing_X5_ableNow : GoodIn wsX5_thing wsX5_ableNow := goodIn_r _ [37, 1, 5, 23, 38, 39, 40, 12, 41, 42, 28, 43, 44, 25, 26, 27, 29, 30, 31, 32, 14, 33, 45, 46, 47, 48, 49, 50, 51, 52, 53, 54, 55, 56, 57, 58, 59, 69, 70, 71, 72, 73, 60, 61, 62, 63, 64, 65, 66, 67, 68] (by decide +kernel) (by decide +kernel)
set_option maxRecDepth 20000 in
theorem gX5_thing_X5_ableNow : GoodIn wsX5_thing (wsV RX5 107 RX5 yX5_ableNow wsX5_ableNow) := goodIn_app (goodIn_of _ (by decide +kernel)) ggX5_thing_X5_ableNow
theorem dX5_thing_0 : decode cX5_thing 0 = .ok (.aload_n 0, 1) := by decide +kernel
theorem dX5_thing_1 : decode cX5_thing 1 = .ok (.getfield 10, 3) := by decide +kernel
theorem dX5_thing_4 : decode cX5_thing 4 = .ok (.iload_n 1, 1) := by decide +kernel
theorem dX5_thing_5 : decode cX5_thing 5 = .ok (.invokevirtual 77, 3) := by decide +kernel
theorem dX5_thing_8 : decode cX5_thing 8 = .ok (.ifCond .ne 5, 3) := by decide +kernel
theorem dX5_thing_11 : decode cX5_thing 11 = .ok (.iconst (-1), 1) := by decide +kernel
theorem dX5_thing_12 : decode cX5_thing 12 = .ok (.ireturn, 1) := by decide +kernel
theorem dX5_thing_13 : decode cX5_thing 13 = .ok (.iload_n 2, 1) := by decide +kernel
theorem dX5_thing_14 : decode cX5_thing 14 = .ok (.tableswitch 130 0 7 #[46, 56, 66, 76, 88, 100, 112, 121], 46) := by decide +kernel
theorem dX5_thing_60 : decode cX5_thing 60 = .ok (.aload_n 0, 1) := by decide +kernel
theorem dX5_thing_61 : decode cX5_thing 61 = .ok (.getfield 10, 3) := by decide +kernel
theorem dX5_thing_64 : decode cX5_thing 64 = .ok (.getfield 80, 3) := by decide +kernel
theorem dX5_thing_67 : decode cX5_thing 67 = .ok (.iload_n 1, 1) := by decide +kernel
theorem dX5_thing_68 : decode cX5_thing 68 = .ok (.iaload, 1) := by decide +kernel
theorem dX5_thing_69 : decode cX5_thing 69 = .ok (.ireturn, 1) := by decide +kernel
theorem dX5_thing_70 : decode cX5_thing 70 = .ok (.aload_n 0, 1) := by decide +kernel
theorem dX5_thing_71 : decode cX5_thing 71 = .ok (.getfield 10, 3) := by decide +kernel
theorem dX5_thing_74 : decode cX5_thing 74 = .ok (.getfield 84, 3) := by decide +kernel
theorem dX5_thing_77 : decode cX5_thing 77 = .ok (.iload_n 1, 1) := by decide +kernel
theorem dX5_thing_78 : decode cX5_thing 78 = .ok (.iaload, 1) := by decide +kernel
theorem dX5_thing_79 : decode cX5_thing 79 = .ok (.ireturn, 1) := by decide +kernel
theorem dX5_thing_80 : decode cX5_thing 80 = .ok (.aload_n 0, 1) := by decide +kernel
theorem dX5_thing_81 : decode cX5_thing 81 = .ok (.getfield 10, 3) := by decide +kernel
theorem dX5_thing_84 : decode cX5_thing 84 = .ok (.getfield 87, 3) := by decide +kernel
theorem dX5_thing_87 : decode cX5_thing 87 = .ok (.iload_n 1, 1) := by decide +kernel
theorem dX5_thing_88 : decode cX5_thing 88 = .ok (.iaload, 1) := by decide +kernel
theorem dX5_thing_89 : decode cX5_thing 89 = .ok (.ireturn, 1) := by decide +kernel
theorem dX5_thing_90 : decode cX5_thing 90 = .ok (.aload_n 0, 1) := by decide +kernel
theorem dX5_thing_91 : decode cX5_thing 91 = .ok (.getfield 29, 3) := by decide +kernel
theorem dX5_thing_94 : decode cX5_thing 94 = .ok (.getfield 90, 3) := by decide +kernel
theorem dX5_thing_97 : decode cX5_thing 97 = .ok (.iload_n 1, 1) := by decide +kernel
theorem dX5_thing_98 : decode cX5_thing 98 = .ok (.invokestatic 93, 3) := by decide +kernel
theorem dX5_thing_101 : decode cX5_thing 101 = .ok (.ireturn, 1) := by decide +kernel
theorem dX5_thing_102 : decode cX5_thing 102 = .ok (.aload_n 0, 1) := by decide +kernel
theorem dX5_thing_103 : decode cX5_thing 103 = .ok (.getfield 29, 3) := by decide +kernel
theorem dX5_thing_106 : decode cX5_thing 106 = .ok (.getfield 97, 3) := by decide +kernel
theorem dX5_thing_109 : decode cX5_thing 109 = .ok (.iload_n 1, 1) := by decide +kernel
theorem dX5_thing_110 : decode cX5_thing 110 = .ok (.invokestatic 93, 3) := by decide +kernel
theorem dX5_thing_113 : decode cX5_thing 113 = .ok (.ireturn, 1) := by decide +kernel
theorem dX5_thing_114 : decode cX5_thing 114 = .ok (.aload_n 0, 1) := by decide +kernel
theorem dX5_thing_115 : decode cX5_thing 115 = .ok (.getfield 29, 3) := by decide +kernel
theorem dX5_thing_118 : decode cX5_thing 118 = .ok (.getfield 100, 3) := by decide +kernel
theorem dX5_thing_121 : decode cX5_thing 121 = .ok (.iload_n 1, 1) := by decide +kernel
theorem dX5_thing_122 : decode cX5_thing 122 = .ok (.invokestatic 93, 3) := by decide +kernel
theorem dX5_thing_125 : decode cX5_thing 125 = .ok (.ireturn, 1) := by decide +kernel
theorem dX5_thing_126 : decode cX5_thing 126 = .ok (.aload_n 0, 1) := by decide +kernel
theorem dX5_thing_127 : decode cX5_thing 127 = .ok (.invokevirtual 103, 3) := by decide +kernel
theorem dX5_thing_130 : decode cX5_thing 130 = .ok (.iload_n 1, 1) := by decide +kernel
theorem dX5_thing_131 : decode cX5_thing 131 = .ok (.invokestatic 93, 3) := by decide +kernel
theorem dX5_thing_134 : decode cX5_thing 134 = .ok (.ireturn, 1) := by decide +kernel
theorem dX5_thing_135 : decode cX5_thing 135 = .ok (.aload_n 0, 1) := by decide +kernel
theorem dX5_thing_136 : decode cX5_thing 136 = .ok (.invokevirtual 107, 3) := by decide +kernel
theorem dX5_thing_139 : decode cX5_thing 139 = .ok (.iload_n 1, 1) := by decide +kernel
theorem dX5_thing_140 : decode cX5_thing 140 = .ok (.invokestatic 93, 3) := by decide +kernel
theorem dX5_thing_143 : decode cX5_thing 143 = .ok (.ireturn, 1) := by decide +kernel
theorem dX5_thing_144 : decode cX5_thing 144 = .ok (.iconst (-1), 1) := by decide +kernel
theorem dX5_thing_145 : decode cX5_thing 145 = .ok (.ireturn, 1) := by decide +kernel
set_option maxRecDepth 20000 in
theorem ggX5_now_X5_coveredNow : GoodIn wsX5_now wsX5_coveredNow := goodIn_r _ [12, 5, 1, 3, 13, 14, 15, 16, 17, 18, 19, 20, 21, 22, 23, 24, 48, 49, 50, 51, 52, 53, 54, 55, 56, 57, 58, 59, 60, 61, 62, 66, 67, 68, 69, 70, 71, 72, 73, 74] (by decide +kernel) (by decide +kernel)
set_option maxRecDepth 20000 in
theorem gX5_now_X5_coveredNow : GoodIn wsX5_now (wsV RX5 103 RX5 yX5_coveredNow wsX5_coveredNow) := goodIn_app (goodIn_of _ (by decide +kernel)) ggX5_now_X5_coveredNow
set_option maxRecDepth 20000 in
theorem ggX5_now_X5_ableNow : GoodIn wsX5_now wsX5_ableNow := goodIn_r _ [28, 5, 1, 3, 29, 30, 31, 16, 32, 33, 18, 34, 35, 14, 15, 17, 19, 20, 21, 22, 23, 24, 36, 37, 38, 39, 40, 48, 49, 50, 51, 52, 53, 54, 55, 56, 57, 58, 59, 60, 61, 62, 66, 67, 68, 69, 70, 71, 72, 73, 74] (by decide +kernel) (by decide +kernel)
set_option maxRecDepth 20000 in
theorem gX5_now_X5_ableNow : GoodIn wsX5_now (wsV RX5 107 RX5 yX5_ableNow wsX5_ableNow) := goodIn_app (goodIn_of _ (by decide +kernel)) ggX5_now_X5_ableNow
set_option maxRecDepth 20000 in
theorem ggX5_now_X0_dearTogether : GoodIn wsX5_now wsX0_dearTogether := goodIn_r _ [44, 23, 45, 46, 11, 47, 66, 67, 68, 69, 70, 71, 72, 73, 74] (by decide +kernel) (by decide +kernel)
set_option maxRecDepth 20000 in
theorem gX5_now_X0_dearTogether : GoodIn wsX5_now (wsV RX5 116 RX0 yX0_dearTogether wsX0_dearTogether) := goodIn_app (goodIn_of _ (by decide +kernel)) ggX5_now_X0_dearTogether
theorem dX5_now_0 : decode cX5_now 0 = .ok (.iload_n 1, 1) := by decide +kernel
theorem dX5_now_1 : decode cX5_now 1 = .ok (.tableswitch 100 0 6 #[43, 51, 59, 64, 69, 77, 92], 43) := by decide +kernel
theorem dX5_now_44 : decode cX5_now 44 = .ok (.aload_n 0, 1) := by decide +kernel
theorem dX5_now_45 : decode cX5_now 45 = .ok (.getfield 29, 3) := by decide +kernel
theorem dX5_now_48 : decode cX5_now 48 = .ok (.getfield 110, 3) := by decide +kernel
theorem dX5_now_51 : decode cX5_now 51 = .ok (.ireturn, 1) := by decide +kernel
theorem dX5_now_52 : decode cX5_now 52 = .ok (.aload_n 0, 1) := by decide +kernel
theorem dX5_now_53 : decode cX5_now 53 = .ok (.getfield 29, 3) := by decide +kernel
theorem dX5_now_56 : decode cX5_now 56 = .ok (.getfield 113, 3) := by decide +kernel
theorem dX5_now_59 : decode cX5_now 59 = .ok (.ireturn, 1) := by decide +kernel
theorem dX5_now_60 : decode cX5_now 60 = .ok (.aload_n 0, 1) := by decide +kernel
theorem dX5_now_61 : decode cX5_now 61 = .ok (.invokevirtual 103, 3) := by decide +kernel
theorem dX5_now_64 : decode cX5_now 64 = .ok (.ireturn, 1) := by decide +kernel
theorem dX5_now_65 : decode cX5_now 65 = .ok (.aload_n 0, 1) := by decide +kernel
theorem dX5_now_66 : decode cX5_now 66 = .ok (.invokevirtual 107, 3) := by decide +kernel
theorem dX5_now_69 : decode cX5_now 69 = .ok (.ireturn, 1) := by decide +kernel
theorem dX5_now_70 : decode cX5_now 70 = .ok (.aload_n 0, 1) := by decide +kernel
theorem dX5_now_71 : decode cX5_now 71 = .ok (.getfield 29, 3) := by decide +kernel
theorem dX5_now_74 : decode cX5_now 74 = .ok (.getfield 100, 3) := by decide +kernel
theorem dX5_now_77 : decode cX5_now 77 = .ok (.ireturn, 1) := by decide +kernel
theorem dX5_now_78 : decode cX5_now 78 = .ok (.aload_n 0, 1) := by decide +kernel
theorem dX5_now_79 : decode cX5_now 79 = .ok (.getfield 10, 3) := by decide +kernel
theorem dX5_now_82 : decode cX5_now 82 = .ok (.aload_n 0, 1) := by decide +kernel
theorem dX5_now_83 : decode cX5_now 83 = .ok (.getfield 29, 3) := by decide +kernel
theorem dX5_now_86 : decode cX5_now 86 = .ok (.getfield 100, 3) := by decide +kernel
theorem dX5_now_89 : decode cX5_now 89 = .ok (.invokevirtual 116, 3) := by decide +kernel
theorem dX5_now_92 : decode cX5_now 92 = .ok (.ireturn, 1) := by decide +kernel
theorem dX5_now_93 : decode cX5_now 93 = .ok (.aload_n 0, 1) := by decide +kernel
theorem dX5_now_94 : decode cX5_now 94 = .ok (.getfield 39, 3) := by decide +kernel
theorem dX5_now_97 : decode cX5_now 97 = .ok (.getfield 120, 3) := by decide +kernel
theorem dX5_now_100 : decode cX5_now 100 = .ok (.ireturn, 1) := by decide +kernel
theorem dX5_now_101 : decode cX5_now 101 = .ok (.iconst (-1), 1) := by decide +kernel
theorem dX5_now_102 : decode cX5_now 102 = .ok (.ireturn, 1) := by decide +kernel
set_option maxRecDepth 20000 in
theorem ggX5_swears_X5_areWords : GoodIn wsX5_swears wsX5_areWords := goodIn_r _ [7] (by decide +kernel) (by decide +kernel)
set_option maxRecDepth 20000 in
theorem gX5_swears_X5_areWords : GoodIn wsX5_swears (va_wsS RX5 123 yX5_areWords wsX5_areWords) := goodIn_app (goodIn_of _ (by decide +kernel)) ggX5_swears_X5_areWords
set_option maxRecDepth 20000 in
theorem ggX5_swears_X1_push : GoodIn wsX5_swears wsX1_push := goodIn_r _ [12, 13, 14, 15, 16, 17, 18, 19, 20, 21, 22, 23, 24, 25, 26, 27, 28, 29, 69, 70, 71, 64, 65, 66, 67, 68] (by decide +kernel) (by decide +kernel)
set_option maxRecDepth 20000 in
theorem gX5_swears_X1_push : GoodIn wsX5_swears (wsV RX5 126 RX1 yX1_push wsX1_push) := goodIn_app (goodIn_of _ (by decide +kernel)) ggX5_swears_X1_push
set_option maxRecDepth 20000 in
theorem ggX5_swears_X5_coveredNow : GoodIn wsX5_swears wsX5_coveredNow := goodIn_r _ [33, 34, 2, 3, 35, 36, 37, 38, 39, 40, 41, 42, 43, 44, 45, 46, 54, 55, 56, 57, 58, 59, 60, 61, 62, 63, 64, 65, 66, 67, 68, 72, 73, 74, 75, 76, 77, 78, 79, 80] (by decide +kernel) (by decide +kernel)
set_option maxRecDepth 20000 in
theorem gX5_swears_X5_coveredNow : GoodIn wsX5_swears (wsV RX5 103 RX5 yX5_coveredNow wsX5_coveredNow) := goodIn_app (goodIn_of _ (by decide +kernel)) ggX5_swears_X5_coveredNow
set_option maxRecDepth 20000 in
theorem ggX5_swears_J6_bitCount_0f7a4 : GoodIn wsX5_swears wsJ6_bitCount_0f7a4 := goodIn_r _ [50, 51, 52, 53] (by decide +kernel) (by decide +kernel)
set_option maxRecDepth 20000 in
theorem gX5_swears_J6_bitCount_0f7a4 : GoodIn wsX5_swears (va_wsS RX5 130 yJ6_bitCount_0f7a4 wsJ6_bitCount_0f7a4) := goodIn_app (goodIn_of _ (by decide +kernel)) ggX5_swears_J6_bitCount_0f7a4
theorem dX5_swears_0 : decode cX5_swears 0 = .ok (.iload_n 1, 1) := by decide +kernel
theorem dX5_swears_1 : decode cX5_swears 1 = .ok (.invokestatic 123, 3) := by decide +kernel
theorem dX5_swears_4 : decode cX5_swears 4 = .ok (.ifCond .ne 5, 3) := by decide +kernel
theorem dX5_swears_7 : decode cX5_swears 7 = .ok (.iconst (-1), 1) := by decide +kernel
theorem dX5_swears_8 : decode cX5_swears 8 = .ok (.ireturn, 1) := by decide +kernel
theorem dX5_swears_9 : decode cX5_swears 9 = .ok (.aload_n 0, 1) := by decide +kernel
theorem dX5_swears_10 : decode cX5_swears 10 = .ok (.getfield 39, 3) := by decide +kernel
theorem dX5_swears_13 : decode cX5_swears 13 = .ok (.aload_n 0, 1) := by decide +kernel
theorem dX5_swears_14 : decode cX5_swears 14 = .ok (.getfield 29, 3) := by decide +kernel
theorem dX5_swears_17 : decode cX5_swears 17 = .ok (.invokevirtual 126, 3) := by decide +kernel
theorem dX5_swears_20 : decode cX5_swears 20 = .ok (.aload_n 0, 1) := by decide +kernel
theorem dX5_swears_21 : decode cX5_swears 21 = .ok (.getfield 29, 3) := by decide +kernel
theorem dX5_swears_24 : decode cX5_swears 24 = .ok (.iload_n 1, 1) := by decide +kernel
theorem dX5_swears_25 : decode cX5_swears 25 = .ok (.putfield 113, 3) := by decide +kernel
theorem dX5_swears_28 : decode cX5_swears 28 = .ok (.aload_n 0, 1) := by decide +kernel
theorem dX5_swears_29 : decode cX5_swears 29 = .ok (.invokevirtual 103, 3) := by decide +kernel
theorem dX5_swears_32 : decode cX5_swears 32 = .ok (.invokestatic 130, 3) := by decide +kernel
theorem dX5_swears_35 : decode cX5_swears 35 = .ok (.ireturn, 1) := by decide +kernel
set_option maxRecDepth 20000 in
theorem ggX5_keepsIn_X0_holds : GoodIn wsX5_keepsIn wsX0_holds := goodIn_r _ [9, 10, 58, 59, 60, 61, 62, 63, 64, 65, 66] (by decide +kernel) (by decide +kernel)
set_option maxRecDepth 20000 in
theorem gX5_keepsIn_X0_holds : GoodIn wsX5_keepsIn (wsV RX5 77 RX0 yX0_holds wsX0_holds) := goodIn_app (goodIn_of _ (by decide +kernel)) ggX5_keepsIn_X0_holds
set_option maxRecDepth 20000 in
theorem ggX5_keepsIn_X5_isYesOrNo : GoodIn wsX5_keepsIn wsX5_isYesOrNo := goodIn_r _ [14] (by decide +kernel) (by decide +kernel)
set_option maxRecDepth 20000 in
theorem gX5_keepsIn_X5_isYesOrNo : GoodIn wsX5_keepsIn (va_wsS RX5 135 yX5_isYesOrNo wsX5_isYesOrNo) := goodIn_app (goodIn_of _ (by decide +kernel)) ggX5_keepsIn_X5_isYesOrNo
set_option maxRecDepth 20000 in
theorem ggX5_keepsIn_X1_push : GoodIn wsX5_keepsIn wsX1_push := goodIn_r _ [19, 20, 21, 22, 23, 24, 25, 26, 27, 28, 29, 30, 31, 32, 33, 34, 35, 36, 67, 68, 69, 53, 54, 55, 56, 57] (by decide +kernel) (by decide +kernel)
set_option maxRecDepth 20000 in
theorem gX5_keepsIn_X1_push : GoodIn wsX5_keepsIn (wsV RX5 126 RX1 yX1_push wsX1_push) := goodIn_app (goodIn_of _ (by decide +kernel)) ggX5_keepsIn_X1_push
set_option maxRecDepth 20000 in
theorem ggX5_keepsIn_X5_bitOf : GoodIn wsX5_keepsIn wsX5_bitOf := goodIn_r _ [39] (by decide +kernel) (by decide +kernel)
set_option maxRecDepth 20000 in
theorem gX5_keepsIn_X5_bitOf : GoodIn wsX5_keepsIn (va_wsS RX5 93 yX5_bitOf wsX5_bitOf) := goodIn_app (goodIn_of _ (by decide +kernel)) ggX5_keepsIn_X5_bitOf
set_option maxRecDepth 20000 in
theorem ggX5_keepsIn_X5_withBit : GoodIn wsX5_keepsIn wsX5_withBit := goodIn_r _ [42] (by decide +kernel) (by decide +kernel)
set_option maxRecDepth 20000 in
theorem gX5_keepsIn_X5_withBit : GoodIn wsX5_keepsIn (va_wsS RX5 138 yX5_withBit wsX5_withBit) := goodIn_app (goodIn_of _ (by decide +kernel)) ggX5_keepsIn_X5_withBit
theorem dX5_keepsIn_0 : decode cX5_keepsIn 0 = .ok (.aload_n 0, 1) := by decide +kernel
theorem dX5_keepsIn_1 : decode cX5_keepsIn 1 = .ok (.getfield 10, 3) := by decide +kernel
theorem dX5_keepsIn_4 : decode cX5_keepsIn 4 = .ok (.iload_n 1, 1) := by decide +kernel
theorem dX5_keepsIn_5 : decode cX5_keepsIn 5 = .ok (.invokevirtual 77, 3) := by decide +kernel
theorem dX5_keepsIn_8 : decode cX5_keepsIn 8 = .ok (.ifCond .eq 10, 3) := by decide +kernel
theorem dX5_keepsIn_11 : decode cX5_keepsIn 11 = .ok (.iload_n 2, 1) := by decide +kernel
theorem dX5_keepsIn_12 : decode cX5_keepsIn 12 = .ok (.invokestatic 135, 3) := by decide +kernel
theorem dX5_keepsIn_15 : decode cX5_keepsIn 15 = .ok (.ifCond .ne 5, 3) := by decide +kernel
theorem dX5_keepsIn_18 : decode cX5_keepsIn 18 = .ok (.iconst (-1), 1) := by decide +kernel
theorem dX5_keepsIn_19 : decode cX5_keepsIn 19 = .ok (.ireturn, 1) := by decide +kernel
theorem dX5_keepsIn_20 : decode cX5_keepsIn 20 = .ok (.aload_n 0, 1) := by decide +kernel
theorem dX5_keepsIn_21 : decode cX5_keepsIn 21 = .ok (.getfield 39, 3) := by decide +kernel
theorem dX5_keepsIn_24 : decode cX5_keepsIn 24 = .ok (.aload_n 0, 1) := by decide +kernel
theorem dX5_keepsIn_25 : decode cX5_keepsIn 25 = .ok (.getfield 29, 3) := by decide +kernel
theorem dX5_keepsIn_28 : decode cX5_keepsIn 28 = .ok (.invokevirtual 126, 3) := by decide +kernel
theorem dX5_keepsIn_31 : decode cX5_keepsIn 31 = .ok (.aload_n 0, 1) := by decide +kernel
theorem dX5_keepsIn_32 : decode cX5_keepsIn 32 = .ok (.getfield 29, 3) := by decide +kernel
theorem dX5_keepsIn_35 : decode cX5_keepsIn 35 = .ok (.getfield 97, 3) := by decide +kernel
theorem dX5_keepsIn_38 : decode cX5_keepsIn 38 = .ok (.iload_n 1, 1) := by decide +kernel
theorem dX5_keepsIn_39 : decode cX5_keepsIn 39 = .ok (.invokestatic 93, 3) := by decide +kernel
theorem dX5_keepsIn_42 : decode cX5_keepsIn 42 = .ok (.istore_n 3, 1) := by decide +kernel
theorem dX5_keepsIn_43 : decode cX5_keepsIn 43 = .ok (.aload_n 0, 1) := by decide +kernel
theorem dX5_keepsIn_44 : decode cX5_keepsIn 44 = .ok (.getfield 29, 3) := by decide +kernel
theorem dX5_keepsIn_47 : decode cX5_keepsIn 47 = .ok (.aload_n 0, 1) := by decide +kernel
theorem dX5_keepsIn_48 : decode cX5_keepsIn 48 = .ok (.getfield 29, 3) := by decide +kernel
theorem dX5_keepsIn_51 : decode cX5_keepsIn 51 = .ok (.getfield 97, 3) := by decide +kernel
theorem dX5_keepsIn_54 : decode cX5_keepsIn 54 = .ok (.iload_n 1, 1) := by decide +kernel
theorem dX5_keepsIn_55 : decode cX5_keepsIn 55 = .ok (.iload_n 2, 1) := by decide +kernel
theorem dX5_keepsIn_56 : decode cX5_keepsIn 56 = .ok (.invokestatic 138, 3) := by decide +kernel
theorem dX5_keepsIn_59 : decode cX5_keepsIn 59 = .ok (.putfield 97, 3) := by decide +kernel
theorem dX5_keepsIn_62 : decode cX5_keepsIn 62 = .ok (.iload_n 3, 1) := by decide +kernel
theorem dX5_keepsIn_63 : decode cX5_keepsIn 63 = .ok (.ireturn, 1) := by decide +kernel
set_option maxRecDepth 20000 in
theorem ggX5_tells_X0_holds : GoodIn wsX5_tells wsX0_holds := goodIn_r _ [9, 10, 58, 59, 60, 61, 62, 63, 64, 65, 66] (by decide +kernel) (by decide +kernel)
set_option maxRecDepth 20000 in
theorem gX5_tells_X0_holds : GoodIn wsX5_tells (wsV RX5 77 RX0 yX0_holds wsX0_holds) := goodIn_app (goodIn_of _ (by decide +kernel)) ggX5_tells_X0_holds
set_option maxRecDepth 20000 in
theorem ggX5_tells_X5_isYesOrNo : GoodIn wsX5_tells wsX5_isYesOrNo := goodIn_r _ [14] (by decide +kernel) (by decide +kernel)
set_option maxRecDepth 20000 in
theorem gX5_tells_X5_isYesOrNo : GoodIn wsX5_tells (va_wsS RX5 135 yX5_isYesOrNo wsX5_isYesOrNo) := goodIn_app (goodIn_of _ (by decide +kernel)) ggX5_tells_X5_isYesOrNo
set_option maxRecDepth 20000 in
theorem ggX5_tells_X1_push : GoodIn wsX5_tells wsX1_push := goodIn_r _ [19, 20, 21, 22, 23, 24, 25, 26, 27, 28, 29, 30, 31, 32, 33, 34, 35, 36, 67, 68, 69, 53, 54, 55, 56, 57] (by decide +kernel) (by decide +kernel)
set_option maxRecDepth 20000 in
theorem gX5_tells_X1_push : GoodIn wsX5_tells (wsV RX5 126 RX1 yX1_push wsX1_push) := goodIn_app (goodIn_of _ (by decide +kernel)) ggX5_tells_X1_push
set_option maxRecDepth 20000 in
theorem ggX5_tells_X5_bitOf : GoodIn wsX5_tells wsX5_bitOf := goodIn_r _ [39] (by decide +kernel) (by decide +kernel)
set_option maxRecDepth 20000 in
theorem gX5_tells_X5_bitOf : GoodIn wsX5_tells (va_wsS RX5 93 yX5_bitOf wsX5_bitOf) := goodIn_app (goodIn_of _ (by decide +kernel)) ggX5_tells_X5_bitOf
set_option maxRecDepth 20000 in
theorem ggX5_tells_X5_withBit : GoodIn wsX5_tells wsX5_withBit := goodIn_r _ [42] (by decide +kernel) (by decide +kernel)
set_option maxRecDepth 20000 in
theorem gX5_tells_X5_withBit : GoodIn wsX5_tells (va_wsS RX5 138 yX5_withBit wsX5_withBit) := goodIn_app (goodIn_of _ (by decide +kernel)) ggX5_tells_X5_withBit
theorem dX5_tells_0 : decode cX5_tells 0 = .ok (.aload_n 0, 1) := by decide +kernel
theorem dX5_tells_1 : decode cX5_tells 1 = .ok (.getfield 10, 3) := by decide +kernel
theorem dX5_tells_4 : decode cX5_tells 4 = .ok (.iload_n 1, 1) := by decide +kernel
theorem dX5_tells_5 : decode cX5_tells 5 = .ok (.invokevirtual 77, 3) := by decide +kernel
theorem dX5_tells_8 : decode cX5_tells 8 = .ok (.ifCond .eq 10, 3) := by decide +kernel
theorem dX5_tells_11 : decode cX5_tells 11 = .ok (.iload_n 2, 1) := by decide +kernel
theorem dX5_tells_12 : decode cX5_tells 12 = .ok (.invokestatic 135, 3) := by decide +kernel
theorem dX5_tells_15 : decode cX5_tells 15 = .ok (.ifCond .ne 5, 3) := by decide +kernel
theorem dX5_tells_18 : decode cX5_tells 18 = .ok (.iconst (-1), 1) := by decide +kernel
theorem dX5_tells_19 : decode cX5_tells 19 = .ok (.ireturn, 1) := by decide +kernel
theorem dX5_tells_20 : decode cX5_tells 20 = .ok (.aload_n 0, 1) := by decide +kernel
theorem dX5_tells_21 : decode cX5_tells 21 = .ok (.getfield 39, 3) := by decide +kernel
theorem dX5_tells_24 : decode cX5_tells 24 = .ok (.aload_n 0, 1) := by decide +kernel
theorem dX5_tells_25 : decode cX5_tells 25 = .ok (.getfield 29, 3) := by decide +kernel
theorem dX5_tells_28 : decode cX5_tells 28 = .ok (.invokevirtual 126, 3) := by decide +kernel
theorem dX5_tells_31 : decode cX5_tells 31 = .ok (.aload_n 0, 1) := by decide +kernel
theorem dX5_tells_32 : decode cX5_tells 32 = .ok (.getfield 29, 3) := by decide +kernel
theorem dX5_tells_35 : decode cX5_tells 35 = .ok (.getfield 90, 3) := by decide +kernel
theorem dX5_tells_38 : decode cX5_tells 38 = .ok (.iload_n 1, 1) := by decide +kernel
theorem dX5_tells_39 : decode cX5_tells 39 = .ok (.invokestatic 93, 3) := by decide +kernel
theorem dX5_tells_42 : decode cX5_tells 42 = .ok (.istore_n 3, 1) := by decide +kernel
theorem dX5_tells_43 : decode cX5_tells 43 = .ok (.aload_n 0, 1) := by decide +kernel
theorem dX5_tells_44 : decode cX5_tells 44 = .ok (.getfield 29, 3) := by decide +kernel
theorem dX5_tells_47 : decode cX5_tells 47 = .ok (.aload_n 0, 1) := by decide +kernel
theorem dX5_tells_48 : decode cX5_tells 48 = .ok (.getfield 29, 3) := by decide +kernel
theorem dX5_tells_51 : decode cX5_tells 51 = .ok (.getfield 90, 3) := by decide +kernel
theorem dX5_tells_54 : decode cX5_tells 54 = .ok (.iload_n 1, 1) := by decide +kernel
theorem dX5_tells_55 : decode cX5_tells 55 = .ok (.iload_n 2, 1) := by decide +kernel
theorem dX5_tells_56 : decode cX5_tells 56 = .ok (.invokestatic 138, 3) := by decide +kernel
theorem dX5_tells_59 : decode cX5_tells 59 = .ok (.putfield 90, 3) := by decide +kernel
theorem dX5_tells_62 : decode cX5_tells 62 = .ok (.iload_n 3, 1) := by decide +kernel
theorem dX5_tells_63 : decode cX5_tells 63 = .ok (.ireturn, 1) := by decide +kernel
set_option maxRecDepth 20000 in
theorem ggX5_day_X5_isZ : GoodIn wsX5_day wsX5_isZ := goodIn_r _ [7] (by decide +kernel) (by decide +kernel)
set_option maxRecDepth 20000 in
theorem gX5_day_X5_isZ : GoodIn wsX5_day (va_wsS RX5 142 yX5_isZ wsX5_isZ) := goodIn_app (goodIn_of _ (by decide +kernel)) ggX5_day_X5_isZ
set_option maxRecDepth 20000 in
theorem ggX5_day_X1_push : GoodIn wsX5_day wsX1_push := goodIn_r _ [12, 13, 14, 15, 16, 17, 18, 19, 20, 21, 22, 23, 24, 25, 26, 27, 28, 29, 93, 94, 95, 88, 89, 90, 91, 92] (by decide +kernel) (by decide +kernel)
set_option maxRecDepth 20000 in
theorem gX5_day_X1_push : GoodIn wsX5_day (wsV RX5 126 RX1 yX1_push wsX1_push) := goodIn_app (goodIn_of _ (by decide +kernel)) ggX5_day_X1_push
set_option maxRecDepth 20000 in
theorem ggX5_day_X5_passDay : GoodIn wsX5_day wsX5_passDay := goodIn_r _ [33, 34, 35, 2, 36, 37, 38, 39, 40, 41, 42, 43, 44, 45, 46, 47, 48, 49, 50, 51, 52, 53, 54, 55, 56, 57, 58, 59, 60, 61, 62, 63, 64, 6, 65, 66, 67, 68, 69, 70, 71, 72, 73, 74, 75, 76, 77, 78, 79, 80, 81, 82, 83, 84, 85, 86, 87, 88, 89, 90, 91, 92, 96, 97, 98, 99, 100, 101, 102, 103, 104] (by decide +kernel) (by decide +kernel)
set_option maxRecDepth 20000 in
theorem gX5_day_X5_passDay : GoodIn wsX5_day (wsV RX5 145 RX5 yX5_passDay wsX5_passDay) := goodIn_app (goodIn_of _ (by decide +kernel)) ggX5_day_X5_passDay
theorem dX5_day_0 : decode cX5_day 0 = .ok (.iload_n 1, 1) := by decide +kernel
theorem dX5_day_1 : decode cX5_day 1 = .ok (.invokestatic 142, 3) := by decide +kernel
theorem dX5_day_4 : decode cX5_day 4 = .ok (.ifCond .ne 5, 3) := by decide +kernel
theorem dX5_day_7 : decode cX5_day 7 = .ok (.iconst (-1), 1) := by decide +kernel
theorem dX5_day_8 : decode cX5_day 8 = .ok (.ireturn, 1) := by decide +kernel
theorem dX5_day_9 : decode cX5_day 9 = .ok (.aload_n 0, 1) := by decide +kernel
theorem dX5_day_10 : decode cX5_day 10 = .ok (.getfield 29, 3) := by decide +kernel
theorem dX5_day_13 : decode cX5_day 13 = .ok (.getfield 110, 3) := by decide +kernel
theorem dX5_day_16 : decode cX5_day 16 = .ok (.sipush 999, 3) := by decide +kernel
theorem dX5_day_19 : decode cX5_day 19 = .ok (.if_icmp .lt 6, 3) := by decide +kernel
theorem dX5_day_22 : decode cX5_day 22 = .ok (.bipush (-2), 2) := by decide +kernel
theorem dX5_day_24 : decode cX5_day 24 = .ok (.ireturn, 1) := by decide +kernel
theorem dX5_day_25 : decode cX5_day 25 = .ok (.aload_n 0, 1) := by decide +kernel
theorem dX5_day_26 : decode cX5_day 26 = .ok (.getfield 39, 3) := by decide +kernel
theorem dX5_day_29 : decode cX5_day 29 = .ok (.aload_n 0, 1) := by decide +kernel
theorem dX5_day_30 : decode cX5_day 30 = .ok (.getfield 29, 3) := by decide +kernel
theorem dX5_day_33 : decode cX5_day 33 = .ok (.invokevirtual 126, 3) := by decide +kernel
theorem dX5_day_36 : decode cX5_day 36 = .ok (.aload_n 0, 1) := by decide +kernel
theorem dX5_day_37 : decode cX5_day 37 = .ok (.aload_n 0, 1) := by decide +kernel
theorem dX5_day_38 : decode cX5_day 38 = .ok (.getfield 29, 3) := by decide +kernel
theorem dX5_day_41 : decode cX5_day 41 = .ok (.iload_n 1, 1) := by decide +kernel
theorem dX5_day_42 : decode cX5_day 42 = .ok (.invokevirtual 145, 3) := by decide +kernel
theorem dX5_day_45 : decode cX5_day 45 = .ok (.ireturn, 1) := by decide +kernel
set_option maxRecDepth 20000 in
theorem ggX5_undo_X1_pop : GoodIn wsX5_undo wsX1_pop := goodIn_r _ [8, 9, 10, 11, 12, 13, 14, 15, 16, 17, 18, 19, 20, 21, 32, 33, 34, 35, 36, 37, 38, 39] (by decide +kernel) (by decide +kernel)
set_option maxRecDepth 20000 in
theorem gX5_undo_X1_pop : GoodIn wsX5_undo (wsV RX5 149 RX1 yX1_pop wsX1_pop) := goodIn_app (goodIn_of _ (by decide +kernel)) ggX5_undo_X1_pop
theorem dX5_undo_0 : decode cX5_undo 0 = .ok (.aload_n 0, 1) := by decide +kernel
theorem dX5_undo_1 : decode cX5_undo 1 = .ok (.getfield 39, 3) := by decide +kernel
theorem dX5_undo_4 : decode cX5_undo 4 = .ok (.getfield 120, 3) := by decide +kernel
theorem dX5_undo_7 : decode cX5_undo 7 = .ok (.ifCond .ne 6, 3) := by decide +kernel
theorem dX5_undo_10 : decode cX5_undo 10 = .ok (.bipush (-2), 2) := by decide +kernel
theorem dX5_undo_12 : decode cX5_undo 12 = .ok (.ireturn, 1) := by decide +kernel
theorem dX5_undo_13 : decode cX5_undo 13 = .ok (.aload_n 0, 1) := by decide +kernel
theorem dX5_undo_14 : decode cX5_undo 14 = .ok (.getfield 39, 3) := by decide +kernel
theorem dX5_undo_17 : decode cX5_undo 17 = .ok (.aload_n 0, 1) := by decide +kernel
theorem dX5_undo_18 : decode cX5_undo 18 = .ok (.getfield 29, 3) := by decide +kernel
theorem dX5_undo_21 : decode cX5_undo 21 = .ok (.invokevirtual 149, 3) := by decide +kernel
theorem dX5_undo_24 : decode cX5_undo 24 = .ok (.aload_n 0, 1) := by decide +kernel
theorem dX5_undo_25 : decode cX5_undo 25 = .ok (.getfield 39, 3) := by decide +kernel
theorem dX5_undo_28 : decode cX5_undo 28 = .ok (.getfield 120, 3) := by decide +kernel
theorem dX5_undo_31 : decode cX5_undo 31 = .ok (.ireturn, 1) := by decide +kernel
set_option maxRecDepth 20000 in
theorem ggX5_harm_X5_isYesOrNo : GoodIn wsX5_harm wsX5_isYesOrNo := goodIn_r _ [5] (by decide +kernel) (by decide +kernel)
set_option maxRecDepth 20000 in
theorem gX5_harm_X5_isYesOrNo : GoodIn wsX5_harm (va_wsS RX5 135 yX5_isYesOrNo wsX5_isYesOrNo) := goodIn_app (goodIn_of _ (by decide +kernel)) ggX5_harm_X5_isYesOrNo
set_option maxRecDepth 20000 in
theorem ggX5_harm_X5_ableNow : GoodIn wsX5_harm wsX5_ableNow := goodIn_r _ [9, 1, 10, 11, 12, 13, 14, 15, 16, 17, 18, 19, 20, 21, 22, 23, 24, 25, 26, 27, 28, 29, 30, 31, 32, 33, 34, 68, 69, 70, 71, 72, 73, 74, 75, 76, 77, 78, 79, 80, 81, 82, 83, 84, 85, 86, 87, 88, 89, 90, 91] (by decide +kernel) (by decide +kernel)
set_option maxRecDepth 20000 in
theorem gX5_harm_X5_ableNow : GoodIn wsX5_harm (wsV RX5 107 RX5 yX5_ableNow wsX5_ableNow) := goodIn_app (goodIn_of _ (by decide +kernel)) ggX5_harm_X5_ableNow
set_option maxRecDepth 20000 in
theorem ggX5_harm_X5_coveredNow : GoodIn wsX5_harm wsX5_coveredNow := goodIn_r _ [38, 1, 10, 11, 39, 21, 22, 15, 23, 18, 24, 25, 26, 27, 28, 29, 68, 69, 70, 71, 72, 73, 74, 75, 76, 77, 78, 79, 80, 81, 82, 83, 84, 85, 86, 87, 88, 89, 90, 91] (by decide +kernel) (by decide +kernel)
set_option maxRecDepth 20000 in
theorem gX5_harm_X5_coveredNow : GoodIn wsX5_harm (wsV RX5 103 RX5 yX5_coveredNow wsX5_coveredNow) := goodIn_app (goodIn_of _ (by decide +kernel)) ggX5_harm_X5_coveredNow
set_option maxRecDepth 20000 in
theorem ggX5_harm_X0_harmUpper : GoodIn wsX5_harm wsX0_harmUpper := goodIn_r _ [43, 28, 44, 34, 45, 4, 46, 83, 84, 85, 86, 87, 88, 89, 90, 91] (by decide +kernel) (by decide +kernel)
set_option maxRecDepth 20000 in
theorem gX5_harm_X0_harmUpper : GoodIn wsX5_harm (wsV RX5 152 RX0 yX0_harmUpper wsX0_harmUpper) := goodIn_app (goodIn_of _ (by decide +kernel)) ggX5_harm_X0_harmUpper
set_option maxRecDepth 20000 in
theorem ggX5_harm_X0_shares : GoodIn wsX5_harm wsX0_shares := goodIn_r _ [50, 51, 52, 53, 54, 55, 56, 57, 15, 58, 28, 34, 45, 4, 46, 83, 84, 85, 86, 87, 88, 89, 90, 91] (by decide +kernel) (by decide +kernel)
set_option maxRecDepth 20000 in
theorem gX5_harm_X0_shares : GoodIn wsX5_harm (wsV RX5 155 RX0 yX0_shares wsX0_shares) := goodIn_app (goodIn_of _ (by decide +kernel)) ggX5_harm_X0_shares
set_option maxRecDepth 20000 in
theorem ggX5_harm_X5_partOf : GoodIn wsX5_harm wsX5_partOf := goodIn_r _ [61, 62, 63, 53, 64, 65, 66, 4, 67] (by decide +kernel) (by decide +kernel)
set_option maxRecDepth 20000 in
theorem gX5_harm_X5_partOf : GoodIn wsX5_harm (va_wsS RX5 158 yX5_partOf wsX5_partOf) := goodIn_app (goodIn_of _ (by decide +kernel)) ggX5_harm_X5_partOf
theorem dX5_harm_0 : decode cX5_harm 0 = .ok (.iload_n 1, 1) := by decide +kernel
theorem dX5_harm_1 : decode cX5_harm 1 = .ok (.invokestatic 135, 3) := by decide +kernel
theorem dX5_harm_4 : decode cX5_harm 4 = .ok (.ifCond .ne 5, 3) := by decide +kernel
theorem dX5_harm_7 : decode cX5_harm 7 = .ok (.iconst (-1), 1) := by decide +kernel
theorem dX5_harm_8 : decode cX5_harm 8 = .ok (.ireturn, 1) := by decide +kernel
theorem dX5_harm_9 : decode cX5_harm 9 = .ok (.aload_n 0, 1) := by decide +kernel
theorem dX5_harm_10 : decode cX5_harm 10 = .ok (.invokevirtual 107, 3) := by decide +kernel
theorem dX5_harm_13 : decode cX5_harm 13 = .ok (.istore_n 2, 1) := by decide +kernel
theorem dX5_harm_14 : decode cX5_harm 14 = .ok (.aload_n 0, 1) := by decide +kernel
theorem dX5_harm_15 : decode cX5_harm 15 = .ok (.getfield 10, 3) := by decide +kernel
theorem dX5_harm_18 : decode cX5_harm 18 = .ok (.iload_n 2, 1) := by decide +kernel
theorem dX5_harm_19 : decode cX5_harm 19 = .ok (.aload_n 0, 1) := by decide +kernel
theorem dX5_harm_20 : decode cX5_harm 20 = .ok (.invokevirtual 103, 3) := by decide +kernel
theorem dX5_harm_23 : decode cX5_harm 23 = .ok (.invokevirtual 152, 3) := by decide +kernel
theorem dX5_harm_26 : decode cX5_harm 26 = .ok (.aload_n 0, 1) := by decide +kernel
theorem dX5_harm_27 : decode cX5_harm 27 = .ok (.getfield 10, 3) := by decide +kernel
theorem dX5_harm_30 : decode cX5_harm 30 = .ok (.iload_n 2, 1) := by decide +kernel
theorem dX5_harm_31 : decode cX5_harm 31 = .ok (.invokevirtual 155, 3) := by decide +kernel
theorem dX5_harm_34 : decode cX5_harm 34 = .ok (.iload_n 1, 1) := by decide +kernel
theorem dX5_harm_35 : decode cX5_harm 35 = .ok (.invokestatic 158, 3) := by decide +kernel
theorem dX5_harm_38 : decode cX5_harm 38 = .ok (.ireturn, 1) := by decide +kernel
set_option maxRecDepth 20000 in
theorem ggX5_odds_X0_holds : GoodIn wsX5_odds wsX0_holds := goodIn_r _ [7, 8, 74, 75, 76, 77, 78, 79, 80, 81, 82] (by decide +kernel) (by decide +kernel)
set_option maxRecDepth 20000 in
theorem gX5_odds_X0_holds : GoodIn wsX5_odds (wsV RX5 77 RX0 yX0_holds wsX0_holds) := goodIn_app (goodIn_of _ (by decide +kernel)) ggX5_odds_X0_holds
set_option maxRecDepth 20000 in
theorem ggX5_odds_X5_isYesOrNo : GoodIn wsX5_odds wsX5_isYesOrNo := goodIn_r _ [12] (by decide +kernel) (by decide +kernel)
set_option maxRecDepth 20000 in
theorem gX5_odds_X5_isYesOrNo : GoodIn wsX5_odds (va_wsS RX5 135 yX5_isYesOrNo wsX5_isYesOrNo) := goodIn_app (goodIn_of _ (by decide +kernel)) ggX5_odds_X5_isYesOrNo
set_option maxRecDepth 20000 in
theorem ggX5_odds_X5_ableNow : GoodIn wsX5_odds wsX5_ableNow := goodIn_r _ [16, 1, 17, 18, 19, 20, 21, 6, 22, 23, 24, 25, 26, 27, 28, 29, 30, 31, 32, 33, 8, 34, 35, 36, 37, 38, 39, 64, 65, 66, 67, 68, 69, 70, 71, 72, 73, 83, 84, 85, 86, 87, 74, 75, 76, 77, 78, 79, 80, 81, 82] (by decide +kernel) (by decide +kernel)
set_option maxRecDepth 20000 in
theorem gX5_odds_X5_ableNow : GoodIn wsX5_odds (wsV RX5 107 RX5 yX5_ableNow wsX5_ableNow) := goodIn_app (goodIn_of _ (by decide +kernel)) ggX5_odds_X5_ableNow
set_option maxRecDepth 20000 in
theorem ggX5_odds_X5_bitOf : GoodIn wsX5_odds wsX5_bitOf := goodIn_r _ [42] (by decide +kernel) (by decide +kernel)
set_option maxRecDepth 20000 in
theorem gX5_odds_X5_bitOf : GoodIn wsX5_odds (va_wsS RX5 93 yX5_bitOf wsX5_bitOf) := goodIn_app (goodIn_of _ (by decide +kernel)) ggX5_odds_X5_bitOf
set_option maxRecDepth 20000 in
theorem ggX5_odds_X0_shares : GoodIn wsX5_odds wsX0_shares := goodIn_r _ [46, 47, 48, 49, 50, 51, 52, 53, 6, 54, 8, 39, 41, 11, 42, 74, 75, 76, 77, 78, 79, 80, 81, 82] (by decide +kernel) (by decide +kernel)
set_option maxRecDepth 20000 in
theorem gX5_odds_X0_shares : GoodIn wsX5_odds (wsV RX5 155 RX0 yX0_shares wsX0_shares) := goodIn_app (goodIn_of _ (by decide +kernel)) ggX5_odds_X0_shares
set_option maxRecDepth 20000 in
theorem ggX5_odds_X5_partOf : GoodIn wsX5_odds wsX5_partOf := goodIn_r _ [57, 58, 59, 49, 60, 61, 62, 11, 63] (by decide +kernel) (by decide +kernel)
set_option maxRecDepth 20000 in
theorem gX5_odds_X5_partOf : GoodIn wsX5_odds (va_wsS RX5 158 yX5_partOf wsX5_partOf) := goodIn_app (goodIn_of _ (by decide +kernel)) ggX5_odds_X5_partOf
theorem dX5_odds_0 : decode cX5_odds 0 = .ok (.aload_n 0, 1) := by decide +kernel
theorem dX5_odds_1 : decode cX5_odds 1 = .ok (.getfield 10, 3) := by decide +kernel
theorem dX5_odds_4 : decode cX5_odds 4 = .ok (.iload_n 1, 1) := by decide +kernel
theorem dX5_odds_5 : decode cX5_odds 5 = .ok (.invokevirtual 77, 3) := by decide +kernel
theorem dX5_odds_8 : decode cX5_odds 8 = .ok (.ifCond .eq 10, 3) := by decide +kernel
theorem dX5_odds_11 : decode cX5_odds 11 = .ok (.iload_n 2, 1) := by decide +kernel
theorem dX5_odds_12 : decode cX5_odds 12 = .ok (.invokestatic 135, 3) := by decide +kernel
theorem dX5_odds_15 : decode cX5_odds 15 = .ok (.ifCond .ne 5, 3) := by decide +kernel
theorem dX5_odds_18 : decode cX5_odds 18 = .ok (.iconst (-1), 1) := by decide +kernel
theorem dX5_odds_19 : decode cX5_odds 19 = .ok (.ireturn, 1) := by decide +kernel
theorem dX5_odds_20 : decode cX5_odds 20 = .ok (.aload_n 0, 1) := by decide +kernel
theorem dX5_odds_21 : decode cX5_odds 21 = .ok (.invokevirtual 107, 3) := by decide +kernel
theorem dX5_odds_24 : decode cX5_odds 24 = .ok (.istore_n 3, 1) := by decide +kernel
theorem dX5_odds_25 : decode cX5_odds 25 = .ok (.iload_n 3, 1) := by decide +kernel
theorem dX5_odds_26 : decode cX5_odds 26 = .ok (.iload_n 1, 1) := by decide +kernel
theorem dX5_odds_27 : decode cX5_odds 27 = .ok (.invokestatic 93, 3) := by decide +kernel
theorem dX5_odds_30 : decode cX5_odds 30 = .ok (.iconst 1, 1) := by decide +kernel
theorem dX5_odds_31 : decode cX5_odds 31 = .ok (.if_icmp .ne 15, 3) := by decide +kernel
theorem dX5_odds_34 : decode cX5_odds 34 = .ok (.aload_n 0, 1) := by decide +kernel
theorem dX5_odds_35 : decode cX5_odds 35 = .ok (.getfield 10, 3) := by decide +kernel
theorem dX5_odds_38 : decode cX5_odds 38 = .ok (.getfield 87, 3) := by decide +kernel
theorem dX5_odds_41 : decode cX5_odds 41 = .ok (.iload_n 1, 1) := by decide +kernel
theorem dX5_odds_42 : decode cX5_odds 42 = .ok (.iaload, 1) := by decide +kernel
theorem dX5_odds_43 : decode cX5_odds 43 = .ok (.goto 4, 3) := by decide +kernel
theorem dX5_odds_46 : decode cX5_odds 46 = .ok (.iconst 0, 1) := by decide +kernel
theorem dX5_odds_47 : decode cX5_odds 47 = .ok (.istore 4, 2) := by decide +kernel
theorem dX5_odds_49 : decode cX5_odds 49 = .ok (.iload 4, 2) := by decide +kernel
theorem dX5_odds_51 : decode cX5_odds 51 = .ok (.aload_n 0, 1) := by decide +kernel
theorem dX5_odds_52 : decode cX5_odds 52 = .ok (.getfield 10, 3) := by decide +kernel
theorem dX5_odds_55 : decode cX5_odds 55 = .ok (.iload_n 3, 1) := by decide +kernel
theorem dX5_odds_56 : decode cX5_odds 56 = .ok (.invokevirtual 155, 3) := by decide +kernel
theorem dX5_odds_59 : decode cX5_odds 59 = .ok (.iload_n 2, 1) := by decide +kernel
theorem dX5_odds_60 : decode cX5_odds 60 = .ok (.invokestatic 158, 3) := by decide +kernel
theorem dX5_odds_63 : decode cX5_odds 63 = .ok (.ireturn, 1) := by decide +kernel
set_option maxRecDepth 20000 in
theorem ggX5_swear_X5_isYesOrNo : GoodIn wsX5_swear wsX5_isYesOrNo := goodIn_r _ [9] (by decide +kernel) (by decide +kernel)
set_option maxRecDepth 20000 in
theorem gX5_swear_X5_isYesOrNo : GoodIn wsX5_swear (va_wsS RX5 135 yX5_isYesOrNo wsX5_isYesOrNo) := goodIn_app (goodIn_of _ (by decide +kernel)) ggX5_swear_X5_isYesOrNo
set_option maxRecDepth 20000 in
theorem ggX5_swear_X5_ableNow : GoodIn wsX5_swear wsX5_ableNow := goodIn_r _ [13, 2, 14, 15, 16, 17, 18, 19, 20, 21, 22, 23, 24, 25, 26, 27, 28, 29, 30, 31, 32, 33, 34, 35, 36, 37, 38, 72, 73, 74, 75, 76, 77, 78, 79, 80, 81, 91, 92, 93, 94, 95, 82, 83, 84, 85, 86, 87, 88, 89, 90] (by decide +kernel) (by decide +kernel)
set_option maxRecDepth 20000 in
theorem gX5_swear_X5_ableNow : GoodIn wsX5_swear (wsV RX5 107 RX5 yX5_ableNow wsX5_ableNow) := goodIn_app (goodIn_of _ (by decide +kernel)) ggX5_swear_X5_ableNow
set_option maxRecDepth 20000 in
theorem ggX5_swear_X5_coveredNow : GoodIn wsX5_swear wsX5_coveredNow := goodIn_r _ [42, 2, 14, 15, 43, 25, 26, 19, 27, 22, 28, 29, 30, 31, 32, 33, 72, 73, 74, 75, 76, 77, 78, 79, 80, 81, 91, 92, 93, 94, 95, 82, 83, 84, 85, 86, 87, 88, 89, 90] (by decide +kernel) (by decide +kernel)
set_option maxRecDepth 20000 in
theorem gX5_swear_X5_coveredNow : GoodIn wsX5_swear (wsV RX5 103 RX5 yX5_coveredNow wsX5_coveredNow) := goodIn_app (goodIn_of _ (by decide +kernel)) ggX5_swear_X5_coveredNow
set_option maxRecDepth 20000 in
theorem ggX5_swear_X0_harmUpper : GoodIn wsX5_swear wsX0_harmUpper := goodIn_r _ [47, 32, 48, 38, 49, 8, 50, 82, 83, 84, 85, 86, 87, 88, 89, 90] (by decide +kernel) (by decide +kernel)
set_option maxRecDepth 20000 in
theorem gX5_swear_X0_harmUpper : GoodIn wsX5_swear (wsV RX5 152 RX0 yX0_harmUpper wsX0_harmUpper) := goodIn_app (goodIn_of _ (by decide +kernel)) ggX5_swear_X0_harmUpper
set_option maxRecDepth 20000 in
theorem ggX5_swear_X0_shares : GoodIn wsX5_swear wsX0_shares := goodIn_r _ [54, 55, 56, 57, 58, 59, 60, 61, 19, 62, 32, 38, 49, 8, 50, 82, 83, 84, 85, 86, 87, 88, 89, 90] (by decide +kernel) (by decide +kernel)
set_option maxRecDepth 20000 in
theorem gX5_swear_X0_shares : GoodIn wsX5_swear (wsV RX5 155 RX0 yX0_shares wsX0_shares) := goodIn_app (goodIn_of _ (by decide +kernel)) ggX5_swear_X0_shares
set_option maxRecDepth 20000 in
theorem ggX5_swear_X5_partOf : GoodIn wsX5_swear wsX5_partOf := goodIn_r _ [65, 66, 67, 57, 68, 69, 70, 8, 71] (by decide +kernel) (by decide +kernel)
set_option maxRecDepth 20000 in
theorem gX5_swear_X5_partOf : GoodIn wsX5_swear (va_wsS RX5 158 yX5_partOf wsX5_partOf) := goodIn_app (goodIn_of _ (by decide +kernel)) ggX5_swear_X5_partOf
theorem dX5_swear_0 : decode cX5_swear 0 = .ok (.iload_n 1, 1) := by decide +kernel
theorem dX5_swear_1 : decode cX5_swear 1 = .ok (.invokestatic 135, 3) := by decide +kernel
theorem dX5_swear_4 : decode cX5_swear 4 = .ok (.ifCond .ne 6, 3) := by decide +kernel
theorem dX5_swear_7 : decode cX5_swear 7 = .ok (.ldc 161, 2) := by decide +kernel
theorem dX5_swear_9 : decode cX5_swear 9 = .ok (.ireturn, 1) := by decide +kernel
theorem dX5_swear_10 : decode cX5_swear 10 = .ok (.aload_n 0, 1) := by decide +kernel
theorem dX5_swear_11 : decode cX5_swear 11 = .ok (.invokevirtual 107, 3) := by decide +kernel
theorem dX5_swear_14 : decode cX5_swear 14 = .ok (.istore_n 2, 1) := by decide +kernel
theorem dX5_swear_15 : decode cX5_swear 15 = .ok (.aload_n 0, 1) := by decide +kernel
theorem dX5_swear_16 : decode cX5_swear 16 = .ok (.getfield 10, 3) := by decide +kernel
theorem dX5_swear_19 : decode cX5_swear 19 = .ok (.iload_n 2, 1) := by decide +kernel
theorem dX5_swear_20 : decode cX5_swear 20 = .ok (.aload_n 0, 1) := by decide +kernel
theorem dX5_swear_21 : decode cX5_swear 21 = .ok (.invokevirtual 103, 3) := by decide +kernel
theorem dX5_swear_24 : decode cX5_swear 24 = .ok (.invokevirtual 152, 3) := by decide +kernel
theorem dX5_swear_27 : decode cX5_swear 27 = .ok (.istore_n 3, 1) := by decide +kernel
theorem dX5_swear_28 : decode cX5_swear 28 = .ok (.aload_n 0, 1) := by decide +kernel
theorem dX5_swear_29 : decode cX5_swear 29 = .ok (.getfield 10, 3) := by decide +kernel
theorem dX5_swear_32 : decode cX5_swear 32 = .ok (.iload_n 2, 1) := by decide +kernel
theorem dX5_swear_33 : decode cX5_swear 33 = .ok (.invokevirtual 155, 3) := by decide +kernel
theorem dX5_swear_36 : decode cX5_swear 36 = .ok (.istore 4, 2) := by decide +kernel
theorem dX5_swear_38 : decode cX5_swear 38 = .ok (.aload_n 0, 1) := by decide +kernel
theorem dX5_swear_39 : decode cX5_swear 39 = .ok (.getfield 10, 3) := by decide +kernel
theorem dX5_swear_42 : decode cX5_swear 42 = .ok (.getfield 162, 3) := by decide +kernel
theorem dX5_swear_45 : decode cX5_swear 45 = .ok (.aload_n 0, 1) := by decide +kernel
theorem dX5_swear_46 : decode cX5_swear 46 = .ok (.getfield 10, 3) := by decide +kernel
theorem dX5_swear_49 : decode cX5_swear 49 = .ok (.getfield 165, 3) := by decide +kernel
theorem dX5_swear_52 : decode cX5_swear 52 = .ok (.imul, 1) := by decide +kernel
theorem dX5_swear_53 : decode cX5_swear 53 = .ok (.iload 4, 2) := by decide +kernel
theorem dX5_swear_55 : decode cX5_swear 55 = .ok (.imul, 1) := by decide +kernel
theorem dX5_swear_56 : decode cX5_swear 56 = .ok (.istore 5, 2) := by decide +kernel
theorem dX5_swear_58 : decode cX5_swear 58 = .ok (.aload_n 0, 1) := by decide +kernel
theorem dX5_swear_59 : decode cX5_swear 59 = .ok (.getfield 10, 3) := by decide +kernel
theorem dX5_swear_62 : decode cX5_swear 62 = .ok (.getfield 168, 3) := by decide +kernel
theorem dX5_swear_65 : decode cX5_swear 65 = .ok (.aload_n 0, 1) := by decide +kernel
theorem dX5_swear_66 : decode cX5_swear 66 = .ok (.getfield 10, 3) := by decide +kernel
theorem dX5_swear_69 : decode cX5_swear 69 = .ok (.getfield 162, 3) := by decide +kernel
theorem dX5_swear_72 : decode cX5_swear 72 = .ok (.iadd, 1) := by decide +kernel
theorem dX5_swear_73 : decode cX5_swear 73 = .ok (.iload_n 3, 1) := by decide +kernel
theorem dX5_swear_74 : decode cX5_swear 74 = .ok (.imul, 1) := by decide +kernel
theorem dX5_swear_75 : decode cX5_swear 75 = .ok (.istore 6, 2) := by decide +kernel
theorem dX5_swear_77 : decode cX5_swear 77 = .ok (.iload 5, 2) := by decide +kernel
theorem dX5_swear_79 : decode cX5_swear 79 = .ok (.iload 6, 2) := by decide +kernel
theorem dX5_swear_81 : decode cX5_swear 81 = .ok (.isub, 1) := by decide +kernel
theorem dX5_swear_82 : decode cX5_swear 82 = .ok (.bipush 10, 2) := by decide +kernel
theorem dX5_swear_84 : decode cX5_swear 84 = .ok (.iload 4, 2) := by decide +kernel
theorem dX5_swear_86 : decode cX5_swear 86 = .ok (.imul, 1) := by decide +kernel
theorem dX5_swear_87 : decode cX5_swear 87 = .ok (.iload_n 1, 1) := by decide +kernel
theorem dX5_swear_88 : decode cX5_swear 88 = .ok (.invokestatic 158, 3) := by decide +kernel
theorem dX5_swear_91 : decode cX5_swear 91 = .ok (.ireturn, 1) := by decide +kernel
set_option maxRecDepth 20000 in
theorem ggX5_sense_J6_bitCount_0f7a4 : GoodIn wsX5_sense wsJ6_bitCount_0f7a4 := goodIn_r _ [10, 11, 12, 13] (by decide +kernel) (by decide +kernel)
set_option maxRecDepth 20000 in
theorem gX5_sense_J6_bitCount_0f7a4 : GoodIn wsX5_sense (va_wsS RX5 130 yJ6_bitCount_0f7a4 wsJ6_bitCount_0f7a4) := goodIn_app (goodIn_of _ (by decide +kernel)) ggX5_sense_J6_bitCount_0f7a4
theorem dX5_sense_0 : decode cX5_sense 0 = .ok (.iload_n 1, 1) := by decide +kernel
theorem dX5_sense_1 : decode cX5_sense 1 = .ok (.ifCond .lt 8, 3) := by decide +kernel
theorem dX5_sense_4 : decode cX5_sense 4 = .ok (.iload_n 1, 1) := by decide +kernel
theorem dX5_sense_5 : decode cX5_sense 5 = .ok (.iconst 5, 1) := by decide +kernel
theorem dX5_sense_6 : decode cX5_sense 6 = .ok (.if_icmp .le 5, 3) := by decide +kernel
theorem dX5_sense_9 : decode cX5_sense 9 = .ok (.iconst (-1), 1) := by decide +kernel
theorem dX5_sense_10 : decode cX5_sense 10 = .ok (.ireturn, 1) := by decide +kernel
theorem dX5_sense_11 : decode cX5_sense 11 = .ok (.iconst 0, 1) := by decide +kernel
theorem dX5_sense_12 : decode cX5_sense 12 = .ok (.istore_n 2, 1) := by decide +kernel
theorem dX5_sense_13 : decode cX5_sense 13 = .ok (.iconst 0, 1) := by decide +kernel
theorem dX5_sense_14 : decode cX5_sense 14 = .ok (.istore_n 3, 1) := by decide +kernel
theorem dX5_sense_15 : decode cX5_sense 15 = .ok (.iload_n 3, 1) := by decide +kernel
theorem dX5_sense_16 : decode cX5_sense 16 = .ok (.aload_n 0, 1) := by decide +kernel
theorem dX5_sense_17 : decode cX5_sense 17 = .ok (.getfield 10, 3) := by decide +kernel
theorem dX5_sense_20 : decode cX5_sense 20 = .ok (.getfield 171, 3) := by decide +kernel
theorem dX5_sense_23 : decode cX5_sense 23 = .ok (.if_icmp .ge 39, 3) := by decide +kernel
theorem dX5_sense_26 : decode cX5_sense 26 = .ok (.aload_n 0, 1) := by decide +kernel
theorem dX5_sense_27 : decode cX5_sense 27 = .ok (.getfield 10, 3) := by decide +kernel
theorem dX5_sense_30 : decode cX5_sense 30 = .ok (.getfield 80, 3) := by decide +kernel
theorem dX5_sense_33 : decode cX5_sense 33 = .ok (.iload_n 3, 1) := by decide +kernel
theorem dX5_sense_34 : decode cX5_sense 34 = .ok (.iaload, 1) := by decide +kernel
theorem dX5_sense_35 : decode cX5_sense 35 = .ok (.aload_n 0, 1) := by decide +kernel
theorem dX5_sense_36 : decode cX5_sense 36 = .ok (.getfield 29, 3) := by decide +kernel
theorem dX5_sense_39 : decode cX5_sense 39 = .ok (.getfield 113, 3) := by decide +kernel
theorem dX5_sense_42 : decode cX5_sense 42 = .ok (.iand, 1) := by decide +kernel
theorem dX5_sense_43 : decode cX5_sense 43 = .ok (.invokestatic 130, 3) := by decide +kernel
theorem dX5_sense_46 : decode cX5_sense 46 = .ok (.iload_n 1, 1) := by decide +kernel
theorem dX5_sense_47 : decode cX5_sense 47 = .ok (.if_icmp .lt 9, 3) := by decide +kernel
theorem dX5_sense_50 : decode cX5_sense 50 = .ok (.iload_n 2, 1) := by decide +kernel
theorem dX5_sense_51 : decode cX5_sense 51 = .ok (.iconst 1, 1) := by decide +kernel
theorem dX5_sense_52 : decode cX5_sense 52 = .ok (.iload_n 3, 1) := by decide +kernel
theorem dX5_sense_53 : decode cX5_sense 53 = .ok (.ishl, 1) := by decide +kernel
theorem dX5_sense_54 : decode cX5_sense 54 = .ok (.ior, 1) := by decide +kernel
theorem dX5_sense_55 : decode cX5_sense 55 = .ok (.istore_n 2, 1) := by decide +kernel
theorem dX5_sense_56 : decode cX5_sense 56 = .ok (.iinc 3 1, 3) := by decide +kernel
theorem dX5_sense_59 : decode cX5_sense 59 = .ok (.goto (-44), 3) := by decide +kernel
theorem dX5_sense_62 : decode cX5_sense 62 = .ok (.iload_n 2, 1) := by decide +kernel
theorem dX5_sense_63 : decode cX5_sense 63 = .ok (.aload_n 0, 1) := by decide +kernel
theorem dX5_sense_64 : decode cX5_sense 64 = .ok (.getfield 29, 3) := by decide +kernel
theorem dX5_sense_67 : decode cX5_sense 67 = .ok (.getfield 100, 3) := by decide +kernel
theorem dX5_sense_70 : decode cX5_sense 70 = .ok (.iconst (-1), 1) := by decide +kernel
theorem dX5_sense_71 : decode cX5_sense 71 = .ok (.ixor, 1) := by decide +kernel
theorem dX5_sense_72 : decode cX5_sense 72 = .ok (.iand, 1) := by decide +kernel
theorem dX5_sense_73 : decode cX5_sense 73 = .ok (.ireturn, 1) := by decide +kernel
set_option maxRecDepth 20000 in
theorem ggX5_both_X5_areWords : GoodIn wsX5_both wsX5_areWords := goodIn_r _ [6] (by decide +kernel) (by decide +kernel)
set_option maxRecDepth 20000 in
theorem gX5_both_X5_areWords : GoodIn wsX5_both (va_wsS RX5 123 yX5_areWords wsX5_areWords) := goodIn_app (goodIn_of _ (by decide +kernel)) ggX5_both_X5_areWords
set_option maxRecDepth 20000 in
theorem ggX5_both_X5_coveredNow : GoodIn wsX5_both wsX5_coveredNow := goodIn_r _ [10, 1, 2, 11, 12, 13, 14, 15, 16, 17, 18, 19, 20, 21, 22, 23, 24, 25, 26, 27, 28, 29, 30, 31, 32, 33, 34, 35, 36, 37, 38, 39, 40, 41, 42, 43, 44, 45, 46, 47] (by decide +kernel) (by decide +kernel)
set_option maxRecDepth 20000 in
theorem gX5_both_X5_coveredNow : GoodIn wsX5_both (wsV RX5 103 RX5 yX5_coveredNow wsX5_coveredNow) := goodIn_app (goodIn_of _ (by decide +kernel)) ggX5_both_X5_coveredNow
set_option maxRecDepth 20000 in
theorem ggX5_both_X0_coveredBy : GoodIn wsX5_both wsX0_coveredBy := goodIn_r _ [16, 17, 18, 19, 20, 15, 21, 22, 23, 34, 35, 36, 37, 38, 39, 40, 41, 42, 43, 44, 45, 46, 47] (by decide +kernel) (by decide +kernel)
set_option maxRecDepth 20000 in
theorem gX5_both_X0_coveredBy : GoodIn wsX5_both (wsV RX5 174 RX0 yX0_coveredBy wsX0_coveredBy) := goodIn_app (goodIn_of _ (by decide +kernel)) ggX5_both_X0_coveredBy
theorem dX5_both_0 : decode cX5_both 0 = .ok (.iload_n 1, 1) := by decide +kernel
theorem dX5_both_1 : decode cX5_both 1 = .ok (.invokestatic 123, 3) := by decide +kernel
theorem dX5_both_4 : decode cX5_both 4 = .ok (.ifCond .ne 5, 3) := by decide +kernel
theorem dX5_both_7 : decode cX5_both 7 = .ok (.iconst (-1), 1) := by decide +kernel
theorem dX5_both_8 : decode cX5_both 8 = .ok (.ireturn, 1) := by decide +kernel
theorem dX5_both_9 : decode cX5_both 9 = .ok (.aload_n 0, 1) := by decide +kernel
theorem dX5_both_10 : decode cX5_both 10 = .ok (.invokevirtual 103, 3) := by decide +kernel
theorem dX5_both_13 : decode cX5_both 13 = .ok (.aload_n 0, 1) := by decide +kernel
theorem dX5_both_14 : decode cX5_both 14 = .ok (.getfield 10, 3) := by decide +kernel
theorem dX5_both_17 : decode cX5_both 17 = .ok (.iload_n 1, 1) := by decide +kernel
theorem dX5_both_18 : decode cX5_both 18 = .ok (.aload_n 0, 1) := by decide +kernel
theorem dX5_both_19 : decode cX5_both 19 = .ok (.getfield 29, 3) := by decide +kernel
theorem dX5_both_22 : decode cX5_both 22 = .ok (.invokevirtual 174, 3) := by decide +kernel
theorem dX5_both_25 : decode cX5_both 25 = .ok (.iand, 1) := by decide +kernel
theorem dX5_both_26 : decode cX5_both 26 = .ok (.ireturn, 1) := by decide +kernel
set_option maxRecDepth 20000 in
theorem ggX5_means_X0_ableBy : GoodIn wsX5_means wsX0_ableBy := goodIn_r _ [8, 9, 10, 11, 12, 13, 14, 7, 15, 16, 17, 18, 19, 20, 21, 22, 23, 24, 25, 26, 58, 59, 60, 61, 62, 49, 50, 51, 52, 53, 54, 55, 56, 57] (by decide +kernel) (by decide +kernel)
set_option maxRecDepth 20000 in
theorem gX5_means_X0_ableBy : GoodIn wsX5_means (wsV RX5 178 RX0 yX0_ableBy wsX0_ableBy) := goodIn_app (goodIn_of _ (by decide +kernel)) ggX5_means_X0_ableBy
set_option maxRecDepth 20000 in
theorem ggX5_means_X0_coveredBy : GoodIn wsX5_means wsX0_coveredBy := goodIn_r _ [15, 10, 16, 17, 18, 7, 19, 20, 21, 58, 59, 60, 61, 62, 49, 50, 51, 52, 53, 54, 55, 56, 57] (by decide +kernel) (by decide +kernel)
set_option maxRecDepth 20000 in
theorem gX5_means_X0_coveredBy : GoodIn wsX5_means (wsV RX5 174 RX0 yX0_coveredBy wsX0_coveredBy) := goodIn_app (goodIn_of _ (by decide +kernel)) ggX5_means_X0_coveredBy
set_option maxRecDepth 20000 in
theorem ggX5_means_X5_fewerWords : GoodIn wsX5_means wsX5_fewerWords := goodIn_r _ [31, 32, 33, 34, 35, 36, 37, 38] (by decide +kernel) (by decide +kernel)
set_option maxRecDepth 20000 in
theorem gX5_means_X5_fewerWords : GoodIn wsX5_means (va_wsS RX5 181 yX5_fewerWords wsX5_fewerWords) := goodIn_app (goodIn_of _ (by decide +kernel)) ggX5_means_X5_fewerWords
theorem dX5_means_0 : decode cX5_means 0 = .ok (.iload_n 1, 1) := by decide +kernel
theorem dX5_means_1 : decode cX5_means 1 = .ok (.ifCond .lt 16, 3) := by decide +kernel
theorem dX5_means_4 : decode cX5_means 4 = .ok (.iload_n 1, 1) := by decide +kernel
theorem dX5_means_5 : decode cX5_means 5 = .ok (.iconst 1, 1) := by decide +kernel
theorem dX5_means_6 : decode cX5_means 6 = .ok (.aload_n 0, 1) := by decide +kernel
theorem dX5_means_7 : decode cX5_means 7 = .ok (.getfield 10, 3) := by decide +kernel
theorem dX5_means_10 : decode cX5_means 10 = .ok (.getfield 171, 3) := by decide +kernel
theorem dX5_means_13 : decode cX5_means 13 = .ok (.ishl, 1) := by decide +kernel
theorem dX5_means_14 : decode cX5_means 14 = .ok (.if_icmp .lt 5, 3) := by decide +kernel
theorem dX5_means_17 : decode cX5_means 17 = .ok (.iconst (-1), 1) := by decide +kernel
theorem dX5_means_18 : decode cX5_means 18 = .ok (.ireturn, 1) := by decide +kernel
theorem dX5_means_19 : decode cX5_means 19 = .ok (.bipush (-9), 2) := by decide +kernel
theorem dX5_means_21 : decode cX5_means 21 = .ok (.istore_n 2, 1) := by decide +kernel
theorem dX5_means_22 : decode cX5_means 22 = .ok (.iconst 0, 1) := by decide +kernel
theorem dX5_means_23 : decode cX5_means 23 = .ok (.istore_n 3, 1) := by decide +kernel
theorem dX5_means_24 : decode cX5_means 24 = .ok (.iload_n 3, 1) := by decide +kernel
theorem dX5_means_25 : decode cX5_means 25 = .ok (.bipush 31, 2) := by decide +kernel
theorem dX5_means_27 : decode cX5_means 27 = .ok (.if_icmp .gt 56, 3) := by decide +kernel
theorem dX5_means_30 : decode cX5_means 30 = .ok (.aload_n 0, 1) := by decide +kernel
theorem dX5_means_31 : decode cX5_means 31 = .ok (.getfield 10, 3) := by decide +kernel
theorem dX5_means_34 : decode cX5_means 34 = .ok (.iload_n 3, 1) := by decide +kernel
theorem dX5_means_35 : decode cX5_means 35 = .ok (.aload_n 0, 1) := by decide +kernel
theorem dX5_means_36 : decode cX5_means 36 = .ok (.getfield 29, 3) := by decide +kernel
theorem dX5_means_39 : decode cX5_means 39 = .ok (.invokevirtual 178, 3) := by decide +kernel
theorem dX5_means_42 : decode cX5_means 42 = .ok (.aload_n 0, 1) := by decide +kernel
theorem dX5_means_43 : decode cX5_means 43 = .ok (.getfield 10, 3) := by decide +kernel
theorem dX5_means_46 : decode cX5_means 46 = .ok (.iload_n 3, 1) := by decide +kernel
theorem dX5_means_47 : decode cX5_means 47 = .ok (.aload_n 0, 1) := by decide +kernel
theorem dX5_means_48 : decode cX5_means 48 = .ok (.getfield 29, 3) := by decide +kernel
theorem dX5_means_51 : decode cX5_means 51 = .ok (.invokevirtual 174, 3) := by decide +kernel
theorem dX5_means_54 : decode cX5_means 54 = .ok (.iand, 1) := by decide +kernel
theorem dX5_means_55 : decode cX5_means 55 = .ok (.istore 4, 2) := by decide +kernel
theorem dX5_means_57 : decode cX5_means 57 = .ok (.iload 4, 2) := by decide +kernel
theorem dX5_means_59 : decode cX5_means 59 = .ok (.ifCond .eq 18, 3) := by decide +kernel
theorem dX5_means_62 : decode cX5_means 62 = .ok (.iload 4, 2) := by decide +kernel
theorem dX5_means_64 : decode cX5_means 64 = .ok (.iload_n 1, 1) := by decide +kernel
theorem dX5_means_65 : decode cX5_means 65 = .ok (.iconst (-1), 1) := by decide +kernel
theorem dX5_means_66 : decode cX5_means 66 = .ok (.ixor, 1) := by decide +kernel
theorem dX5_means_67 : decode cX5_means 67 = .ok (.iand, 1) := by decide +kernel
theorem dX5_means_68 : decode cX5_means 68 = .ok (.ifCond .ne 9, 3) := by decide +kernel
theorem dX5_means_71 : decode cX5_means 71 = .ok (.iload_n 2, 1) := by decide +kernel
theorem dX5_means_72 : decode cX5_means 72 = .ok (.iload_n 3, 1) := by decide +kernel
theorem dX5_means_73 : decode cX5_means 73 = .ok (.invokestatic 181, 3) := by decide +kernel
theorem dX5_means_76 : decode cX5_means 76 = .ok (.istore_n 2, 1) := by decide +kernel
theorem dX5_means_77 : decode cX5_means 77 = .ok (.iinc 3 1, 3) := by decide +kernel
theorem dX5_means_80 : decode cX5_means 80 = .ok (.goto (-56), 3) := by decide +kernel
theorem dX5_means_83 : decode cX5_means 83 = .ok (.iload_n 2, 1) := by decide +kernel
theorem dX5_means_84 : decode cX5_means 84 = .ok (.ireturn, 1) := by decide +kernel
set_option maxRecDepth 20000 in
theorem ggX5_span_X0_coveredBy : GoodIn wsX5_span wsX0_coveredBy := goodIn_r _ [7, 8, 9, 10, 11, 6, 12, 13, 14, 36, 37, 38, 39, 40, 41, 42, 43, 44, 45, 46, 47, 48, 49] (by decide +kernel) (by decide +kernel)
set_option maxRecDepth 20000 in
theorem gX5_span_X0_coveredBy : GoodIn wsX5_span (wsV RX5 174 RX0 yX0_coveredBy wsX0_coveredBy) := goodIn_app (goodIn_of _ (by decide +kernel)) ggX5_span_X0_coveredBy
set_option maxRecDepth 20000 in
theorem ggX5_span_J6_bitCount_0f7a4 : GoodIn wsX5_span wsJ6_bitCount_0f7a4 := goodIn_r _ [18, 19, 20, 21] (by decide +kernel) (by decide +kernel)
set_option maxRecDepth 20000 in
theorem gX5_span_J6_bitCount_0f7a4 : GoodIn wsX5_span (va_wsS RX5 130 yJ6_bitCount_0f7a4 wsJ6_bitCount_0f7a4) := goodIn_app (goodIn_of _ (by decide +kernel)) ggX5_span_J6_bitCount_0f7a4
set_option maxRecDepth 20000 in
theorem ggX5_span_X5_fewerWords : GoodIn wsX5_span wsX5_fewerWords := goodIn_r _ [25, 15, 16, 17, 18, 19, 20, 21] (by decide +kernel) (by decide +kernel)
set_option maxRecDepth 20000 in
theorem gX5_span_X5_fewerWords : GoodIn wsX5_span (va_wsS RX5 181 yX5_fewerWords wsX5_fewerWords) := goodIn_app (goodIn_of _ (by decide +kernel)) ggX5_span_X5_fewerWords
theorem dX5_span_0 : decode cX5_span 0 = .ok (.bipush (-9), 2) := by decide +kernel
theorem dX5_span_2 : decode cX5_span 2 = .ok (.istore_n 1, 1) := by decide +kernel
theorem dX5_span_3 : decode cX5_span 3 = .ok (.iconst 0, 1) := by decide +kernel
theorem dX5_span_4 : decode cX5_span 4 = .ok (.istore_n 2, 1) := by decide +kernel
theorem dX5_span_5 : decode cX5_span 5 = .ok (.iload_n 2, 1) := by decide +kernel
theorem dX5_span_6 : decode cX5_span 6 = .ok (.bipush 31, 2) := by decide +kernel
theorem dX5_span_8 : decode cX5_span 8 = .ok (.if_icmp .gt 34, 3) := by decide +kernel
theorem dX5_span_11 : decode cX5_span 11 = .ok (.aload_n 0, 1) := by decide +kernel
theorem dX5_span_12 : decode cX5_span 12 = .ok (.getfield 10, 3) := by decide +kernel
theorem dX5_span_15 : decode cX5_span 15 = .ok (.iload_n 2, 1) := by decide +kernel
theorem dX5_span_16 : decode cX5_span 16 = .ok (.aload_n 0, 1) := by decide +kernel
theorem dX5_span_17 : decode cX5_span 17 = .ok (.getfield 29, 3) := by decide +kernel
theorem dX5_span_20 : decode cX5_span 20 = .ok (.invokevirtual 174, 3) := by decide +kernel
theorem dX5_span_23 : decode cX5_span 23 = .ok (.invokestatic 130, 3) := by decide +kernel
theorem dX5_span_26 : decode cX5_span 26 = .ok (.iconst 1, 1) := by decide +kernel
theorem dX5_span_27 : decode cX5_span 27 = .ok (.if_icmp .ne 9, 3) := by decide +kernel
theorem dX5_span_30 : decode cX5_span 30 = .ok (.iload_n 1, 1) := by decide +kernel
theorem dX5_span_31 : decode cX5_span 31 = .ok (.iload_n 2, 1) := by decide +kernel
theorem dX5_span_32 : decode cX5_span 32 = .ok (.invokestatic 181, 3) := by decide +kernel
theorem dX5_span_35 : decode cX5_span 35 = .ok (.istore_n 1, 1) := by decide +kernel
theorem dX5_span_36 : decode cX5_span 36 = .ok (.iinc 2 1, 3) := by decide +kernel
theorem dX5_span_39 : decode cX5_span 39 = .ok (.goto (-34), 3) := by decide +kernel
theorem dX5_span_42 : decode cX5_span 42 = .ok (.iload_n 1, 1) := by decide +kernel
theorem dX5_span_43 : decode cX5_span 43 = .ok (.ireturn, 1) := by decide +kernel
set_option maxRecDepth 20000 in
theorem ggX5_shut_X5_leastHarmful : GoodIn wsX5_shut wsX5_leastHarmful := goodIn_r _ [6, 1, 7, 8, 9, 10, 5, 11, 12, 13, 14, 15, 16, 17, 18, 19, 20, 21, 22, 23, 24, 25, 26, 27, 28, 29, 30, 31, 32, 33, 34, 35, 36, 37, 38, 39, 40, 41, 42, 43, 44, 45, 46, 47, 48, 49, 50, 51, 52, 53, 54, 55, 56, 57, 58, 59, 60, 61, 62, 63, 64, 65, 66, 67, 68, 69, 70, 80, 81, 82, 83, 84, 85, 86, 87, 88, 89, 90, 91, 92, 93, 94, 95, 96, 97, 98, 99, 100, 101, 102, 103] (by decide +kernel) (by decide +kernel)
set_option maxRecDepth 20000 in
theorem gX5_shut_X5_leastHarmful : GoodIn wsX5_shut (wsV RX5 184 RX5 yX5_leastHarmful wsX5_leastHarmful) := goodIn_app (goodIn_of _ (by decide +kernel)) ggX5_shut_X5_leastHarmful
set_option maxRecDepth 20000 in
theorem ggX5_shut_X5_ableNow : GoodIn wsX5_shut wsX5_ableNow := goodIn_r _ [11, 1, 12, 13, 14, 15, 16, 17, 18, 19, 20, 21, 22, 23, 24, 25, 26, 27, 28, 29, 30, 31, 32, 33, 34, 35, 36, 80, 81, 82, 83, 84, 85, 86, 87, 88, 89, 99, 100, 101, 102, 103, 90, 91, 92, 93, 94, 95, 96, 97, 98] (by decide +kernel) (by decide +kernel)
set_option maxRecDepth 20000 in
theorem gX5_shut_X5_ableNow : GoodIn wsX5_shut (wsV RX5 107 RX5 yX5_ableNow wsX5_ableNow) := goodIn_app (goodIn_of _ (by decide +kernel)) ggX5_shut_X5_ableNow
set_option maxRecDepth 20000 in
theorem ggX5_shut_X5_coveredNow : GoodIn wsX5_shut wsX5_coveredNow := goodIn_r _ [40, 1, 12, 13, 41, 23, 24, 17, 25, 20, 26, 27, 28, 29, 30, 31, 80, 81, 82, 83, 84, 85, 86, 87, 88, 89, 99, 100, 101, 102, 103, 90, 91, 92, 93, 94, 95, 96, 97, 98] (by decide +kernel) (by decide +kernel)
set_option maxRecDepth 20000 in
theorem gX5_shut_X5_coveredNow : GoodIn wsX5_shut (wsV RX5 103 RX5 yX5_coveredNow wsX5_coveredNow) := goodIn_app (goodIn_of _ (by decide +kernel)) ggX5_shut_X5_coveredNow
set_option maxRecDepth 20000 in
theorem ggX5_shut_X0_harmUpper : GoodIn wsX5_shut wsX0_harmUpper := goodIn_r _ [45, 30, 46, 36, 47, 5, 48, 90, 91, 92, 93, 94, 95, 96, 97, 98] (by decide +kernel) (by decide +kernel)
set_option maxRecDepth 20000 in
theorem gX5_shut_X0_harmUpper : GoodIn wsX5_shut (wsV RX5 152 RX0 yX0_harmUpper wsX0_harmUpper) := goodIn_app (goodIn_of _ (by decide +kernel)) ggX5_shut_X0_harmUpper
set_option maxRecDepth 20000 in
theorem ggX5_shut_X0_shares : GoodIn wsX5_shut wsX0_shares := goodIn_r _ [52, 53, 54, 55, 56, 57, 58, 59, 17, 60, 30, 36, 47, 5, 48, 90, 91, 92, 93, 94, 95, 96, 97, 98] (by decide +kernel) (by decide +kernel)
set_option maxRecDepth 20000 in
theorem gX5_shut_X0_shares : GoodIn wsX5_shut (wsV RX5 155 RX0 yX0_shares wsX0_shares) := goodIn_app (goodIn_of _ (by decide +kernel)) ggX5_shut_X0_shares
set_option maxRecDepth 20000 in
theorem ggX5_shut_X5_partOf : GoodIn wsX5_shut wsX5_partOf := goodIn_r _ [73, 74, 75, 55, 76, 77, 78, 5, 79] (by decide +kernel) (by decide +kernel)
set_option maxRecDepth 20000 in
theorem gX5_shut_X5_partOf : GoodIn wsX5_shut (va_wsS RX5 158 yX5_partOf wsX5_partOf) := goodIn_app (goodIn_of _ (by decide +kernel)) ggX5_shut_X5_partOf
theorem dX5_shut_0 : decode cX5_shut 0 = .ok (.iload_n 1, 1) := by decide +kernel
theorem dX5_shut_1 : decode cX5_shut 1 = .ok (.ifCond .lt 18, 3) := by decide +kernel
theorem dX5_shut_4 : decode cX5_shut 4 = .ok (.iload_n 1, 1) := by decide +kernel
theorem dX5_shut_5 : decode cX5_shut 5 = .ok (.bipush 7, 2) := by decide +kernel
theorem dX5_shut_7 : decode cX5_shut 7 = .ok (.if_icmp .gt 12, 3) := by decide +kernel
theorem dX5_shut_10 : decode cX5_shut 10 = .ok (.iload_n 2, 1) := by decide +kernel
theorem dX5_shut_11 : decode cX5_shut 11 = .ok (.ifCond .lt 8, 3) := by decide +kernel
theorem dX5_shut_14 : decode cX5_shut 14 = .ok (.iload_n 2, 1) := by decide +kernel
theorem dX5_shut_15 : decode cX5_shut 15 = .ok (.iconst 2, 1) := by decide +kernel
theorem dX5_shut_16 : decode cX5_shut 16 = .ok (.if_icmp .le 5, 3) := by decide +kernel
theorem dX5_shut_19 : decode cX5_shut 19 = .ok (.iconst (-1), 1) := by decide +kernel
theorem dX5_shut_20 : decode cX5_shut 20 = .ok (.ireturn, 1) := by decide +kernel
theorem dX5_shut_21 : decode cX5_shut 21 = .ok (.aload_n 0, 1) := by decide +kernel
theorem dX5_shut_22 : decode cX5_shut 22 = .ok (.iload_n 1, 1) := by decide +kernel
theorem dX5_shut_23 : decode cX5_shut 23 = .ok (.invokevirtual 184, 3) := by decide +kernel
theorem dX5_shut_26 : decode cX5_shut 26 = .ok (.istore_n 3, 1) := by decide +kernel
theorem dX5_shut_27 : decode cX5_shut 27 = .ok (.iload_n 2, 1) := by decide +kernel
theorem dX5_shut_28 : decode cX5_shut 28 = .ok (.ifCond .ne 5, 3) := by decide +kernel
theorem dX5_shut_31 : decode cX5_shut 31 = .ok (.iload_n 3, 1) := by decide +kernel
theorem dX5_shut_32 : decode cX5_shut 32 = .ok (.ireturn, 1) := by decide +kernel
theorem dX5_shut_33 : decode cX5_shut 33 = .ok (.aload_n 0, 1) := by decide +kernel
theorem dX5_shut_34 : decode cX5_shut 34 = .ok (.invokevirtual 107, 3) := by decide +kernel
theorem dX5_shut_37 : decode cX5_shut 37 = .ok (.iload_n 3, 1) := by decide +kernel
theorem dX5_shut_38 : decode cX5_shut 38 = .ok (.iconst (-1), 1) := by decide +kernel
theorem dX5_shut_39 : decode cX5_shut 39 = .ok (.ixor, 1) := by decide +kernel
theorem dX5_shut_40 : decode cX5_shut 40 = .ok (.iand, 1) := by decide +kernel
theorem dX5_shut_41 : decode cX5_shut 41 = .ok (.istore 4, 2) := by decide +kernel
theorem dX5_shut_43 : decode cX5_shut 43 = .ok (.aload_n 0, 1) := by decide +kernel
theorem dX5_shut_44 : decode cX5_shut 44 = .ok (.getfield 10, 3) := by decide +kernel
theorem dX5_shut_47 : decode cX5_shut 47 = .ok (.iload 4, 2) := by decide +kernel
theorem dX5_shut_49 : decode cX5_shut 49 = .ok (.aload_n 0, 1) := by decide +kernel
theorem dX5_shut_50 : decode cX5_shut 50 = .ok (.invokevirtual 103, 3) := by decide +kernel
theorem dX5_shut_53 : decode cX5_shut 53 = .ok (.invokevirtual 152, 3) := by decide +kernel
theorem dX5_shut_56 : decode cX5_shut 56 = .ok (.aload_n 0, 1) := by decide +kernel
theorem dX5_shut_57 : decode cX5_shut 57 = .ok (.getfield 10, 3) := by decide +kernel
theorem dX5_shut_60 : decode cX5_shut 60 = .ok (.iload 4, 2) := by decide +kernel
theorem dX5_shut_62 : decode cX5_shut 62 = .ok (.invokevirtual 155, 3) := by decide +kernel
theorem dX5_shut_65 : decode cX5_shut 65 = .ok (.iload_n 2, 1) := by decide +kernel
theorem dX5_shut_66 : decode cX5_shut 66 = .ok (.iconst 1, 1) := by decide +kernel
theorem dX5_shut_67 : decode cX5_shut 67 = .ok (.isub, 1) := by decide +kernel
theorem dX5_shut_68 : decode cX5_shut 68 = .ok (.invokestatic 158, 3) := by decide +kernel
theorem dX5_shut_71 : decode cX5_shut 71 = .ok (.ireturn, 1) := by decide +kernel
set_option maxRecDepth 20000 in
theorem ggX5_tell_X5_ableNow : GoodIn wsX5_tell wsX5_ableNow := goodIn_r _ [6, 1, 7, 8, 9, 10, 11, 12, 13, 14, 15, 16, 17, 18, 19, 20, 21, 22, 23, 24, 25, 26, 27, 28, 29, 30, 31, 42, 43, 44, 45, 46, 47, 48, 49, 50, 51, 52, 53, 54, 55, 56, 57, 58, 59, 60, 61, 62, 63, 64, 65] (by decide +kernel) (by decide +kernel)
set_option maxRecDepth 20000 in
theorem gX5_tell_X5_ableNow : GoodIn wsX5_tell (wsV RX5 107 RX5 yX5_ableNow wsX5_ableNow) := goodIn_app (goodIn_of _ (by decide +kernel)) ggX5_tell_X5_ableNow
end
section
set_option maxRecDepth 20000 in
theorem ggX5_tell_X5_coveredNow : GoodIn wsX5_tell wsX5_coveredNow := goodIn_r _ [35, 1, 7, 8, 36, 18, 19, 12, 20, 15, 21, 22, 23, 24, 25, 26, 42, 43, 44, 45, 46, 47, 48, 49, 50, 51, 52, 53, 54, 55, 56, 57, 58, 59, 60, 61, 62, 63, 64, 65] (by decide +kernel) (by decide +kernel)
set_option maxRecDepth 20000 in
theorem gX5_tell_X5_coveredNow : GoodIn wsX5_tell (wsV RX5 103 RX5 yX5_coveredNow wsX5_coveredNow) := goodIn_app (goodIn_of _ (by decide +kernel)) ggX5_tell_X5_coveredNow
set_option maxRecDepth 20000 in
theorem ggX5_tell_X0_dearOnes : GoodIn wsX5_tell wsX0_dearOnes := goodIn_r _ [40, 25, 41, 57, 58, 59, 60, 61, 62, 63, 64, 65] (by decide +kernel) (by decide +kernel)
set_option maxRecDepth 20000 in
theorem gX5_tell_X0_dearOnes : GoodIn wsX5_tell (wsV RX5 187 RX0 yX0_dearOnes wsX0_dearOnes) := goodIn_app (goodIn_of _ (by decide +kernel)) ggX5_tell_X0_dearOnes
theorem dX5_tell_0 : decode cX5_tell 0 = .ok (.aload_n 0, 1) := by decide +kernel
theorem dX5_tell_1 : decode cX5_tell 1 = .ok (.getfield 10, 3) := by decide +kernel
theorem dX5_tell_4 : decode cX5_tell 4 = .ok (.aload_n 0, 1) := by decide +kernel
theorem dX5_tell_5 : decode cX5_tell 5 = .ok (.invokevirtual 107, 3) := by decide +kernel
theorem dX5_tell_8 : decode cX5_tell 8 = .ok (.aload_n 0, 1) := by decide +kernel
theorem dX5_tell_9 : decode cX5_tell 9 = .ok (.invokevirtual 103, 3) := by decide +kernel
theorem dX5_tell_12 : decode cX5_tell 12 = .ok (.iand, 1) := by decide +kernel
theorem dX5_tell_13 : decode cX5_tell 13 = .ok (.invokevirtual 187, 3) := by decide +kernel
theorem dX5_tell_16 : decode cX5_tell 16 = .ok (.ireturn, 1) := by decide +kernel
set_option maxRecDepth 20000 in
theorem ggX5_saw_X0_holds : GoodIn wsX5_saw wsX0_holds := goodIn_r _ [8, 9, 35, 36, 37, 38, 39, 40, 41, 42, 43] (by decide +kernel) (by decide +kernel)
set_option maxRecDepth 20000 in
theorem gX5_saw_X0_holds : GoodIn wsX5_saw (wsV RX5 77 RX0 yX0_holds wsX0_holds) := goodIn_app (goodIn_of _ (by decide +kernel)) ggX5_saw_X0_holds
set_option maxRecDepth 20000 in
theorem ggX5_saw_X5_isYesOrNo : GoodIn wsX5_saw wsX5_isYesOrNo := goodIn_r _ [13] (by decide +kernel) (by decide +kernel)
set_option maxRecDepth 20000 in
theorem gX5_saw_X5_isYesOrNo : GoodIn wsX5_saw (va_wsS RX5 135 yX5_isYesOrNo wsX5_isYesOrNo) := goodIn_app (goodIn_of _ (by decide +kernel)) ggX5_saw_X5_isYesOrNo
set_option maxRecDepth 20000 in
theorem ggX5_saw_X2_add : GoodIn wsX5_saw wsX2_add := goodIn_r _ [18, 19, 20, 21, 32, 33, 34] (by decide +kernel) (by decide +kernel)
set_option maxRecDepth 20000 in
theorem gX5_saw_X2_add : GoodIn wsX5_saw (wsV RX5 190 RX2 yX2_add wsX2_add) := goodIn_app (goodIn_of _ (by decide +kernel)) ggX5_saw_X2_add
theorem dX5_saw_0 : decode cX5_saw 0 = .ok (.aload_n 0, 1) := by decide +kernel
theorem dX5_saw_1 : decode cX5_saw 1 = .ok (.getfield 10, 3) := by decide +kernel
theorem dX5_saw_4 : decode cX5_saw 4 = .ok (.iload_n 1, 1) := by decide +kernel
theorem dX5_saw_5 : decode cX5_saw 5 = .ok (.invokevirtual 77, 3) := by decide +kernel
theorem dX5_saw_8 : decode cX5_saw 8 = .ok (.ifCond .eq 10, 3) := by decide +kernel
theorem dX5_saw_11 : decode cX5_saw 11 = .ok (.iload_n 2, 1) := by decide +kernel
theorem dX5_saw_12 : decode cX5_saw 12 = .ok (.invokestatic 135, 3) := by decide +kernel
theorem dX5_saw_15 : decode cX5_saw 15 = .ok (.ifCond .ne 5, 3) := by decide +kernel
theorem dX5_saw_18 : decode cX5_saw 18 = .ok (.iconst (-1), 1) := by decide +kernel
theorem dX5_saw_19 : decode cX5_saw 19 = .ok (.ireturn, 1) := by decide +kernel
theorem dX5_saw_20 : decode cX5_saw 20 = .ok (.aload_n 0, 1) := by decide +kernel
theorem dX5_saw_21 : decode cX5_saw 21 = .ok (.getfield 54, 3) := by decide +kernel
theorem dX5_saw_24 : decode cX5_saw 24 = .ok (.iload_n 1, 1) := by decide +kernel
theorem dX5_saw_25 : decode cX5_saw 25 = .ok (.iload_n 2, 1) := by decide +kernel
theorem dX5_saw_26 : decode cX5_saw 26 = .ok (.invokevirtual 190, 3) := by decide +kernel
theorem dX5_saw_29 : decode cX5_saw 29 = .ok (.ifCond .eq 13, 3) := by decide +kernel
theorem dX5_saw_32 : decode cX5_saw 32 = .ok (.aload_n 0, 1) := by decide +kernel
theorem dX5_saw_33 : decode cX5_saw 33 = .ok (.getfield 54, 3) := by decide +kernel
theorem dX5_saw_36 : decode cX5_saw 36 = .ok (.getfield 193, 3) := by decide +kernel
theorem dX5_saw_39 : decode cX5_saw 39 = .ok (.goto 5, 3) := by decide +kernel
theorem dX5_saw_42 : decode cX5_saw 42 = .ok (.bipush (-3), 2) := by decide +kernel
theorem dX5_saw_44 : decode cX5_saw 44 = .ok (.ireturn, 1) := by decide +kernel
theorem dX5_forget_0 : decode cX5_forget 0 = .ok (.aload_n 0, 1) := by decide +kernel
theorem dX5_forget_1 : decode cX5_forget 1 = .ok (.getfield 54, 3) := by decide +kernel
theorem dX5_forget_4 : decode cX5_forget 4 = .ok (.getfield 193, 3) := by decide +kernel
theorem dX5_forget_7 : decode cX5_forget 7 = .ok (.istore_n 1, 1) := by decide +kernel
theorem dX5_forget_8 : decode cX5_forget 8 = .ok (.aload_n 0, 1) := by decide +kernel
theorem dX5_forget_9 : decode cX5_forget 9 = .ok (.getfield 54, 3) := by decide +kernel
theorem dX5_forget_12 : decode cX5_forget 12 = .ok (.iconst 0, 1) := by decide +kernel
theorem dX5_forget_13 : decode cX5_forget 13 = .ok (.putfield 193, 3) := by decide +kernel
theorem dX5_forget_16 : decode cX5_forget 16 = .ok (.iload_n 1, 1) := by decide +kernel
theorem dX5_forget_17 : decode cX5_forget 17 = .ok (.ireturn, 1) := by decide +kernel
set_option maxRecDepth 20000 in
theorem ggX5_fit_X0_having : GoodIn wsX5_fit wsX0_having := goodIn_r _ [7, 8, 9, 31, 32, 33, 34, 35, 36, 37, 38, 39] (by decide +kernel) (by decide +kernel)
set_option maxRecDepth 20000 in
theorem gX5_fit_X0_having : GoodIn wsX5_fit (wsV RX5 194 RX0 yX0_having wsX0_having) := goodIn_app (goodIn_of _ (by decide +kernel)) ggX5_fit_X0_having
set_option maxRecDepth 20000 in
theorem ggX5_fit_X2_isSoBy : GoodIn wsX5_fit wsX2_isSoBy := goodIn_r _ [14, 15, 16, 17, 18, 19, 20, 40, 41, 42] (by decide +kernel) (by decide +kernel)
set_option maxRecDepth 20000 in
theorem gX5_fit_X2_isSoBy : GoodIn wsX5_fit (wsV RX5 197 RX2 yX2_isSoBy wsX2_isSoBy) := goodIn_app (goodIn_of _ (by decide +kernel)) ggX5_fit_X2_isSoBy
theorem dX5_fit_0 : decode cX5_fit 0 = .ok (.iload_n 1, 1) := by decide +kernel
theorem dX5_fit_1 : decode cX5_fit 1 = .ok (.ifCond .lt 8, 3) := by decide +kernel
theorem dX5_fit_4 : decode cX5_fit 4 = .ok (.iload_n 1, 1) := by decide +kernel
theorem dX5_fit_5 : decode cX5_fit 5 = .ok (.iconst 2, 1) := by decide +kernel
theorem dX5_fit_6 : decode cX5_fit 6 = .ok (.if_icmp .le 5, 3) := by decide +kernel
theorem dX5_fit_9 : decode cX5_fit 9 = .ok (.iconst (-1), 1) := by decide +kernel
theorem dX5_fit_10 : decode cX5_fit 10 = .ok (.ireturn, 1) := by decide +kernel
theorem dX5_fit_11 : decode cX5_fit 11 = .ok (.iconst 0, 1) := by decide +kernel
theorem dX5_fit_12 : decode cX5_fit 12 = .ok (.istore_n 2, 1) := by decide +kernel
theorem dX5_fit_13 : decode cX5_fit 13 = .ok (.bipush (-9), 2) := by decide +kernel
theorem dX5_fit_15 : decode cX5_fit 15 = .ok (.istore_n 3, 1) := by decide +kernel
theorem dX5_fit_16 : decode cX5_fit 16 = .ok (.bipush 31, 2) := by decide +kernel
theorem dX5_fit_18 : decode cX5_fit 18 = .ok (.istore 4, 2) := by decide +kernel
theorem dX5_fit_20 : decode cX5_fit 20 = .ok (.iconst 0, 1) := by decide +kernel
theorem dX5_fit_21 : decode cX5_fit 21 = .ok (.istore 5, 2) := by decide +kernel
theorem dX5_fit_23 : decode cX5_fit 23 = .ok (.iload 5, 2) := by decide +kernel
theorem dX5_fit_25 : decode cX5_fit 25 = .ok (.bipush 31, 2) := by decide +kernel
theorem dX5_fit_27 : decode cX5_fit 27 = .ok (.if_icmp .gt 49, 3) := by decide +kernel
theorem dX5_fit_30 : decode cX5_fit 30 = .ok (.aload_n 0, 1) := by decide +kernel
theorem dX5_fit_31 : decode cX5_fit 31 = .ok (.getfield 54, 3) := by decide +kernel
theorem dX5_fit_34 : decode cX5_fit 34 = .ok (.aload_n 0, 1) := by decide +kernel
theorem dX5_fit_35 : decode cX5_fit 35 = .ok (.getfield 10, 3) := by decide +kernel
theorem dX5_fit_38 : decode cX5_fit 38 = .ok (.iload 5, 2) := by decide +kernel
theorem dX5_fit_40 : decode cX5_fit 40 = .ok (.invokevirtual 194, 3) := by decide +kernel
theorem dX5_fit_43 : decode cX5_fit 43 = .ok (.invokevirtual 197, 3) := by decide +kernel
theorem dX5_fit_46 : decode cX5_fit 46 = .ok (.ifCond .eq 24, 3) := by decide +kernel
theorem dX5_fit_49 : decode cX5_fit 49 = .ok (.iload_n 2, 1) := by decide +kernel
theorem dX5_fit_50 : decode cX5_fit 50 = .ok (.ifCond .ne 8, 3) := by decide +kernel
theorem dX5_fit_53 : decode cX5_fit 53 = .ok (.iload 5, 2) := by decide +kernel
theorem dX5_fit_55 : decode cX5_fit 55 = .ok (.goto 4, 3) := by decide +kernel
theorem dX5_fit_58 : decode cX5_fit 58 = .ok (.iload_n 3, 1) := by decide +kernel
theorem dX5_fit_59 : decode cX5_fit 59 = .ok (.istore_n 3, 1) := by decide +kernel
theorem dX5_fit_60 : decode cX5_fit 60 = .ok (.iload 4, 2) := by decide +kernel
theorem dX5_fit_62 : decode cX5_fit 62 = .ok (.iload 5, 2) := by decide +kernel
theorem dX5_fit_64 : decode cX5_fit 64 = .ok (.iand, 1) := by decide +kernel
theorem dX5_fit_65 : decode cX5_fit 65 = .ok (.istore 4, 2) := by decide +kernel
theorem dX5_fit_67 : decode cX5_fit 67 = .ok (.iinc 2 1, 3) := by decide +kernel
theorem dX5_fit_70 : decode cX5_fit 70 = .ok (.iinc 5 1, 3) := by decide +kernel
theorem dX5_fit_73 : decode cX5_fit 73 = .ok (.goto (-50), 3) := by decide +kernel
theorem dX5_fit_76 : decode cX5_fit 76 = .ok (.iload_n 1, 1) := by decide +kernel
theorem dX5_fit_77 : decode cX5_fit 77 = .ok (.ifCond .ne 5, 3) := by decide +kernel
theorem dX5_fit_80 : decode cX5_fit 80 = .ok (.iload_n 2, 1) := by decide +kernel
theorem dX5_fit_81 : decode cX5_fit 81 = .ok (.ireturn, 1) := by decide +kernel
theorem dX5_fit_82 : decode cX5_fit 82 = .ok (.iload_n 1, 1) := by decide +kernel
theorem dX5_fit_83 : decode cX5_fit 83 = .ok (.iconst 1, 1) := by decide +kernel
theorem dX5_fit_84 : decode cX5_fit 84 = .ok (.if_icmp .eq 7, 3) := by decide +kernel
theorem dX5_fit_87 : decode cX5_fit 87 = .ok (.iload_n 2, 1) := by decide +kernel
theorem dX5_fit_88 : decode cX5_fit 88 = .ok (.ifCond .ne 7, 3) := by decide +kernel
theorem dX5_fit_91 : decode cX5_fit 91 = .ok (.iload_n 3, 1) := by decide +kernel
theorem dX5_fit_92 : decode cX5_fit 92 = .ok (.goto 5, 3) := by decide +kernel
theorem dX5_fit_95 : decode cX5_fit 95 = .ok (.iload 4, 2) := by decide +kernel
theorem dX5_fit_97 : decode cX5_fit 97 = .ok (.ireturn, 1) := by decide +kernel
set_option maxRecDepth 20000 in
theorem ggX5_lost_X5_isZ : GoodIn wsX5_lost wsX5_isZ := goodIn_r _ [7] (by decide +kernel) (by decide +kernel)
set_option maxRecDepth 20000 in
theorem gX5_lost_X5_isZ : GoodIn wsX5_lost (va_wsS RX5 142 yX5_isZ wsX5_isZ) := goodIn_app (goodIn_of _ (by decide +kernel)) ggX5_lost_X5_isZ
set_option maxRecDepth 20000 in
theorem ggX5_lost_X3_become : GoodIn wsX5_lost wsX3_become := goodIn_r _ [12, 13, 14, 15, 16, 17, 76, 77, 78, 79, 80] (by decide +kernel) (by decide +kernel)
set_option maxRecDepth 20000 in
theorem gX5_lost_X3_become : GoodIn wsX5_lost (wsV RX5 200 RX3 yX3_become wsX3_become) := goodIn_app (goodIn_of _ (by decide +kernel)) ggX5_lost_X3_become
set_option maxRecDepth 20000 in
theorem ggX5_lost_X5_passDay : GoodIn wsX5_lost wsX5_passDay := goodIn_r _ [21, 22, 23, 24, 3, 25, 26, 27, 28, 29, 30, 31, 32, 33, 34, 35, 36, 37, 38, 39, 40, 41, 42, 43, 44, 45, 46, 47, 48, 49, 50, 51, 52, 6, 53, 54, 55, 56, 57, 58, 59, 60, 61, 62, 63, 64, 65, 66, 67, 68, 69, 70, 71, 72, 73, 74, 75, 76, 77, 78, 79, 80, 81, 82, 83, 84, 85, 86, 87, 88, 89] (by decide +kernel) (by decide +kernel)
set_option maxRecDepth 20000 in
theorem gX5_lost_X5_passDay : GoodIn wsX5_lost (wsV RX5 145 RX5 yX5_passDay wsX5_passDay) := goodIn_app (goodIn_of _ (by decide +kernel)) ggX5_lost_X5_passDay
theorem dX5_lost_0 : decode cX5_lost 0 = .ok (.iload_n 1, 1) := by decide +kernel
theorem dX5_lost_1 : decode cX5_lost 1 = .ok (.invokestatic 142, 3) := by decide +kernel
theorem dX5_lost_4 : decode cX5_lost 4 = .ok (.ifCond .eq 13, 3) := by decide +kernel
theorem dX5_lost_7 : decode cX5_lost 7 = .ok (.iload_n 2, 1) := by decide +kernel
theorem dX5_lost_8 : decode cX5_lost 8 = .ok (.ifCond .lt 9, 3) := by decide +kernel
theorem dX5_lost_11 : decode cX5_lost 11 = .ok (.iload_n 2, 1) := by decide +kernel
theorem dX5_lost_12 : decode cX5_lost 12 = .ok (.bipush 7, 2) := by decide +kernel
theorem dX5_lost_14 : decode cX5_lost 14 = .ok (.if_icmp .le 5, 3) := by decide +kernel
theorem dX5_lost_17 : decode cX5_lost 17 = .ok (.iconst (-1), 1) := by decide +kernel
theorem dX5_lost_18 : decode cX5_lost 18 = .ok (.ireturn, 1) := by decide +kernel
theorem dX5_lost_19 : decode cX5_lost 19 = .ok (.aload_n 0, 1) := by decide +kernel
theorem dX5_lost_20 : decode cX5_lost 20 = .ok (.getfield 33, 3) := by decide +kernel
theorem dX5_lost_23 : decode cX5_lost 23 = .ok (.aload_n 0, 1) := by decide +kernel
theorem dX5_lost_24 : decode cX5_lost 24 = .ok (.getfield 29, 3) := by decide +kernel
theorem dX5_lost_27 : decode cX5_lost 27 = .ok (.invokevirtual 200, 3) := by decide +kernel
theorem dX5_lost_30 : decode cX5_lost 30 = .ok (.iconst 0, 1) := by decide +kernel
theorem dX5_lost_31 : decode cX5_lost 31 = .ok (.istore_n 3, 1) := by decide +kernel
theorem dX5_lost_32 : decode cX5_lost 32 = .ok (.iload_n 3, 1) := by decide +kernel
theorem dX5_lost_33 : decode cX5_lost 33 = .ok (.iload_n 2, 1) := by decide +kernel
theorem dX5_lost_34 : decode cX5_lost 34 = .ok (.if_icmp .ge 25, 3) := by decide +kernel
theorem dX5_lost_37 : decode cX5_lost 37 = .ok (.aload_n 0, 1) := by decide +kernel
theorem dX5_lost_38 : decode cX5_lost 38 = .ok (.aload_n 0, 1) := by decide +kernel
theorem dX5_lost_39 : decode cX5_lost 39 = .ok (.getfield 33, 3) := by decide +kernel
theorem dX5_lost_42 : decode cX5_lost 42 = .ok (.iload_n 1, 1) := by decide +kernel
theorem dX5_lost_43 : decode cX5_lost 43 = .ok (.iload_n 3, 1) := by decide +kernel
theorem dX5_lost_44 : decode cX5_lost 44 = .ok (.iadd, 1) := by decide +kernel
theorem dX5_lost_45 : decode cX5_lost 45 = .ok (.sipush 10000, 3) := by decide +kernel
theorem dX5_lost_48 : decode cX5_lost 48 = .ok (.irem, 1) := by decide +kernel
theorem dX5_lost_49 : decode cX5_lost 49 = .ok (.invokevirtual 145, 3) := by decide +kernel
theorem dX5_lost_52 : decode cX5_lost 52 = .ok (.pop, 1) := by decide +kernel
theorem dX5_lost_53 : decode cX5_lost 53 = .ok (.iinc 3 1, 3) := by decide +kernel
theorem dX5_lost_56 : decode cX5_lost 56 = .ok (.goto (-24), 3) := by decide +kernel
theorem dX5_lost_59 : decode cX5_lost 59 = .ok (.aload_n 0, 1) := by decide +kernel
theorem dX5_lost_60 : decode cX5_lost 60 = .ok (.getfield 33, 3) := by decide +kernel
theorem dX5_lost_63 : decode cX5_lost 63 = .ok (.getfield 100, 3) := by decide +kernel
theorem dX5_lost_66 : decode cX5_lost 66 = .ok (.ireturn, 1) := by decide +kernel
set_option maxRecDepth 20000 in
theorem ggX5_draw_X0_holds : GoodIn wsX5_draw wsX0_holds := goodIn_r _ [9, 10, 74, 75, 76, 77, 78, 79, 80, 81, 82] (by decide +kernel) (by decide +kernel)
set_option maxRecDepth 20000 in
theorem gX5_draw_X0_holds : GoodIn wsX5_draw (wsV RX5 77 RX0 yX0_holds wsX0_holds) := goodIn_app (goodIn_of _ (by decide +kernel)) ggX5_draw_X0_holds
set_option maxRecDepth 20000 in
theorem ggX5_draw_X5_isYesOrNo : GoodIn wsX5_draw wsX5_isYesOrNo := goodIn_r _ [14] (by decide +kernel) (by decide +kernel)
set_option maxRecDepth 20000 in
theorem gX5_draw_X5_isYesOrNo : GoodIn wsX5_draw (va_wsS RX5 135 yX5_isYesOrNo wsX5_isYesOrNo) := goodIn_app (goodIn_of _ (by decide +kernel)) ggX5_draw_X5_isYesOrNo
set_option maxRecDepth 20000 in
theorem ggX5_draw_X5_ableNow : GoodIn wsX5_draw wsX5_ableNow := goodIn_r _ [18, 1, 3, 19, 20, 21, 22, 8, 23, 24, 25, 26, 27, 28, 29, 30, 31, 32, 33, 34, 10, 35, 36, 37, 38, 39, 40, 64, 65, 66, 67, 68, 69, 70, 71, 72, 73, 83, 84, 85, 86, 87, 74, 75, 76, 77, 78, 79, 80, 81, 82] (by decide +kernel) (by decide +kernel)
set_option maxRecDepth 20000 in
theorem gX5_draw_X5_ableNow : GoodIn wsX5_draw (wsV RX5 107 RX5 yX5_ableNow wsX5_ableNow) := goodIn_app (goodIn_of _ (by decide +kernel)) ggX5_draw_X5_ableNow
set_option maxRecDepth 20000 in
theorem ggX5_draw_X5_bitOf : GoodIn wsX5_draw wsX5_bitOf := goodIn_r _ [43] (by decide +kernel) (by decide +kernel)
set_option maxRecDepth 20000 in
theorem gX5_draw_X5_bitOf : GoodIn wsX5_draw (va_wsS RX5 93 yX5_bitOf wsX5_bitOf) := goodIn_app (goodIn_of _ (by decide +kernel)) ggX5_draw_X5_bitOf
set_option maxRecDepth 20000 in
theorem ggX5_draw_X0_eagerTogether : GoodIn wsX5_draw wsX0_eagerTogether := goodIn_r _ [47, 10, 40, 42, 13, 43, 74, 75, 76, 77, 78, 79, 80, 81, 82] (by decide +kernel) (by decide +kernel)
set_option maxRecDepth 20000 in
theorem gX5_draw_X0_eagerTogether : GoodIn wsX5_draw (wsV RX5 203 RX0 yX0_eagerTogether wsX0_eagerTogether) := goodIn_app (goodIn_of _ (by decide +kernel)) ggX5_draw_X0_eagerTogether
set_option maxRecDepth 20000 in
theorem ggX5_draw_X0_shares : GoodIn wsX5_draw wsX0_shares := goodIn_r _ [51, 52, 53, 54, 55, 56, 45, 46, 8, 47, 10, 40, 42, 13, 43, 74, 75, 76, 77, 78, 79, 80, 81, 82] (by decide +kernel) (by decide +kernel)
set_option maxRecDepth 20000 in
theorem gX5_draw_X0_shares : GoodIn wsX5_draw (wsV RX5 155 RX0 yX0_shares wsX0_shares) := goodIn_app (goodIn_of _ (by decide +kernel)) ggX5_draw_X0_shares
set_option maxRecDepth 20000 in
theorem ggX5_draw_X5_drawn : GoodIn wsX5_draw wsX5_drawn := goodIn_r _ [59, 60, 61, 62, 63] (by decide +kernel) (by decide +kernel)
set_option maxRecDepth 20000 in
theorem gX5_draw_X5_drawn : GoodIn wsX5_draw (va_wsS RX5 206 yX5_drawn wsX5_drawn) := goodIn_app (goodIn_of _ (by decide +kernel)) ggX5_draw_X5_drawn
theorem dX5_draw_0 : decode cX5_draw 0 = .ok (.aload_n 0, 1) := by decide +kernel
theorem dX5_draw_1 : decode cX5_draw 1 = .ok (.getfield 10, 3) := by decide +kernel
theorem dX5_draw_4 : decode cX5_draw 4 = .ok (.iload_n 1, 1) := by decide +kernel
theorem dX5_draw_5 : decode cX5_draw 5 = .ok (.invokevirtual 77, 3) := by decide +kernel
theorem dX5_draw_8 : decode cX5_draw 8 = .ok (.ifCond .eq 10, 3) := by decide +kernel
theorem dX5_draw_11 : decode cX5_draw 11 = .ok (.iload_n 2, 1) := by decide +kernel
theorem dX5_draw_12 : decode cX5_draw 12 = .ok (.invokestatic 135, 3) := by decide +kernel
theorem dX5_draw_15 : decode cX5_draw 15 = .ok (.ifCond .ne 5, 3) := by decide +kernel
theorem dX5_draw_18 : decode cX5_draw 18 = .ok (.iconst (-1), 1) := by decide +kernel
theorem dX5_draw_19 : decode cX5_draw 19 = .ok (.ireturn, 1) := by decide +kernel
theorem dX5_draw_20 : decode cX5_draw 20 = .ok (.aload_n 0, 1) := by decide +kernel
theorem dX5_draw_21 : decode cX5_draw 21 = .ok (.invokevirtual 107, 3) := by decide +kernel
theorem dX5_draw_24 : decode cX5_draw 24 = .ok (.istore_n 3, 1) := by decide +kernel
theorem dX5_draw_25 : decode cX5_draw 25 = .ok (.iload_n 3, 1) := by decide +kernel
theorem dX5_draw_26 : decode cX5_draw 26 = .ok (.iload_n 1, 1) := by decide +kernel
theorem dX5_draw_27 : decode cX5_draw 27 = .ok (.invokestatic 93, 3) := by decide +kernel
theorem dX5_draw_30 : decode cX5_draw 30 = .ok (.iconst 1, 1) := by decide +kernel
theorem dX5_draw_31 : decode cX5_draw 31 = .ok (.if_icmp .ne 15, 3) := by decide +kernel
theorem dX5_draw_34 : decode cX5_draw 34 = .ok (.aload_n 0, 1) := by decide +kernel
theorem dX5_draw_35 : decode cX5_draw 35 = .ok (.getfield 10, 3) := by decide +kernel
theorem dX5_draw_38 : decode cX5_draw 38 = .ok (.getfield 87, 3) := by decide +kernel
theorem dX5_draw_41 : decode cX5_draw 41 = .ok (.iload_n 1, 1) := by decide +kernel
theorem dX5_draw_42 : decode cX5_draw 42 = .ok (.iaload, 1) := by decide +kernel
theorem dX5_draw_43 : decode cX5_draw 43 = .ok (.goto 4, 3) := by decide +kernel
theorem dX5_draw_46 : decode cX5_draw 46 = .ok (.iconst 0, 1) := by decide +kernel
theorem dX5_draw_47 : decode cX5_draw 47 = .ok (.istore 4, 2) := by decide +kernel
theorem dX5_draw_49 : decode cX5_draw 49 = .ok (.aload_n 0, 1) := by decide +kernel
theorem dX5_draw_50 : decode cX5_draw 50 = .ok (.getfield 10, 3) := by decide +kernel
theorem dX5_draw_53 : decode cX5_draw 53 = .ok (.iload_n 3, 1) := by decide +kernel
theorem dX5_draw_54 : decode cX5_draw 54 = .ok (.iconst 1, 1) := by decide +kernel
theorem dX5_draw_55 : decode cX5_draw 55 = .ok (.iload_n 1, 1) := by decide +kernel
theorem dX5_draw_56 : decode cX5_draw 56 = .ok (.ishl, 1) := by decide +kernel
theorem dX5_draw_57 : decode cX5_draw 57 = .ok (.iconst 1, 1) := by decide +kernel
theorem dX5_draw_58 : decode cX5_draw 58 = .ok (.isub, 1) := by decide +kernel
theorem dX5_draw_59 : decode cX5_draw 59 = .ok (.iand, 1) := by decide +kernel
theorem dX5_draw_60 : decode cX5_draw 60 = .ok (.invokevirtual 203, 3) := by decide +kernel
theorem dX5_draw_63 : decode cX5_draw 63 = .ok (.istore 5, 2) := by decide +kernel
theorem dX5_draw_65 : decode cX5_draw 65 = .ok (.aload_n 0, 1) := by decide +kernel
theorem dX5_draw_66 : decode cX5_draw 66 = .ok (.getfield 10, 3) := by decide +kernel
theorem dX5_draw_69 : decode cX5_draw 69 = .ok (.iload_n 3, 1) := by decide +kernel
theorem dX5_draw_70 : decode cX5_draw 70 = .ok (.invokevirtual 155, 3) := by decide +kernel
theorem dX5_draw_73 : decode cX5_draw 73 = .ok (.istore 6, 2) := by decide +kernel
theorem dX5_draw_75 : decode cX5_draw 75 = .ok (.iconst 0, 1) := by decide +kernel
theorem dX5_draw_76 : decode cX5_draw 76 = .ok (.istore 7, 2) := by decide +kernel
theorem dX5_draw_78 : decode cX5_draw 78 = .ok (.bipush (-9), 2) := by decide +kernel
theorem dX5_draw_80 : decode cX5_draw 80 = .ok (.istore 8, 2) := by decide +kernel
theorem dX5_draw_82 : decode cX5_draw 82 = .ok (.iconst 0, 1) := by decide +kernel
theorem dX5_draw_83 : decode cX5_draw 83 = .ok (.istore 9, 2) := by decide +kernel
theorem dX5_draw_85 : decode cX5_draw 85 = .ok (.iload 9, 2) := by decide +kernel
theorem dX5_draw_87 : decode cX5_draw 87 = .ok (.sipush 500, 3) := by decide +kernel
theorem dX5_draw_90 : decode cX5_draw 90 = .ok (.if_icmp .ge 59, 3) := by decide +kernel
theorem dX5_draw_93 : decode cX5_draw 93 = .ok (.iload 9, 2) := by decide +kernel
theorem dX5_draw_95 : decode cX5_draw 95 = .ok (.aload_n 0, 1) := by decide +kernel
theorem dX5_draw_96 : decode cX5_draw 96 = .ok (.getfield 29, 3) := by decide +kernel
theorem dX5_draw_99 : decode cX5_draw 99 = .ok (.getfield 110, 3) := by decide +kernel
theorem dX5_draw_102 : decode cX5_draw 102 = .ok (.iload 6, 2) := by decide +kernel
theorem dX5_draw_104 : decode cX5_draw 104 = .ok (.invokestatic 206, 3) := by decide +kernel
theorem dX5_draw_107 : decode cX5_draw 107 = .ok (.istore 10, 2) := by decide +kernel
theorem dX5_draw_109 : decode cX5_draw 109 = .ok (.iload 10, 2) := by decide +kernel
theorem dX5_draw_111 : decode cX5_draw 111 = .ok (.iload 5, 2) := by decide +kernel
theorem dX5_draw_113 : decode cX5_draw 113 = .ok (.if_icmp .lt 30, 3) := by decide +kernel
theorem dX5_draw_116 : decode cX5_draw 116 = .ok (.iload 10, 2) := by decide +kernel
theorem dX5_draw_118 : decode cX5_draw 118 = .ok (.iload 5, 2) := by decide +kernel
theorem dX5_draw_120 : decode cX5_draw 120 = .ok (.iload 4, 2) := by decide +kernel
theorem dX5_draw_122 : decode cX5_draw 122 = .ok (.iadd, 1) := by decide +kernel
theorem dX5_draw_123 : decode cX5_draw 123 = .ok (.if_icmp .ge 20, 3) := by decide +kernel
theorem dX5_draw_126 : decode cX5_draw 126 = .ok (.iload 7, 2) := by decide +kernel
theorem dX5_draw_128 : decode cX5_draw 128 = .ok (.ifCond .ne 8, 3) := by decide +kernel
theorem dX5_draw_131 : decode cX5_draw 131 = .ok (.iload 9, 2) := by decide +kernel
theorem dX5_draw_133 : decode cX5_draw 133 = .ok (.goto 5, 3) := by decide +kernel
theorem dX5_draw_136 : decode cX5_draw 136 = .ok (.iload 8, 2) := by decide +kernel
theorem dX5_draw_138 : decode cX5_draw 138 = .ok (.istore 8, 2) := by decide +kernel
theorem dX5_draw_140 : decode cX5_draw 140 = .ok (.iinc 7 1, 3) := by decide +kernel
theorem dX5_draw_143 : decode cX5_draw 143 = .ok (.iinc 9 1, 3) := by decide +kernel
theorem dX5_draw_146 : decode cX5_draw 146 = .ok (.goto (-61), 3) := by decide +kernel
theorem dX5_draw_149 : decode cX5_draw 149 = .ok (.iload_n 2, 1) := by decide +kernel
theorem dX5_draw_150 : decode cX5_draw 150 = .ok (.ifCond .ne 8, 3) := by decide +kernel
theorem dX5_draw_153 : decode cX5_draw 153 = .ok (.iload 7, 2) := by decide +kernel
theorem dX5_draw_155 : decode cX5_draw 155 = .ok (.goto 5, 3) := by decide +kernel
theorem dX5_draw_158 : decode cX5_draw 158 = .ok (.iload 8, 2) := by decide +kernel
theorem dX5_draw_160 : decode cX5_draw 160 = .ok (.ireturn, 1) := by decide +kernel
set_option maxRecDepth 20000 in
theorem ggX5_rate_X0_holds : GoodIn wsX5_rate wsX0_holds := goodIn_r _ [7, 8, 62, 63, 64, 65, 66, 67, 68, 69, 70] (by decide +kernel) (by decide +kernel)
set_option maxRecDepth 20000 in
theorem gX5_rate_X0_holds : GoodIn wsX5_rate (wsV RX5 77 RX0 yX0_holds wsX0_holds) := goodIn_app (goodIn_of _ (by decide +kernel)) ggX5_rate_X0_holds
set_option maxRecDepth 20000 in
theorem ggX5_rate_X5_rateAsCalf : GoodIn wsX5_rate wsX5_rateAsCalf := goodIn_r _ [13, 14, 15, 1, 16, 17, 18, 19, 12, 20, 21, 52, 53, 54, 55, 56, 57, 58, 59, 60, 61, 62, 63, 64, 65, 66, 67, 68, 69, 70] (by decide +kernel) (by decide +kernel)
set_option maxRecDepth 20000 in
theorem gX5_rate_X5_rateAsCalf : GoodIn wsX5_rate (wsV RX5 209 RX5 yX5_rateAsCalf wsX5_rateAsCalf) := goodIn_app (goodIn_of _ (by decide +kernel)) ggX5_rate_X5_rateAsCalf
set_option maxRecDepth 20000 in
theorem ggX5_rate_X5_rateAsChild : GoodIn wsX5_rate wsX5_rateAsChild := goodIn_r _ [25, 14, 26, 1, 27, 17, 18, 19, 12, 20, 21, 28, 29, 30, 31, 32, 33, 34, 52, 53, 54, 55, 56, 57, 58, 59, 60, 61, 62, 63, 64, 65, 66, 67, 68, 69, 70] (by decide +kernel) (by decide +kernel)
set_option maxRecDepth 20000 in
theorem gX5_rate_X5_rateAsChild : GoodIn wsX5_rate (wsV RX5 212 RX5 yX5_rateAsChild wsX5_rateAsChild) := goodIn_app (goodIn_of _ (by decide +kernel)) ggX5_rate_X5_rateAsChild
set_option maxRecDepth 20000 in
theorem ggX5_rate_X5_rateAsDog : GoodIn wsX5_rate wsX5_rateAsDog := goodIn_r _ [38, 14, 39, 9, 10, 11, 12, 13, 15, 1, 16, 17, 18, 19, 20, 21, 52, 53, 54, 55, 56, 57, 58, 59, 60, 61, 62, 63, 64, 65, 66, 67, 68, 69, 70] (by decide +kernel) (by decide +kernel)
set_option maxRecDepth 20000 in
theorem gX5_rate_X5_rateAsDog : GoodIn wsX5_rate (wsV RX5 215 RX5 yX5_rateAsDog wsX5_rateAsDog) := goodIn_app (goodIn_of _ (by decide +kernel)) ggX5_rate_X5_rateAsDog
set_option maxRecDepth 20000 in
theorem ggX5_rate_X5_rateAsDrum : GoodIn wsX5_rate wsX5_rateAsDrum := goodIn_r _ [43, 14, 44, 22, 23, 24, 12, 25, 26, 1, 27, 17, 18, 19, 20, 21, 28, 29, 30, 31, 32, 33, 34, 52, 53, 54, 55, 56, 57, 58, 59, 60, 61, 62, 63, 64, 65, 66, 67, 68, 69, 70] (by decide +kernel) (by decide +kernel)
set_option maxRecDepth 20000 in
theorem gX5_rate_X5_rateAsDrum : GoodIn wsX5_rate (wsV RX5 218 RX5 yX5_rateAsDrum wsX5_rateAsDrum) := goodIn_app (goodIn_of _ (by decide +kernel)) ggX5_rate_X5_rateAsDrum
set_option maxRecDepth 20000 in
theorem ggX5_rate_X5_rateAsPriest : GoodIn wsX5_rate wsX5_rateAsPriest := goodIn_r _ [48, 14, 49, 50, 51, 17, 18, 19, 12, 20, 1, 21, 52, 53, 54, 55, 56, 57, 58, 59, 60, 61, 71, 72, 73, 74, 75, 62, 63, 64, 65, 66, 67, 68, 69, 70] (by decide +kernel) (by decide +kernel)
set_option maxRecDepth 20000 in
theorem gX5_rate_X5_rateAsPriest : GoodIn wsX5_rate (wsV RX5 221 RX5 yX5_rateAsPriest wsX5_rateAsPriest) := goodIn_app (goodIn_of _ (by decide +kernel)) ggX5_rate_X5_rateAsPriest
set_option maxRecDepth 20000 in
theorem ggX5_rate_X5_rateAsThing : GoodIn wsX5_rate wsX5_rateAsThing := goodIn_r _ [20, 14, 1, 21, 52, 53, 54, 55, 56, 57, 58, 59, 60, 61, 62, 63, 64, 65, 66, 67, 68, 69, 70] (by decide +kernel) (by decide +kernel)
set_option maxRecDepth 20000 in
theorem gX5_rate_X5_rateAsThing : GoodIn wsX5_rate (wsV RX5 224 RX5 yX5_rateAsThing wsX5_rateAsThing) := goodIn_app (goodIn_of _ (by decide +kernel)) ggX5_rate_X5_rateAsThing
theorem dX5_rate_0 : decode cX5_rate 0 = .ok (.iload_n 1, 1) := by decide +kernel
theorem dX5_rate_1 : decode cX5_rate 1 = .ok (.ifCond .lt 20, 3) := by decide +kernel
theorem dX5_rate_4 : decode cX5_rate 4 = .ok (.iload_n 1, 1) := by decide +kernel
theorem dX5_rate_5 : decode cX5_rate 5 = .ok (.bipush 6, 2) := by decide +kernel
theorem dX5_rate_7 : decode cX5_rate 7 = .ok (.if_icmp .ge 14, 3) := by decide +kernel
theorem dX5_rate_10 : decode cX5_rate 10 = .ok (.aload_n 0, 1) := by decide +kernel
theorem dX5_rate_11 : decode cX5_rate 11 = .ok (.getfield 10, 3) := by decide +kernel
theorem dX5_rate_14 : decode cX5_rate 14 = .ok (.iload_n 2, 1) := by decide +kernel
theorem dX5_rate_15 : decode cX5_rate 15 = .ok (.invokevirtual 77, 3) := by decide +kernel
theorem dX5_rate_18 : decode cX5_rate 18 = .ok (.ifCond .ne 6, 3) := by decide +kernel
theorem dX5_rate_21 : decode cX5_rate 21 = .ok (.ldc 161, 2) := by decide +kernel
theorem dX5_rate_23 : decode cX5_rate 23 = .ok (.ireturn, 1) := by decide +kernel
theorem dX5_rate_24 : decode cX5_rate 24 = .ok (.iload_n 1, 1) := by decide +kernel
theorem dX5_rate_25 : decode cX5_rate 25 = .ok (.tableswitch 65 1 5 #[35, 41, 47, 53, 59], 35) := by decide +kernel
theorem dX5_rate_60 : decode cX5_rate 60 = .ok (.aload_n 0, 1) := by decide +kernel
theorem dX5_rate_61 : decode cX5_rate 61 = .ok (.iload_n 2, 1) := by decide +kernel
theorem dX5_rate_62 : decode cX5_rate 62 = .ok (.invokevirtual 209, 3) := by decide +kernel
theorem dX5_rate_65 : decode cX5_rate 65 = .ok (.ireturn, 1) := by decide +kernel
theorem dX5_rate_66 : decode cX5_rate 66 = .ok (.aload_n 0, 1) := by decide +kernel
theorem dX5_rate_67 : decode cX5_rate 67 = .ok (.iload_n 2, 1) := by decide +kernel
theorem dX5_rate_68 : decode cX5_rate 68 = .ok (.invokevirtual 212, 3) := by decide +kernel
theorem dX5_rate_71 : decode cX5_rate 71 = .ok (.ireturn, 1) := by decide +kernel
theorem dX5_rate_72 : decode cX5_rate 72 = .ok (.aload_n 0, 1) := by decide +kernel
theorem dX5_rate_73 : decode cX5_rate 73 = .ok (.iload_n 2, 1) := by decide +kernel
theorem dX5_rate_74 : decode cX5_rate 74 = .ok (.invokevirtual 215, 3) := by decide +kernel
theorem dX5_rate_77 : decode cX5_rate 77 = .ok (.ireturn, 1) := by decide +kernel
theorem dX5_rate_78 : decode cX5_rate 78 = .ok (.aload_n 0, 1) := by decide +kernel
theorem dX5_rate_79 : decode cX5_rate 79 = .ok (.iload_n 2, 1) := by decide +kernel
theorem dX5_rate_80 : decode cX5_rate 80 = .ok (.invokevirtual 218, 3) := by decide +kernel
theorem dX5_rate_83 : decode cX5_rate 83 = .ok (.ireturn, 1) := by decide +kernel
theorem dX5_rate_84 : decode cX5_rate 84 = .ok (.aload_n 0, 1) := by decide +kernel
theorem dX5_rate_85 : decode cX5_rate 85 = .ok (.iload_n 2, 1) := by decide +kernel
theorem dX5_rate_86 : decode cX5_rate 86 = .ok (.invokevirtual 221, 3) := by decide +kernel
theorem dX5_rate_89 : decode cX5_rate 89 = .ok (.ireturn, 1) := by decide +kernel
theorem dX5_rate_90 : decode cX5_rate 90 = .ok (.aload_n 0, 1) := by decide +kernel
theorem dX5_rate_91 : decode cX5_rate 91 = .ok (.iload_n 2, 1) := by decide +kernel
theorem dX5_rate_92 : decode cX5_rate 92 = .ok (.invokevirtual 224, 3) := by decide +kernel
theorem dX5_rate_95 : decode cX5_rate 95 = .ok (.ireturn, 1) := by decide +kernel
set_option maxRecDepth 20000 in
theorem ggX5_keep_X3_become : GoodIn wsX5_keep wsX3_become := goodIn_r _ [9, 10, 11, 12, 13, 14, 25, 26, 27, 28, 29] (by decide +kernel) (by decide +kernel)
set_option maxRecDepth 20000 in
theorem gX5_keep_X3_become : GoodIn wsX5_keep (wsV RX5 200 RX3 yX3_become wsX3_become) := goodIn_app (goodIn_of _ (by decide +kernel)) ggX5_keep_X3_become
theorem dX5_keep_0 : decode cX5_keep 0 = .ok (.iload_n 1, 1) := by decide +kernel
theorem dX5_keep_1 : decode cX5_keep 1 = .ok (.ifCond .lt 8, 3) := by decide +kernel
theorem dX5_keep_4 : decode cX5_keep 4 = .ok (.iload_n 1, 1) := by decide +kernel
theorem dX5_keep_5 : decode cX5_keep 5 = .ok (.iconst 2, 1) := by decide +kernel
theorem dX5_keep_6 : decode cX5_keep 6 = .ok (.if_icmp .lt 5, 3) := by decide +kernel
theorem dX5_keep_9 : decode cX5_keep 9 = .ok (.iconst (-1), 1) := by decide +kernel
theorem dX5_keep_10 : decode cX5_keep 10 = .ok (.ireturn, 1) := by decide +kernel
theorem dX5_keep_11 : decode cX5_keep 11 = .ok (.aload_n 0, 1) := by decide +kernel
theorem dX5_keep_12 : decode cX5_keep 12 = .ok (.getfield 43, 3) := by decide +kernel
theorem dX5_keep_15 : decode cX5_keep 15 = .ok (.iload_n 1, 1) := by decide +kernel
theorem dX5_keep_16 : decode cX5_keep 16 = .ok (.aaload, 1) := by decide +kernel
theorem dX5_keep_17 : decode cX5_keep 17 = .ok (.aload_n 0, 1) := by decide +kernel
theorem dX5_keep_18 : decode cX5_keep 18 = .ok (.getfield 29, 3) := by decide +kernel
theorem dX5_keep_21 : decode cX5_keep 21 = .ok (.invokevirtual 200, 3) := by decide +kernel
theorem dX5_keep_24 : decode cX5_keep 24 = .ok (.aload_n 0, 1) := by decide +kernel
theorem dX5_keep_25 : decode cX5_keep 25 = .ok (.getfield 47, 3) := by decide +kernel
theorem dX5_keep_28 : decode cX5_keep 28 = .ok (.iload_n 1, 1) := by decide +kernel
theorem dX5_keep_29 : decode cX5_keep 29 = .ok (.iconst 1, 1) := by decide +kernel
theorem dX5_keep_30 : decode cX5_keep 30 = .ok (.bastore, 1) := by decide +kernel
theorem dX5_keep_31 : decode cX5_keep 31 = .ok (.aload_n 0, 1) := by decide +kernel
theorem dX5_keep_32 : decode cX5_keep 32 = .ok (.getfield 29, 3) := by decide +kernel
theorem dX5_keep_35 : decode cX5_keep 35 = .ok (.getfield 110, 3) := by decide +kernel
theorem dX5_keep_38 : decode cX5_keep 38 = .ok (.ireturn, 1) := by decide +kernel
set_option maxRecDepth 20000 in
theorem ggX5_back_X3_become : GoodIn wsX5_back wsX3_become := goodIn_r _ [11, 12, 13, 14, 15, 16, 30, 31, 32, 33, 34] (by decide +kernel) (by decide +kernel)
set_option maxRecDepth 20000 in
theorem gX5_back_X3_become : GoodIn wsX5_back (wsV RX5 200 RX3 yX3_become wsX3_become) := goodIn_app (goodIn_of _ (by decide +kernel)) ggX5_back_X3_become
theorem dX5_back_0 : decode cX5_back 0 = .ok (.iload_n 1, 1) := by decide +kernel
theorem dX5_back_1 : decode cX5_back 1 = .ok (.ifCond .lt 8, 3) := by decide +kernel
theorem dX5_back_4 : decode cX5_back 4 = .ok (.iload_n 1, 1) := by decide +kernel
theorem dX5_back_5 : decode cX5_back 5 = .ok (.iconst 2, 1) := by decide +kernel
theorem dX5_back_6 : decode cX5_back 6 = .ok (.if_icmp .lt 5, 3) := by decide +kernel
theorem dX5_back_9 : decode cX5_back 9 = .ok (.iconst (-1), 1) := by decide +kernel
theorem dX5_back_10 : decode cX5_back 10 = .ok (.ireturn, 1) := by decide +kernel
theorem dX5_back_11 : decode cX5_back 11 = .ok (.aload_n 0, 1) := by decide +kernel
theorem dX5_back_12 : decode cX5_back 12 = .ok (.getfield 47, 3) := by decide +kernel
theorem dX5_back_15 : decode cX5_back 15 = .ok (.iload_n 1, 1) := by decide +kernel
theorem dX5_back_16 : decode cX5_back 16 = .ok (.baload, 1) := by decide +kernel
theorem dX5_back_17 : decode cX5_back 17 = .ok (.ifCond .ne 6, 3) := by decide +kernel
theorem dX5_back_20 : decode cX5_back 20 = .ok (.bipush (-2), 2) := by decide +kernel
theorem dX5_back_22 : decode cX5_back 22 = .ok (.ireturn, 1) := by decide +kernel
theorem dX5_back_23 : decode cX5_back 23 = .ok (.aload_n 0, 1) := by decide +kernel
theorem dX5_back_24 : decode cX5_back 24 = .ok (.getfield 29, 3) := by decide +kernel
theorem dX5_back_27 : decode cX5_back 27 = .ok (.aload_n 0, 1) := by decide +kernel
theorem dX5_back_28 : decode cX5_back 28 = .ok (.getfield 43, 3) := by decide +kernel
theorem dX5_back_31 : decode cX5_back 31 = .ok (.iload_n 1, 1) := by decide +kernel
theorem dX5_back_32 : decode cX5_back 32 = .ok (.aaload, 1) := by decide +kernel
theorem dX5_back_33 : decode cX5_back 33 = .ok (.invokevirtual 200, 3) := by decide +kernel
theorem dX5_back_36 : decode cX5_back 36 = .ok (.aload_n 0, 1) := by decide +kernel
theorem dX5_back_37 : decode cX5_back 37 = .ok (.getfield 39, 3) := by decide +kernel
theorem dX5_back_40 : decode cX5_back 40 = .ok (.iconst 0, 1) := by decide +kernel
theorem dX5_back_41 : decode cX5_back 41 = .ok (.putfield 120, 3) := by decide +kernel
theorem dX5_back_44 : decode cX5_back 44 = .ok (.aload_n 0, 1) := by decide +kernel
theorem dX5_back_45 : decode cX5_back 45 = .ok (.getfield 29, 3) := by decide +kernel
theorem dX5_back_48 : decode cX5_back 48 = .ok (.getfield 110, 3) := by decide +kernel
theorem dX5_back_51 : decode cX5_back 51 = .ok (.ireturn, 1) := by decide +kernel
theorem dX5_count_0 : decode cX5_count 0 = .ok (.iload_n 1, 1) := by decide +kernel
theorem dX5_count_1 : decode cX5_count 1 = .ok (.tableswitch 87 0 5 #[39, 47, 55, 63, 71, 79], 39) := by decide +kernel
theorem dX5_count_40 : decode cX5_count 40 = .ok (.aload_n 0, 1) := by decide +kernel
theorem dX5_count_41 : decode cX5_count 41 = .ok (.getfield 10, 3) := by decide +kernel
theorem dX5_count_44 : decode cX5_count 44 = .ok (.getfield 171, 3) := by decide +kernel
theorem dX5_count_47 : decode cX5_count 47 = .ok (.ireturn, 1) := by decide +kernel
theorem dX5_count_48 : decode cX5_count 48 = .ok (.aload_n 0, 1) := by decide +kernel
theorem dX5_count_49 : decode cX5_count 49 = .ok (.getfield 10, 3) := by decide +kernel
theorem dX5_count_52 : decode cX5_count 52 = .ok (.getfield 168, 3) := by decide +kernel
theorem dX5_count_55 : decode cX5_count 55 = .ok (.ireturn, 1) := by decide +kernel
theorem dX5_count_56 : decode cX5_count 56 = .ok (.aload_n 0, 1) := by decide +kernel
theorem dX5_count_57 : decode cX5_count 57 = .ok (.getfield 10, 3) := by decide +kernel
theorem dX5_count_60 : decode cX5_count 60 = .ok (.getfield 162, 3) := by decide +kernel
theorem dX5_count_63 : decode cX5_count 63 = .ok (.ireturn, 1) := by decide +kernel
theorem dX5_count_64 : decode cX5_count 64 = .ok (.aload_n 0, 1) := by decide +kernel
theorem dX5_count_65 : decode cX5_count 65 = .ok (.getfield 10, 3) := by decide +kernel
theorem dX5_count_68 : decode cX5_count 68 = .ok (.getfield 165, 3) := by decide +kernel
theorem dX5_count_71 : decode cX5_count 71 = .ok (.ireturn, 1) := by decide +kernel
theorem dX5_count_72 : decode cX5_count 72 = .ok (.aload_n 0, 1) := by decide +kernel
theorem dX5_count_73 : decode cX5_count 73 = .ok (.getfield 54, 3) := by decide +kernel
theorem dX5_count_76 : decode cX5_count 76 = .ok (.getfield 193, 3) := by decide +kernel
theorem dX5_count_79 : decode cX5_count 79 = .ok (.ireturn, 1) := by decide +kernel
theorem dX5_count_80 : decode cX5_count 80 = .ok (.aload_n 0, 1) := by decide +kernel
theorem dX5_count_81 : decode cX5_count 81 = .ok (.getfield 22, 3) := by decide +kernel
theorem dX5_count_84 : decode cX5_count 84 = .ok (.getfield 66, 3) := by decide +kernel
theorem dX5_count_87 : decode cX5_count 87 = .ok (.ireturn, 1) := by decide +kernel
theorem dX5_count_88 : decode cX5_count 88 = .ok (.iconst (-1), 1) := by decide +kernel
theorem dX5_count_89 : decode cX5_count 89 = .ok (.ireturn, 1) := by decide +kernel
theorem dX5_trace_0 : decode cX5_trace 0 = .ok (.aload_n 0, 1) := by decide +kernel
theorem dX5_trace_1 : decode cX5_trace 1 = .ok (.getfield 58, 3) := by decide +kernel
theorem dX5_trace_4 : decode cX5_trace 4 = .ok (.lreturn, 1) := by decide +kernel
theorem dX5_beginAnew_0 : decode cX5_beginAnew 0 = .ok (.aload_n 0, 1) := by decide +kernel
theorem dX5_beginAnew_1 : decode cX5_beginAnew 1 = .ok (.getfield 29, 3) := by decide +kernel
theorem dX5_beginAnew_4 : decode cX5_beginAnew 4 = .ok (.aload_n 0, 1) := by decide +kernel
theorem dX5_beginAnew_5 : decode cX5_beginAnew 5 = .ok (.getfield 10, 3) := by decide +kernel
theorem dX5_beginAnew_8 : decode cX5_beginAnew 8 = .ok (.getfield 227, 3) := by decide +kernel
theorem dX5_beginAnew_11 : decode cX5_beginAnew 11 = .ok (.putfield 113, 3) := by decide +kernel
theorem dX5_beginAnew_14 : decode cX5_beginAnew 14 = .ok (.aload_n 0, 1) := by decide +kernel
theorem dX5_beginAnew_15 : decode cX5_beginAnew 15 = .ok (.getfield 29, 3) := by decide +kernel
theorem dX5_beginAnew_18 : decode cX5_beginAnew 18 = .ok (.aload_n 0, 1) := by decide +kernel
theorem dX5_beginAnew_19 : decode cX5_beginAnew 19 = .ok (.getfield 10, 3) := by decide +kernel
theorem dX5_beginAnew_22 : decode cX5_beginAnew 22 = .ok (.getfield 228, 3) := by decide +kernel
theorem dX5_beginAnew_25 : decode cX5_beginAnew 25 = .ok (.putfield 90, 3) := by decide +kernel
theorem dX5_beginAnew_28 : decode cX5_beginAnew 28 = .ok (.aload_n 0, 1) := by decide +kernel
theorem dX5_beginAnew_29 : decode cX5_beginAnew 29 = .ok (.getfield 29, 3) := by decide +kernel
theorem dX5_beginAnew_32 : decode cX5_beginAnew 32 = .ok (.iconst 0, 1) := by decide +kernel
theorem dX5_beginAnew_33 : decode cX5_beginAnew 33 = .ok (.putfield 97, 3) := by decide +kernel
theorem dX5_beginAnew_36 : decode cX5_beginAnew 36 = .ok (.aload_n 0, 1) := by decide +kernel
theorem dX5_beginAnew_37 : decode cX5_beginAnew 37 = .ok (.getfield 29, 3) := by decide +kernel
theorem dX5_beginAnew_40 : decode cX5_beginAnew 40 = .ok (.iconst 0, 1) := by decide +kernel
theorem dX5_beginAnew_41 : decode cX5_beginAnew 41 = .ok (.putfield 100, 3) := by decide +kernel
theorem dX5_beginAnew_44 : decode cX5_beginAnew 44 = .ok (.aload_n 0, 1) := by decide +kernel
theorem dX5_beginAnew_45 : decode cX5_beginAnew 45 = .ok (.getfield 29, 3) := by decide +kernel
theorem dX5_beginAnew_48 : decode cX5_beginAnew 48 = .ok (.iconst 0, 1) := by decide +kernel
theorem dX5_beginAnew_49 : decode cX5_beginAnew 49 = .ok (.putfield 110, 3) := by decide +kernel
theorem dX5_beginAnew_52 : decode cX5_beginAnew 52 = .ok (.aload_n 0, 1) := by decide +kernel
theorem dX5_beginAnew_53 : decode cX5_beginAnew 53 = .ok (.getfield 39, 3) := by decide +kernel
theorem dX5_beginAnew_56 : decode cX5_beginAnew 56 = .ok (.iconst 0, 1) := by decide +kernel
theorem dX5_beginAnew_57 : decode cX5_beginAnew 57 = .ok (.putfield 120, 3) := by decide +kernel
theorem dX5_beginAnew_60 : decode cX5_beginAnew 60 = .ok (.aload_n 0, 1) := by decide +kernel
theorem dX5_beginAnew_61 : decode cX5_beginAnew 61 = .ok (.getfield 54, 3) := by decide +kernel
theorem dX5_beginAnew_64 : decode cX5_beginAnew 64 = .ok (.iconst 0, 1) := by decide +kernel
theorem dX5_beginAnew_65 : decode cX5_beginAnew 65 = .ok (.putfield 193, 3) := by decide +kernel
theorem dX5_beginAnew_68 : decode cX5_beginAnew 68 = .ok (.iconst 0, 1) := by decide +kernel
theorem dX5_beginAnew_69 : decode cX5_beginAnew 69 = .ok (.istore_n 1, 1) := by decide +kernel
theorem dX5_beginAnew_70 : decode cX5_beginAnew 70 = .ok (.iload_n 1, 1) := by decide +kernel
theorem dX5_beginAnew_71 : decode cX5_beginAnew 71 = .ok (.iconst 2, 1) := by decide +kernel
theorem dX5_beginAnew_72 : decode cX5_beginAnew 72 = .ok (.if_icmp .ge 16, 3) := by decide +kernel
theorem dX5_beginAnew_75 : decode cX5_beginAnew 75 = .ok (.aload_n 0, 1) := by decide +kernel
theorem dX5_beginAnew_76 : decode cX5_beginAnew 76 = .ok (.getfield 47, 3) := by decide +kernel
theorem dX5_beginAnew_79 : decode cX5_beginAnew 79 = .ok (.iload_n 1, 1) := by decide +kernel
theorem dX5_beginAnew_80 : decode cX5_beginAnew 80 = .ok (.iconst 0, 1) := by decide +kernel
theorem dX5_beginAnew_81 : decode cX5_beginAnew 81 = .ok (.bastore, 1) := by decide +kernel
theorem dX5_beginAnew_82 : decode cX5_beginAnew 82 = .ok (.iinc 1 1, 3) := by decide +kernel
theorem dX5_beginAnew_85 : decode cX5_beginAnew 85 = .ok (.goto (-15), 3) := by decide +kernel
theorem dX5_beginAnew_88 : decode cX5_beginAnew 88 = .ok (.return_, 1) := by decide +kernel
set_option maxRecDepth 20000 in
theorem ggX5_coveredNow_X0_coveredBy : GoodIn wsX5_coveredNow wsX0_coveredBy := goodIn_r _ [8, 9, 10, 11, 12, 7, 13, 14, 15, 26, 27, 28, 29, 30, 31, 32, 33, 34, 35, 36, 37, 38, 39] (by decide +kernel) (by decide +kernel)
set_option maxRecDepth 20000 in
theorem gX5_coveredNow_X0_coveredBy : GoodIn wsX5_coveredNow (wsV RX5 174 RX0 yX0_coveredBy wsX0_coveredBy) := goodIn_app (goodIn_of _ (by decide +kernel)) ggX5_coveredNow_X0_coveredBy
theorem dX5_coveredNow_0 : decode cX5_coveredNow 0 = .ok (.aload_n 0, 1) := by decide +kernel
theorem dX5_coveredNow_1 : decode cX5_coveredNow 1 = .ok (.getfield 10, 3) := by decide +kernel
theorem dX5_coveredNow_4 : decode cX5_coveredNow 4 = .ok (.aload_n 0, 1) := by decide +kernel
theorem dX5_coveredNow_5 : decode cX5_coveredNow 5 = .ok (.getfield 29, 3) := by decide +kernel
theorem dX5_coveredNow_8 : decode cX5_coveredNow 8 = .ok (.getfield 113, 3) := by decide +kernel
theorem dX5_coveredNow_11 : decode cX5_coveredNow 11 = .ok (.aload_n 0, 1) := by decide +kernel
theorem dX5_coveredNow_12 : decode cX5_coveredNow 12 = .ok (.getfield 29, 3) := by decide +kernel
theorem dX5_coveredNow_15 : decode cX5_coveredNow 15 = .ok (.invokevirtual 174, 3) := by decide +kernel
theorem dX5_coveredNow_18 : decode cX5_coveredNow 18 = .ok (.ireturn, 1) := by decide +kernel
set_option maxRecDepth 20000 in
theorem ggX5_ableNow_X0_ableBy : GoodIn wsX5_ableNow wsX0_ableBy := goodIn_r _ [8, 9, 10, 11, 12, 13, 14, 7, 15, 16, 17, 18, 19, 20, 21, 22, 23, 24, 25, 26, 37, 38, 39, 40, 41, 42, 43, 44, 45, 46, 47, 48, 49, 50] (by decide +kernel) (by decide +kernel)
set_option maxRecDepth 20000 in
theorem gX5_ableNow_X0_ableBy : GoodIn wsX5_ableNow (wsV RX5 178 RX0 yX0_ableBy wsX0_ableBy) := goodIn_app (goodIn_of _ (by decide +kernel)) ggX5_ableNow_X0_ableBy
theorem dX5_ableNow_0 : decode cX5_ableNow 0 = .ok (.aload_n 0, 1) := by decide +kernel
theorem dX5_ableNow_1 : decode cX5_ableNow 1 = .ok (.getfield 10, 3) := by decide +kernel
theorem dX5_ableNow_4 : decode cX5_ableNow 4 = .ok (.aload_n 0, 1) := by decide +kernel
theorem dX5_ableNow_5 : decode cX5_ableNow 5 = .ok (.getfield 29, 3) := by decide +kernel
theorem dX5_ableNow_8 : decode cX5_ableNow 8 = .ok (.getfield 113, 3) := by decide +kernel
theorem dX5_ableNow_11 : decode cX5_ableNow 11 = .ok (.aload_n 0, 1) := by decide +kernel
theorem dX5_ableNow_12 : decode cX5_ableNow 12 = .ok (.getfield 29, 3) := by decide +kernel
theorem dX5_ableNow_15 : decode cX5_ableNow 15 = .ok (.invokevirtual 178, 3) := by decide +kernel
theorem dX5_ableNow_18 : decode cX5_ableNow 18 = .ok (.ireturn, 1) := by decide +kernel
set_option maxRecDepth 20000 in
theorem ggX5_passDay_X0_ableBy : GoodIn wsX5_passDay wsX0_ableBy := goodIn_r _ [9, 10, 11, 12, 13, 14, 15, 8, 16, 17, 18, 19, 20, 21, 22, 23, 24, 25, 26, 27, 57, 58, 59, 60, 61, 62, 63, 64, 65, 66, 67, 68, 69, 70] (by decide +kernel) (by decide +kernel)
set_option maxRecDepth 20000 in
theorem gX5_passDay_X0_ableBy : GoodIn wsX5_passDay (wsV RX5 178 RX0 yX0_ableBy wsX0_ableBy) := goodIn_app (goodIn_of _ (by decide +kernel)) ggX5_passDay_X0_ableBy
set_option maxRecDepth 20000 in
theorem ggX5_passDay_X0_eagerTogether : GoodIn wsX5_passDay wsX0_eagerTogether := goodIn_r _ [31, 21, 27, 32, 33, 34, 62, 63, 64, 65, 66, 67, 68, 69, 70] (by decide +kernel) (by decide +kernel)
set_option maxRecDepth 20000 in
theorem gX5_passDay_X0_eagerTogether : GoodIn wsX5_passDay (wsV RX5 203 RX0 yX0_eagerTogether wsX0_eagerTogether) := goodIn_app (goodIn_of _ (by decide +kernel)) ggX5_passDay_X0_eagerTogether
set_option maxRecDepth 20000 in
theorem ggX5_passDay_X5_drawn : GoodIn wsX5_passDay wsX5_drawn := goodIn_r _ [37, 38, 39, 40, 41] (by decide +kernel) (by decide +kernel)
set_option maxRecDepth 20000 in
theorem gX5_passDay_X5_drawn : GoodIn wsX5_passDay (va_wsS RX5 206 yX5_drawn wsX5_drawn) := goodIn_app (goodIn_of _ (by decide +kernel)) ggX5_passDay_X5_drawn
set_option maxRecDepth 20000 in
theorem ggX5_passDay_X0_countedOff : GoodIn wsX5_passDay wsX0_countedOff := goodIn_r _ [45, 21, 27, 32, 33, 34, 62, 63, 64, 65, 66, 67, 68, 69, 70] (by decide +kernel) (by decide +kernel)
set_option maxRecDepth 20000 in
theorem gX5_passDay_X0_countedOff : GoodIn wsX5_passDay (wsV RX5 229 RX0 yX0_countedOff wsX0_countedOff) := goodIn_app (goodIn_of _ (by decide +kernel)) ggX5_passDay_X0_countedOff
set_option maxRecDepth 20000 in
theorem ggX5_passDay_X0_coveredBy : GoodIn wsX5_passDay wsX0_coveredBy := goodIn_r _ [16, 11, 17, 18, 19, 8, 20, 21, 22, 57, 58, 59, 60, 61, 62, 63, 64, 65, 66, 67, 68, 69, 70] (by decide +kernel) (by decide +kernel)
set_option maxRecDepth 20000 in
theorem gX5_passDay_X0_coveredBy : GoodIn wsX5_passDay (wsV RX5 174 RX0 yX0_coveredBy wsX0_coveredBy) := goodIn_app (goodIn_of _ (by decide +kernel)) ggX5_passDay_X0_coveredBy
theorem dX5_passDay_0 : decode cX5_passDay 0 = .ok (.aload_n 0, 1) := by decide +kernel
theorem dX5_passDay_1 : decode cX5_passDay 1 = .ok (.getfield 10, 3) := by decide +kernel
theorem dX5_passDay_4 : decode cX5_passDay 4 = .ok (.aload_n 1, 1) := by decide +kernel
theorem dX5_passDay_5 : decode cX5_passDay 5 = .ok (.getfield 113, 3) := by decide +kernel
theorem dX5_passDay_8 : decode cX5_passDay 8 = .ok (.aload_n 1, 1) := by decide +kernel
theorem dX5_passDay_9 : decode cX5_passDay 9 = .ok (.invokevirtual 178, 3) := by decide +kernel
theorem dX5_passDay_12 : decode cX5_passDay 12 = .ok (.istore_n 3, 1) := by decide +kernel
theorem dX5_passDay_13 : decode cX5_passDay 13 = .ok (.bipush (-9), 2) := by decide +kernel
theorem dX5_passDay_15 : decode cX5_passDay 15 = .ok (.istore 4, 2) := by decide +kernel
theorem dX5_passDay_17 : decode cX5_passDay 17 = .ok (.iload_n 3, 1) := by decide +kernel
theorem dX5_passDay_18 : decode cX5_passDay 18 = .ok (.ifCond .eq 29, 3) := by decide +kernel
theorem dX5_passDay_21 : decode cX5_passDay 21 = .ok (.aload_n 0, 1) := by decide +kernel
theorem dX5_passDay_22 : decode cX5_passDay 22 = .ok (.getfield 10, 3) := by decide +kernel
theorem dX5_passDay_25 : decode cX5_passDay 25 = .ok (.iload_n 3, 1) := by decide +kernel
theorem dX5_passDay_26 : decode cX5_passDay 26 = .ok (.iload_n 2, 1) := by decide +kernel
theorem dX5_passDay_27 : decode cX5_passDay 27 = .ok (.aload_n 1, 1) := by decide +kernel
theorem dX5_passDay_28 : decode cX5_passDay 28 = .ok (.getfield 110, 3) := by decide +kernel
theorem dX5_passDay_31 : decode cX5_passDay 31 = .ok (.aload_n 0, 1) := by decide +kernel
theorem dX5_passDay_32 : decode cX5_passDay 32 = .ok (.getfield 10, 3) := by decide +kernel
theorem dX5_passDay_35 : decode cX5_passDay 35 = .ok (.iload_n 3, 1) := by decide +kernel
theorem dX5_passDay_36 : decode cX5_passDay 36 = .ok (.invokevirtual 203, 3) := by decide +kernel
theorem dX5_passDay_39 : decode cX5_passDay 39 = .ok (.invokestatic 206, 3) := by decide +kernel
theorem dX5_passDay_42 : decode cX5_passDay 42 = .ok (.invokevirtual 229, 3) := by decide +kernel
theorem dX5_passDay_45 : decode cX5_passDay 45 = .ok (.istore 4, 2) := by decide +kernel
theorem dX5_passDay_47 : decode cX5_passDay 47 = .ok (.iload 4, 2) := by decide +kernel
theorem dX5_passDay_49 : decode cX5_passDay 49 = .ok (.bipush (-9), 2) := by decide +kernel
theorem dX5_passDay_51 : decode cX5_passDay 51 = .ok (.if_icmp .eq 29, 3) := by decide +kernel
theorem dX5_passDay_54 : decode cX5_passDay 54 = .ok (.aload_n 1, 1) := by decide +kernel
theorem dX5_passDay_55 : decode cX5_passDay 55 = .ok (.dup, 1) := by decide +kernel
theorem dX5_passDay_56 : decode cX5_passDay 56 = .ok (.getfield 100, 3) := by decide +kernel
theorem dX5_passDay_59 : decode cX5_passDay 59 = .ok (.aload_n 0, 1) := by decide +kernel
theorem dX5_passDay_60 : decode cX5_passDay 60 = .ok (.getfield 10, 3) := by decide +kernel
theorem dX5_passDay_63 : decode cX5_passDay 63 = .ok (.aload_n 1, 1) := by decide +kernel
theorem dX5_passDay_64 : decode cX5_passDay 64 = .ok (.getfield 113, 3) := by decide +kernel
theorem dX5_passDay_67 : decode cX5_passDay 67 = .ok (.aload_n 1, 1) := by decide +kernel
theorem dX5_passDay_68 : decode cX5_passDay 68 = .ok (.invokevirtual 174, 3) := by decide +kernel
theorem dX5_passDay_71 : decode cX5_passDay 71 = .ok (.iconst 1, 1) := by decide +kernel
theorem dX5_passDay_72 : decode cX5_passDay 72 = .ok (.iload 4, 2) := by decide +kernel
theorem dX5_passDay_74 : decode cX5_passDay 74 = .ok (.ishl, 1) := by decide +kernel
theorem dX5_passDay_75 : decode cX5_passDay 75 = .ok (.iand, 1) := by decide +kernel
theorem dX5_passDay_76 : decode cX5_passDay 76 = .ok (.ior, 1) := by decide +kernel
theorem dX5_passDay_77 : decode cX5_passDay 77 = .ok (.putfield 100, 3) := by decide +kernel
theorem dX5_passDay_80 : decode cX5_passDay 80 = .ok (.aload_n 1, 1) := by decide +kernel
theorem dX5_passDay_81 : decode cX5_passDay 81 = .ok (.dup, 1) := by decide +kernel
theorem dX5_passDay_82 : decode cX5_passDay 82 = .ok (.getfield 110, 3) := by decide +kernel
theorem dX5_passDay_85 : decode cX5_passDay 85 = .ok (.iconst 1, 1) := by decide +kernel
theorem dX5_passDay_86 : decode cX5_passDay 86 = .ok (.iadd, 1) := by decide +kernel
theorem dX5_passDay_87 : decode cX5_passDay 87 = .ok (.putfield 110, 3) := by decide +kernel
theorem dX5_passDay_90 : decode cX5_passDay 90 = .ok (.iload 4, 2) := by decide +kernel
theorem dX5_passDay_92 : decode cX5_passDay 92 = .ok (.ireturn, 1) := by decide +kernel
set_option maxRecDepth 20000 in
theorem ggX5_leastHarmful_X5_ableNow : GoodIn wsX5_leastHarmful wsX5_ableNow := goodIn_r _ [7, 1, 8, 9, 10, 11, 12, 13, 14, 15, 16, 17, 18, 19, 20, 21, 22, 23, 24, 25, 26, 27, 28, 29, 30, 31, 32, 67, 68, 69, 70, 71, 72, 73, 74, 75, 76, 86, 87, 88, 89, 90, 77, 78, 79, 80, 81, 82, 83, 84, 85] (by decide +kernel) (by decide +kernel)
set_option maxRecDepth 20000 in
theorem gX5_leastHarmful_X5_ableNow : GoodIn wsX5_leastHarmful (wsV RX5 107 RX5 yX5_ableNow wsX5_ableNow) := goodIn_app (goodIn_of _ (by decide +kernel)) ggX5_leastHarmful_X5_ableNow
set_option maxRecDepth 20000 in
theorem ggX5_leastHarmful_X5_coveredNow : GoodIn wsX5_leastHarmful wsX5_coveredNow := goodIn_r _ [36, 1, 8, 9, 37, 19, 20, 13, 21, 16, 22, 23, 24, 25, 26, 27, 67, 68, 69, 70, 71, 72, 73, 74, 75, 76, 86, 87, 88, 89, 90, 77, 78, 79, 80, 81, 82, 83, 84, 85] (by decide +kernel) (by decide +kernel)
set_option maxRecDepth 20000 in
theorem gX5_leastHarmful_X5_coveredNow : GoodIn wsX5_leastHarmful (wsV RX5 103 RX5 yX5_coveredNow wsX5_coveredNow) := goodIn_app (goodIn_of _ (by decide +kernel)) ggX5_leastHarmful_X5_coveredNow
set_option maxRecDepth 20000 in
theorem ggX5_leastHarmful_X0_harmUpper : GoodIn wsX5_leastHarmful wsX0_harmUpper := goodIn_r _ [41, 26, 42, 32, 43, 6, 44, 77, 78, 79, 80, 81, 82, 83, 84, 85] (by decide +kernel) (by decide +kernel)
set_option maxRecDepth 20000 in
theorem gX5_leastHarmful_X0_harmUpper : GoodIn wsX5_leastHarmful (wsV RX5 152 RX0 yX0_harmUpper wsX0_harmUpper) := goodIn_app (goodIn_of _ (by decide +kernel)) ggX5_leastHarmful_X0_harmUpper
set_option maxRecDepth 20000 in
theorem ggX5_leastHarmful_X0_shares : GoodIn wsX5_leastHarmful wsX0_shares := goodIn_r _ [48, 49, 50, 51, 52, 53, 54, 55, 13, 56, 26, 32, 43, 6, 44, 77, 78, 79, 80, 81, 82, 83, 84, 85] (by decide +kernel) (by decide +kernel)
set_option maxRecDepth 20000 in
theorem gX5_leastHarmful_X0_shares : GoodIn wsX5_leastHarmful (wsV RX5 155 RX0 yX0_shares wsX0_shares) := goodIn_app (goodIn_of _ (by decide +kernel)) ggX5_leastHarmful_X0_shares
set_option maxRecDepth 20000 in
theorem ggX5_leastHarmful_J6_bitCount_0f7a4 : GoodIn wsX5_leastHarmful wsJ6_bitCount_0f7a4 := goodIn_r _ [60, 61, 62, 63] (by decide +kernel) (by decide +kernel)
set_option maxRecDepth 20000 in
theorem gX5_leastHarmful_J6_bitCount_0f7a4 : GoodIn wsX5_leastHarmful (va_wsS RX5 130 yJ6_bitCount_0f7a4 wsJ6_bitCount_0f7a4) := goodIn_app (goodIn_of _ (by decide +kernel)) ggX5_leastHarmful_J6_bitCount_0f7a4
set_option maxRecDepth 20000 in
theorem ggX5_leastHarmful_J6_compare_7cf53 : GoodIn wsX5_leastHarmful wsJ6_compare_7cf53 := goodIn_r _ [66] (by decide +kernel) (by decide +kernel)
set_option maxRecDepth 20000 in
theorem gX5_leastHarmful_J6_compare_7cf53 : GoodIn wsX5_leastHarmful (va_wsS RX5 232 yJ6_compare_7cf53 wsJ6_compare_7cf53) := goodIn_app (goodIn_of _ (by decide +kernel)) ggX5_leastHarmful_J6_compare_7cf53
theorem dX5_leastHarmful_0 : decode cX5_leastHarmful 0 = .ok (.aload_n 0, 1) := by decide +kernel
theorem dX5_leastHarmful_1 : decode cX5_leastHarmful 1 = .ok (.invokevirtual 107, 3) := by decide +kernel
theorem dX5_leastHarmful_4 : decode cX5_leastHarmful 4 = .ok (.istore_n 2, 1) := by decide +kernel
theorem dX5_leastHarmful_5 : decode cX5_leastHarmful 5 = .ok (.aload_n 0, 1) := by decide +kernel
theorem dX5_leastHarmful_6 : decode cX5_leastHarmful 6 = .ok (.invokevirtual 103, 3) := by decide +kernel
theorem dX5_leastHarmful_9 : decode cX5_leastHarmful 9 = .ok (.istore_n 3, 1) := by decide +kernel
theorem dX5_leastHarmful_10 : decode cX5_leastHarmful 10 = .ok (.iconst 0, 1) := by decide +kernel
theorem dX5_leastHarmful_11 : decode cX5_leastHarmful 11 = .ok (.istore 4, 2) := by decide +kernel
theorem dX5_leastHarmful_13 : decode cX5_leastHarmful 13 = .ok (.aload_n 0, 1) := by decide +kernel
theorem dX5_leastHarmful_14 : decode cX5_leastHarmful 14 = .ok (.getfield 10, 3) := by decide +kernel
theorem dX5_leastHarmful_17 : decode cX5_leastHarmful 17 = .ok (.iload_n 2, 1) := by decide +kernel
theorem dX5_leastHarmful_18 : decode cX5_leastHarmful 18 = .ok (.iload_n 3, 1) := by decide +kernel
theorem dX5_leastHarmful_19 : decode cX5_leastHarmful 19 = .ok (.invokevirtual 152, 3) := by decide +kernel
theorem dX5_leastHarmful_22 : decode cX5_leastHarmful 22 = .ok (.istore 5, 2) := by decide +kernel
theorem dX5_leastHarmful_24 : decode cX5_leastHarmful 24 = .ok (.aload_n 0, 1) := by decide +kernel
theorem dX5_leastHarmful_25 : decode cX5_leastHarmful 25 = .ok (.getfield 10, 3) := by decide +kernel
theorem dX5_leastHarmful_28 : decode cX5_leastHarmful 28 = .ok (.iload_n 2, 1) := by decide +kernel
theorem dX5_leastHarmful_29 : decode cX5_leastHarmful 29 = .ok (.invokevirtual 155, 3) := by decide +kernel
theorem dX5_leastHarmful_32 : decode cX5_leastHarmful 32 = .ok (.istore 6, 2) := by decide +kernel
theorem dX5_leastHarmful_34 : decode cX5_leastHarmful 34 = .ok (.iconst 1, 1) := by decide +kernel
theorem dX5_leastHarmful_35 : decode cX5_leastHarmful 35 = .ok (.istore 7, 2) := by decide +kernel
theorem dX5_leastHarmful_37 : decode cX5_leastHarmful 37 = .ok (.iload 7, 2) := by decide +kernel
theorem dX5_leastHarmful_39 : decode cX5_leastHarmful 39 = .ok (.iconst 1, 1) := by decide +kernel
theorem dX5_leastHarmful_40 : decode cX5_leastHarmful 40 = .ok (.aload_n 0, 1) := by decide +kernel
theorem dX5_leastHarmful_41 : decode cX5_leastHarmful 41 = .ok (.getfield 10, 3) := by decide +kernel
theorem dX5_leastHarmful_44 : decode cX5_leastHarmful 44 = .ok (.getfield 171, 3) := by decide +kernel
theorem dX5_leastHarmful_47 : decode cX5_leastHarmful 47 = .ok (.ishl, 1) := by decide +kernel
theorem dX5_leastHarmful_48 : decode cX5_leastHarmful 48 = .ok (.if_icmp .ge 111, 3) := by decide +kernel
theorem dX5_leastHarmful_51 : decode cX5_leastHarmful 51 = .ok (.iload 7, 2) := by decide +kernel
theorem dX5_leastHarmful_53 : decode cX5_leastHarmful 53 = .ok (.iload_n 2, 1) := by decide +kernel
theorem dX5_leastHarmful_54 : decode cX5_leastHarmful 54 = .ok (.iconst (-1), 1) := by decide +kernel
theorem dX5_leastHarmful_55 : decode cX5_leastHarmful 55 = .ok (.ixor, 1) := by decide +kernel
theorem dX5_leastHarmful_56 : decode cX5_leastHarmful 56 = .ok (.iand, 1) := by decide +kernel
theorem dX5_leastHarmful_57 : decode cX5_leastHarmful 57 = .ok (.ifCond .ne 96, 3) := by decide +kernel
theorem dX5_leastHarmful_60 : decode cX5_leastHarmful 60 = .ok (.iload 7, 2) := by decide +kernel
theorem dX5_leastHarmful_62 : decode cX5_leastHarmful 62 = .ok (.invokestatic 130, 3) := by decide +kernel
theorem dX5_leastHarmful_65 : decode cX5_leastHarmful 65 = .ok (.iload_n 1, 1) := by decide +kernel
theorem dX5_leastHarmful_66 : decode cX5_leastHarmful 66 = .ok (.if_icmp .le 6, 3) := by decide +kernel
theorem dX5_leastHarmful_69 : decode cX5_leastHarmful 69 = .ok (.goto 84, 3) := by decide +kernel
theorem dX5_leastHarmful_72 : decode cX5_leastHarmful 72 = .ok (.aload_n 0, 1) := by decide +kernel
theorem dX5_leastHarmful_73 : decode cX5_leastHarmful 73 = .ok (.getfield 10, 3) := by decide +kernel
theorem dX5_leastHarmful_76 : decode cX5_leastHarmful 76 = .ok (.iload_n 2, 1) := by decide +kernel
theorem dX5_leastHarmful_77 : decode cX5_leastHarmful 77 = .ok (.iload 7, 2) := by decide +kernel
theorem dX5_leastHarmful_79 : decode cX5_leastHarmful 79 = .ok (.iconst (-1), 1) := by decide +kernel
theorem dX5_leastHarmful_80 : decode cX5_leastHarmful 80 = .ok (.ixor, 1) := by decide +kernel
theorem dX5_leastHarmful_81 : decode cX5_leastHarmful 81 = .ok (.iand, 1) := by decide +kernel
theorem dX5_leastHarmful_82 : decode cX5_leastHarmful 82 = .ok (.iload_n 3, 1) := by decide +kernel
theorem dX5_leastHarmful_83 : decode cX5_leastHarmful 83 = .ok (.invokevirtual 152, 3) := by decide +kernel
theorem dX5_leastHarmful_86 : decode cX5_leastHarmful 86 = .ok (.istore 8, 2) := by decide +kernel
theorem dX5_leastHarmful_88 : decode cX5_leastHarmful 88 = .ok (.aload_n 0, 1) := by decide +kernel
theorem dX5_leastHarmful_89 : decode cX5_leastHarmful 89 = .ok (.getfield 10, 3) := by decide +kernel
theorem dX5_leastHarmful_92 : decode cX5_leastHarmful 92 = .ok (.iload_n 2, 1) := by decide +kernel
theorem dX5_leastHarmful_93 : decode cX5_leastHarmful 93 = .ok (.iload 7, 2) := by decide +kernel
theorem dX5_leastHarmful_95 : decode cX5_leastHarmful 95 = .ok (.iconst (-1), 1) := by decide +kernel
theorem dX5_leastHarmful_96 : decode cX5_leastHarmful 96 = .ok (.ixor, 1) := by decide +kernel
theorem dX5_leastHarmful_97 : decode cX5_leastHarmful 97 = .ok (.iand, 1) := by decide +kernel
theorem dX5_leastHarmful_98 : decode cX5_leastHarmful 98 = .ok (.invokevirtual 155, 3) := by decide +kernel
theorem dX5_leastHarmful_101 : decode cX5_leastHarmful 101 = .ok (.istore 9, 2) := by decide +kernel
theorem dX5_leastHarmful_103 : decode cX5_leastHarmful 103 = .ok (.iload 8, 2) := by decide +kernel
theorem dX5_leastHarmful_105 : decode cX5_leastHarmful 105 = .ok (.iload 6, 2) := by decide +kernel
theorem dX5_leastHarmful_107 : decode cX5_leastHarmful 107 = .ok (.imul, 1) := by decide +kernel
theorem dX5_leastHarmful_108 : decode cX5_leastHarmful 108 = .ok (.iload 5, 2) := by decide +kernel
theorem dX5_leastHarmful_110 : decode cX5_leastHarmful 110 = .ok (.iload 9, 2) := by decide +kernel
theorem dX5_leastHarmful_112 : decode cX5_leastHarmful 112 = .ok (.imul, 1) := by decide +kernel
theorem dX5_leastHarmful_113 : decode cX5_leastHarmful 113 = .ok (.invokestatic 232, 3) := by decide +kernel
theorem dX5_leastHarmful_116 : decode cX5_leastHarmful 116 = .ok (.istore 10, 2) := by decide +kernel
theorem dX5_leastHarmful_118 : decode cX5_leastHarmful 118 = .ok (.iload 10, 2) := by decide +kernel
theorem dX5_leastHarmful_120 : decode cX5_leastHarmful 120 = .ok (.ifCond .lt 21, 3) := by decide +kernel
theorem dX5_leastHarmful_123 : decode cX5_leastHarmful 123 = .ok (.iload 10, 2) := by decide +kernel
theorem dX5_leastHarmful_125 : decode cX5_leastHarmful 125 = .ok (.ifCond .ne 28, 3) := by decide +kernel
theorem dX5_leastHarmful_128 : decode cX5_leastHarmful 128 = .ok (.iload 7, 2) := by decide +kernel
theorem dX5_leastHarmful_130 : decode cX5_leastHarmful 130 = .ok (.invokestatic 130, 3) := by decide +kernel
theorem dX5_leastHarmful_133 : decode cX5_leastHarmful 133 = .ok (.iload 4, 2) := by decide +kernel
theorem dX5_leastHarmful_135 : decode cX5_leastHarmful 135 = .ok (.invokestatic 130, 3) := by decide +kernel
theorem dX5_leastHarmful_138 : decode cX5_leastHarmful 138 = .ok (.if_icmp .ge 15, 3) := by decide +kernel
theorem dX5_leastHarmful_141 : decode cX5_leastHarmful 141 = .ok (.iload 7, 2) := by decide +kernel
theorem dX5_leastHarmful_143 : decode cX5_leastHarmful 143 = .ok (.istore 4, 2) := by decide +kernel
theorem dX5_leastHarmful_145 : decode cX5_leastHarmful 145 = .ok (.iload 8, 2) := by decide +kernel
theorem dX5_leastHarmful_147 : decode cX5_leastHarmful 147 = .ok (.istore 5, 2) := by decide +kernel
theorem dX5_leastHarmful_149 : decode cX5_leastHarmful 149 = .ok (.iload 9, 2) := by decide +kernel
theorem dX5_leastHarmful_151 : decode cX5_leastHarmful 151 = .ok (.istore 6, 2) := by decide +kernel
theorem dX5_leastHarmful_153 : decode cX5_leastHarmful 153 = .ok (.iinc 7 1, 3) := by decide +kernel
theorem dX5_leastHarmful_156 : decode cX5_leastHarmful 156 = .ok (.goto (-119), 3) := by decide +kernel
theorem dX5_leastHarmful_159 : decode cX5_leastHarmful 159 = .ok (.iload 4, 2) := by decide +kernel
theorem dX5_leastHarmful_161 : decode cX5_leastHarmful 161 = .ok (.ireturn, 1) := by decide +kernel
theorem dX5_rateAsThing_0 : decode cX5_rateAsThing 0 = .ok (.aload_n 0, 1) := by decide +kernel
theorem dX5_rateAsThing_1 : decode cX5_rateAsThing 1 = .ok (.dup, 1) := by decide +kernel
theorem dX5_rateAsThing_2 : decode cX5_rateAsThing 2 = .ok (.getfield 58, 3) := by decide +kernel
theorem dX5_rateAsThing_5 : decode cX5_rateAsThing 5 = .ok (.lconst 1, 1) := by decide +kernel
theorem dX5_rateAsThing_6 : decode cX5_rateAsThing 6 = .ok (.ladd, 1) := by decide +kernel
theorem dX5_rateAsThing_7 : decode cX5_rateAsThing 7 = .ok (.putfield 58, 3) := by decide +kernel
theorem dX5_rateAsThing_10 : decode cX5_rateAsThing 10 = .ok (.aload_n 0, 1) := by decide +kernel
theorem dX5_rateAsThing_11 : decode cX5_rateAsThing 11 = .ok (.getfield 10, 3) := by decide +kernel
theorem dX5_rateAsThing_14 : decode cX5_rateAsThing 14 = .ok (.getfield 84, 3) := by decide +kernel
theorem dX5_rateAsThing_17 : decode cX5_rateAsThing 17 = .ok (.iload_n 1, 1) := by decide +kernel
theorem dX5_rateAsThing_18 : decode cX5_rateAsThing 18 = .ok (.iaload, 1) := by decide +kernel
theorem dX5_rateAsThing_19 : decode cX5_rateAsThing 19 = .ok (.ireturn, 1) := by decide +kernel
set_option maxRecDepth 20000 in
theorem ggX5_rateAsCalf_X5_rateAsThing : GoodIn wsX5_rateAsCalf wsX5_rateAsThing := goodIn_r _ [9, 1, 3, 10, 11, 12, 13, 14, 15, 16, 17, 18, 19, 20, 21, 22, 23, 24, 25, 26, 27, 28, 29] (by decide +kernel) (by decide +kernel)
set_option maxRecDepth 20000 in
theorem gX5_rateAsCalf_X5_rateAsThing : GoodIn wsX5_rateAsCalf (wsV RX5 224 RX5 yX5_rateAsThing wsX5_rateAsThing) := goodIn_app (goodIn_of _ (by decide +kernel)) ggX5_rateAsCalf_X5_rateAsThing
theorem dX5_rateAsCalf_0 : decode cX5_rateAsCalf 0 = .ok (.aload_n 0, 1) := by decide +kernel
theorem dX5_rateAsCalf_1 : decode cX5_rateAsCalf 1 = .ok (.dup, 1) := by decide +kernel
theorem dX5_rateAsCalf_2 : decode cX5_rateAsCalf 2 = .ok (.getfield 58, 3) := by decide +kernel
theorem dX5_rateAsCalf_5 : decode cX5_rateAsCalf 5 = .ok (.ldc2_w 235, 3) := by decide +kernel
theorem dX5_rateAsCalf_8 : decode cX5_rateAsCalf 8 = .ok (.ladd, 1) := by decide +kernel
theorem dX5_rateAsCalf_9 : decode cX5_rateAsCalf 9 = .ok (.putfield 58, 3) := by decide +kernel
theorem dX5_rateAsCalf_12 : decode cX5_rateAsCalf 12 = .ok (.aload_n 0, 1) := by decide +kernel
theorem dX5_rateAsCalf_13 : decode cX5_rateAsCalf 13 = .ok (.iload_n 1, 1) := by decide +kernel
theorem dX5_rateAsCalf_14 : decode cX5_rateAsCalf 14 = .ok (.invokevirtual 224, 3) := by decide +kernel
theorem dX5_rateAsCalf_17 : decode cX5_rateAsCalf 17 = .ok (.aload_n 0, 1) := by decide +kernel
theorem dX5_rateAsCalf_18 : decode cX5_rateAsCalf 18 = .ok (.getfield 10, 3) := by decide +kernel
theorem dX5_rateAsCalf_21 : decode cX5_rateAsCalf 21 = .ok (.getfield 87, 3) := by decide +kernel
theorem dX5_rateAsCalf_24 : decode cX5_rateAsCalf 24 = .ok (.iload_n 1, 1) := by decide +kernel
theorem dX5_rateAsCalf_25 : decode cX5_rateAsCalf 25 = .ok (.iaload, 1) := by decide +kernel
theorem dX5_rateAsCalf_26 : decode cX5_rateAsCalf 26 = .ok (.iadd, 1) := by decide +kernel
theorem dX5_rateAsCalf_27 : decode cX5_rateAsCalf 27 = .ok (.ireturn, 1) := by decide +kernel
set_option maxRecDepth 20000 in
theorem ggX5_rateAsChild_X5_rateAsThing : GoodIn wsX5_rateAsChild wsX5_rateAsThing := goodIn_r _ [9, 1, 3, 10, 18, 19, 20, 21, 22, 23, 24, 25, 26, 27, 28, 29, 30, 31, 32, 33, 34, 35, 36] (by decide +kernel) (by decide +kernel)
set_option maxRecDepth 20000 in
theorem gX5_rateAsChild_X5_rateAsThing : GoodIn wsX5_rateAsChild (wsV RX5 224 RX5 yX5_rateAsThing wsX5_rateAsThing) := goodIn_app (goodIn_of _ (by decide +kernel)) ggX5_rateAsChild_X5_rateAsThing
set_option maxRecDepth 20000 in
theorem ggX5_rateAsChild_J6_bitCount_0f7a4 : GoodIn wsX5_rateAsChild wsJ6_bitCount_0f7a4 := goodIn_r _ [14, 15, 16, 17] (by decide +kernel) (by decide +kernel)
set_option maxRecDepth 20000 in
theorem gX5_rateAsChild_J6_bitCount_0f7a4 : GoodIn wsX5_rateAsChild (va_wsS RX5 130 yJ6_bitCount_0f7a4 wsJ6_bitCount_0f7a4) := goodIn_app (goodIn_of _ (by decide +kernel)) ggX5_rateAsChild_J6_bitCount_0f7a4
theorem dX5_rateAsChild_0 : decode cX5_rateAsChild 0 = .ok (.aload_n 0, 1) := by decide +kernel
theorem dX5_rateAsChild_1 : decode cX5_rateAsChild 1 = .ok (.dup, 1) := by decide +kernel
theorem dX5_rateAsChild_2 : decode cX5_rateAsChild 2 = .ok (.getfield 58, 3) := by decide +kernel
theorem dX5_rateAsChild_5 : decode cX5_rateAsChild 5 = .ok (.ldc2_w 237, 3) := by decide +kernel
theorem dX5_rateAsChild_8 : decode cX5_rateAsChild 8 = .ok (.ladd, 1) := by decide +kernel
theorem dX5_rateAsChild_9 : decode cX5_rateAsChild 9 = .ok (.putfield 58, 3) := by decide +kernel
theorem dX5_rateAsChild_12 : decode cX5_rateAsChild 12 = .ok (.aload_n 0, 1) := by decide +kernel
theorem dX5_rateAsChild_13 : decode cX5_rateAsChild 13 = .ok (.iload_n 1, 1) := by decide +kernel
theorem dX5_rateAsChild_14 : decode cX5_rateAsChild 14 = .ok (.invokevirtual 224, 3) := by decide +kernel
theorem dX5_rateAsChild_17 : decode cX5_rateAsChild 17 = .ok (.aload_n 0, 1) := by decide +kernel
theorem dX5_rateAsChild_18 : decode cX5_rateAsChild 18 = .ok (.getfield 10, 3) := by decide +kernel
theorem dX5_rateAsChild_21 : decode cX5_rateAsChild 21 = .ok (.getfield 80, 3) := by decide +kernel
theorem dX5_rateAsChild_24 : decode cX5_rateAsChild 24 = .ok (.iload_n 1, 1) := by decide +kernel
theorem dX5_rateAsChild_25 : decode cX5_rateAsChild 25 = .ok (.iaload, 1) := by decide +kernel
theorem dX5_rateAsChild_26 : decode cX5_rateAsChild 26 = .ok (.invokestatic 130, 3) := by decide +kernel
theorem dX5_rateAsChild_29 : decode cX5_rateAsChild 29 = .ok (.isub, 1) := by decide +kernel
theorem dX5_rateAsChild_30 : decode cX5_rateAsChild 30 = .ok (.ireturn, 1) := by decide +kernel
set_option maxRecDepth 20000 in
theorem ggX5_rateAsDog_X5_rateAsCalf : GoodIn wsX5_rateAsDog wsX5_rateAsCalf := goodIn_r _ [7, 1, 8, 9, 10, 11, 12, 13, 6, 14, 15, 16, 17, 18, 19, 20, 21, 22, 23, 24, 25, 26, 27, 28, 29, 30, 31, 32, 33, 34] (by decide +kernel) (by decide +kernel)
set_option maxRecDepth 20000 in
theorem gX5_rateAsDog_X5_rateAsCalf : GoodIn wsX5_rateAsDog (wsV RX5 209 RX5 yX5_rateAsCalf wsX5_rateAsCalf) := goodIn_app (goodIn_of _ (by decide +kernel)) ggX5_rateAsDog_X5_rateAsCalf
theorem dX5_rateAsDog_0 : decode cX5_rateAsDog 0 = .ok (.aload_n 0, 1) := by decide +kernel
theorem dX5_rateAsDog_1 : decode cX5_rateAsDog 1 = .ok (.dup, 1) := by decide +kernel
theorem dX5_rateAsDog_2 : decode cX5_rateAsDog 2 = .ok (.getfield 58, 3) := by decide +kernel
theorem dX5_rateAsDog_5 : decode cX5_rateAsDog 5 = .ok (.ldc2_w 239, 3) := by decide +kernel
theorem dX5_rateAsDog_8 : decode cX5_rateAsDog 8 = .ok (.ladd, 1) := by decide +kernel
theorem dX5_rateAsDog_9 : decode cX5_rateAsDog 9 = .ok (.putfield 58, 3) := by decide +kernel
theorem dX5_rateAsDog_12 : decode cX5_rateAsDog 12 = .ok (.iconst 2, 1) := by decide +kernel
theorem dX5_rateAsDog_13 : decode cX5_rateAsDog 13 = .ok (.aload_n 0, 1) := by decide +kernel
theorem dX5_rateAsDog_14 : decode cX5_rateAsDog 14 = .ok (.iload_n 1, 1) := by decide +kernel
theorem dX5_rateAsDog_15 : decode cX5_rateAsDog 15 = .ok (.invokevirtual 209, 3) := by decide +kernel
theorem dX5_rateAsDog_18 : decode cX5_rateAsDog 18 = .ok (.imul, 1) := by decide +kernel
theorem dX5_rateAsDog_19 : decode cX5_rateAsDog 19 = .ok (.ireturn, 1) := by decide +kernel
set_option maxRecDepth 20000 in
theorem ggX5_rateAsDrum_X5_rateAsChild : GoodIn wsX5_rateAsDrum wsX5_rateAsChild := goodIn_r _ [7, 1, 8, 9, 10, 11, 12, 13, 6, 14, 15, 16, 17, 18, 19, 20, 21, 22, 23, 24, 25, 26, 27, 28, 29, 30, 31, 32, 33, 34, 35, 36, 37, 38, 39, 40, 41] (by decide +kernel) (by decide +kernel)
set_option maxRecDepth 20000 in
theorem gX5_rateAsDrum_X5_rateAsChild : GoodIn wsX5_rateAsDrum (wsV RX5 212 RX5 yX5_rateAsChild wsX5_rateAsChild) := goodIn_app (goodIn_of _ (by decide +kernel)) ggX5_rateAsDrum_X5_rateAsChild
theorem dX5_rateAsDrum_0 : decode cX5_rateAsDrum 0 = .ok (.aload_n 0, 1) := by decide +kernel
theorem dX5_rateAsDrum_1 : decode cX5_rateAsDrum 1 = .ok (.dup, 1) := by decide +kernel
theorem dX5_rateAsDrum_2 : decode cX5_rateAsDrum 2 = .ok (.getfield 58, 3) := by decide +kernel
theorem dX5_rateAsDrum_5 : decode cX5_rateAsDrum 5 = .ok (.ldc2_w 241, 3) := by decide +kernel
theorem dX5_rateAsDrum_8 : decode cX5_rateAsDrum 8 = .ok (.ladd, 1) := by decide +kernel
theorem dX5_rateAsDrum_9 : decode cX5_rateAsDrum 9 = .ok (.putfield 58, 3) := by decide +kernel
theorem dX5_rateAsDrum_12 : decode cX5_rateAsDrum 12 = .ok (.aload_n 0, 1) := by decide +kernel
theorem dX5_rateAsDrum_13 : decode cX5_rateAsDrum 13 = .ok (.iload_n 1, 1) := by decide +kernel
theorem dX5_rateAsDrum_14 : decode cX5_rateAsDrum 14 = .ok (.invokevirtual 212, 3) := by decide +kernel
theorem dX5_rateAsDrum_17 : decode cX5_rateAsDrum 17 = .ok (.iload_n 1, 1) := by decide +kernel
theorem dX5_rateAsDrum_18 : decode cX5_rateAsDrum 18 = .ok (.iadd, 1) := by decide +kernel
theorem dX5_rateAsDrum_19 : decode cX5_rateAsDrum 19 = .ok (.ireturn, 1) := by decide +kernel
set_option maxRecDepth 20000 in
theorem ggX5_rateAsPriest_X5_rateAsThing : GoodIn wsX5_rateAsPriest wsX5_rateAsThing := goodIn_r _ [9, 1, 10, 11, 12, 13, 14, 15, 16, 17, 18, 19, 20, 21, 27, 28, 29, 30, 31, 32, 33, 34, 35] (by decide +kernel) (by decide +kernel)
set_option maxRecDepth 20000 in
theorem gX5_rateAsPriest_X5_rateAsThing : GoodIn wsX5_rateAsPriest (wsV RX5 224 RX5 yX5_rateAsThing wsX5_rateAsThing) := goodIn_app (goodIn_of _ (by decide +kernel)) ggX5_rateAsPriest_X5_rateAsThing
theorem dX5_rateAsPriest_0 : decode cX5_rateAsPriest 0 = .ok (.aload_n 0, 1) := by decide +kernel
theorem dX5_rateAsPriest_1 : decode cX5_rateAsPriest 1 = .ok (.dup, 1) := by decide +kernel
theorem dX5_rateAsPriest_2 : decode cX5_rateAsPriest 2 = .ok (.getfield 58, 3) := by decide +kernel
theorem dX5_rateAsPriest_5 : decode cX5_rateAsPriest 5 = .ok (.ldc2_w 243, 3) := by decide +kernel
theorem dX5_rateAsPriest_8 : decode cX5_rateAsPriest 8 = .ok (.ladd, 1) := by decide +kernel
theorem dX5_rateAsPriest_9 : decode cX5_rateAsPriest 9 = .ok (.putfield 58, 3) := by decide +kernel
theorem dX5_rateAsPriest_12 : decode cX5_rateAsPriest 12 = .ok (.aload_n 0, 1) := by decide +kernel
theorem dX5_rateAsPriest_13 : decode cX5_rateAsPriest 13 = .ok (.iload_n 1, 1) := by decide +kernel
theorem dX5_rateAsPriest_14 : decode cX5_rateAsPriest 14 = .ok (.invokevirtual 224, 3) := by decide +kernel
theorem dX5_rateAsPriest_17 : decode cX5_rateAsPriest 17 = .ok (.aload_n 0, 1) := by decide +kernel
theorem dX5_rateAsPriest_18 : decode cX5_rateAsPriest 18 = .ok (.getfield 29, 3) := by decide +kernel
theorem dX5_rateAsPriest_21 : decode cX5_rateAsPriest 21 = .ok (.getfield 110, 3) := by decide +kernel
theorem dX5_rateAsPriest_24 : decode cX5_rateAsPriest 24 = .ok (.iadd, 1) := by decide +kernel
theorem dX5_rateAsPriest_25 : decode cX5_rateAsPriest 25 = .ok (.ireturn, 1) := by decide +kernel
theorem dX5_drawn_0 : decode cX5_drawn 0 = .ok (.ldc2_w 245, 3) := by decide +kernel
theorem dX5_drawn_3 : decode cX5_drawn 3 = .ok (.iload_n 0, 1) := by decide +kernel
theorem dX5_drawn_4 : decode cX5_drawn 4 = .ok (.i2l, 1) := by decide +kernel
theorem dX5_drawn_5 : decode cX5_drawn 5 = .ok (.lmul, 1) := by decide +kernel
theorem dX5_drawn_6 : decode cX5_drawn 6 = .ok (.ldc2_w 247, 3) := by decide +kernel
theorem dX5_drawn_9 : decode cX5_drawn 9 = .ok (.iload_n 1, 1) := by decide +kernel
theorem dX5_drawn_10 : decode cX5_drawn 10 = .ok (.i2l, 1) := by decide +kernel
theorem dX5_drawn_11 : decode cX5_drawn 11 = .ok (.lmul, 1) := by decide +kernel
theorem dX5_drawn_12 : decode cX5_drawn 12 = .ok (.ladd, 1) := by decide +kernel
theorem dX5_drawn_13 : decode cX5_drawn 13 = .ok (.lconst 1, 1) := by decide +kernel
theorem dX5_drawn_14 : decode cX5_drawn 14 = .ok (.ladd, 1) := by decide +kernel
theorem dX5_drawn_15 : decode cX5_drawn 15 = .ok (.lstore_n 3, 1) := by decide +kernel
theorem dX5_drawn_16 : decode cX5_drawn 16 = .ok (.lload_n 3, 1) := by decide +kernel
theorem dX5_drawn_17 : decode cX5_drawn 17 = .ok (.lload_n 3, 1) := by decide +kernel
theorem dX5_drawn_18 : decode cX5_drawn 18 = .ok (.lmul, 1) := by decide +kernel
theorem dX5_drawn_19 : decode cX5_drawn 19 = .ok (.ldc2_w 249, 3) := by decide +kernel
theorem dX5_drawn_22 : decode cX5_drawn 22 = .ok (.lrem, 1) := by decide +kernel
theorem dX5_drawn_23 : decode cX5_drawn 23 = .ok (.ldc2_w 251, 3) := by decide +kernel
theorem dX5_drawn_26 : decode cX5_drawn 26 = .ok (.ldiv, 1) := by decide +kernel
theorem dX5_drawn_27 : decode cX5_drawn 27 = .ok (.lstore 5, 2) := by decide +kernel
theorem dX5_drawn_29 : decode cX5_drawn 29 = .ok (.iload_n 2, 1) := by decide +kernel
theorem dX5_drawn_30 : decode cX5_drawn 30 = .ok (.ifCond .le 12, 3) := by decide +kernel
theorem dX5_drawn_33 : decode cX5_drawn 33 = .ok (.lload 5, 2) := by decide +kernel
theorem dX5_drawn_35 : decode cX5_drawn 35 = .ok (.iload_n 2, 1) := by decide +kernel
theorem dX5_drawn_36 : decode cX5_drawn 36 = .ok (.i2l, 1) := by decide +kernel
theorem dX5_drawn_37 : decode cX5_drawn 37 = .ok (.lrem, 1) := by decide +kernel
theorem dX5_drawn_38 : decode cX5_drawn 38 = .ok (.l2i, 1) := by decide +kernel
theorem dX5_drawn_39 : decode cX5_drawn 39 = .ok (.goto 4, 3) := by decide +kernel
theorem dX5_drawn_42 : decode cX5_drawn 42 = .ok (.iconst 0, 1) := by decide +kernel
theorem dX5_drawn_43 : decode cX5_drawn 43 = .ok (.ireturn, 1) := by decide +kernel
set_option maxRecDepth 20000 in
theorem ggX5_fewerWords_J6_bitCount_0f7a4 : GoodIn wsX5_fewerWords wsJ6_bitCount_0f7a4 := goodIn_r _ [4, 5, 6, 7] (by decide +kernel) (by decide +kernel)
set_option maxRecDepth 20000 in
theorem gX5_fewerWords_J6_bitCount_0f7a4 : GoodIn wsX5_fewerWords (va_wsS RX5 130 yJ6_bitCount_0f7a4 wsJ6_bitCount_0f7a4) := goodIn_app (goodIn_of _ (by decide +kernel)) ggX5_fewerWords_J6_bitCount_0f7a4
theorem dX5_fewerWords_0 : decode cX5_fewerWords 0 = .ok (.iload_n 0, 1) := by decide +kernel
theorem dX5_fewerWords_1 : decode cX5_fewerWords 1 = .ok (.bipush (-9), 2) := by decide +kernel
theorem dX5_fewerWords_3 : decode cX5_fewerWords 3 = .ok (.if_icmp .eq 14, 3) := by decide +kernel
theorem dX5_fewerWords_6 : decode cX5_fewerWords 6 = .ok (.iload_n 1, 1) := by decide +kernel
theorem dX5_fewerWords_7 : decode cX5_fewerWords 7 = .ok (.invokestatic 130, 3) := by decide +kernel
theorem dX5_fewerWords_10 : decode cX5_fewerWords 10 = .ok (.iload_n 0, 1) := by decide +kernel
theorem dX5_fewerWords_11 : decode cX5_fewerWords 11 = .ok (.invokestatic 130, 3) := by decide +kernel
theorem dX5_fewerWords_14 : decode cX5_fewerWords 14 = .ok (.if_icmp .ge 7, 3) := by decide +kernel
theorem dX5_fewerWords_17 : decode cX5_fewerWords 17 = .ok (.iload_n 1, 1) := by decide +kernel
theorem dX5_fewerWords_18 : decode cX5_fewerWords 18 = .ok (.goto 4, 3) := by decide +kernel
theorem dX5_fewerWords_21 : decode cX5_fewerWords 21 = .ok (.iload_n 0, 1) := by decide +kernel
theorem dX5_fewerWords_22 : decode cX5_fewerWords 22 = .ok (.ireturn, 1) := by decide +kernel
set_option maxRecDepth 20000 in
theorem ggX5_partOf_X5_commonDivisor : GoodIn wsX5_partOf wsX5_commonDivisor := goodIn_r _ [8] (by decide +kernel) (by decide +kernel)
set_option maxRecDepth 20000 in
theorem gX5_partOf_X5_commonDivisor : GoodIn wsX5_partOf (va_wsS RX5 258 yX5_commonDivisor wsX5_commonDivisor) := goodIn_app (goodIn_of _ (by decide +kernel)) ggX5_partOf_X5_commonDivisor
theorem dX5_partOf_0 : decode cX5_partOf 0 = .ok (.iload_n 0, 1) := by decide +kernel
theorem dX5_partOf_1 : decode cX5_partOf 1 = .ok (.invokestatic 253, 3) := by decide +kernel
theorem dX5_partOf_4 : decode cX5_partOf 4 = .ok (.iload_n 1, 1) := by decide +kernel
theorem dX5_partOf_5 : decode cX5_partOf 5 = .ok (.invokestatic 258, 3) := by decide +kernel
theorem dX5_partOf_8 : decode cX5_partOf 8 = .ok (.istore_n 3, 1) := by decide +kernel
theorem dX5_partOf_9 : decode cX5_partOf 9 = .ok (.iload_n 3, 1) := by decide +kernel
theorem dX5_partOf_10 : decode cX5_partOf 10 = .ok (.ifCond .ne 5, 3) := by decide +kernel
theorem dX5_partOf_13 : decode cX5_partOf 13 = .ok (.iconst 0, 1) := by decide +kernel
theorem dX5_partOf_14 : decode cX5_partOf 14 = .ok (.ireturn, 1) := by decide +kernel
theorem dX5_partOf_15 : decode cX5_partOf 15 = .ok (.iload_n 2, 1) := by decide +kernel
theorem dX5_partOf_16 : decode cX5_partOf 16 = .ok (.ifCond .ne 7, 3) := by decide +kernel
theorem dX5_partOf_19 : decode cX5_partOf 19 = .ok (.iload_n 0, 1) := by decide +kernel
theorem dX5_partOf_20 : decode cX5_partOf 20 = .ok (.goto 4, 3) := by decide +kernel
theorem dX5_partOf_23 : decode cX5_partOf 23 = .ok (.iload_n 1, 1) := by decide +kernel
theorem dX5_partOf_24 : decode cX5_partOf 24 = .ok (.iload_n 3, 1) := by decide +kernel
theorem dX5_partOf_25 : decode cX5_partOf 25 = .ok (.idiv, 1) := by decide +kernel
theorem dX5_partOf_26 : decode cX5_partOf 26 = .ok (.ireturn, 1) := by decide +kernel
theorem dX5_commonDivisor_0 : decode cX5_commonDivisor 0 = .ok (.iload_n 0, 1) := by decide +kernel
theorem dX5_commonDivisor_1 : decode cX5_commonDivisor 1 = .ok (.istore_n 2, 1) := by decide +kernel
theorem dX5_commonDivisor_2 : decode cX5_commonDivisor 2 = .ok (.iload_n 1, 1) := by decide +kernel
theorem dX5_commonDivisor_3 : decode cX5_commonDivisor 3 = .ok (.istore_n 3, 1) := by decide +kernel
theorem dX5_commonDivisor_4 : decode cX5_commonDivisor 4 = .ok (.iconst 0, 1) := by decide +kernel
theorem dX5_commonDivisor_5 : decode cX5_commonDivisor 5 = .ok (.istore 4, 2) := by decide +kernel
theorem dX5_commonDivisor_7 : decode cX5_commonDivisor 7 = .ok (.iload 4, 2) := by decide +kernel
theorem dX5_commonDivisor_9 : decode cX5_commonDivisor 9 = .ok (.bipush 50, 2) := by decide +kernel
theorem dX5_commonDivisor_11 : decode cX5_commonDivisor 11 = .ok (.if_icmp .ge 23, 3) := by decide +kernel
theorem dX5_commonDivisor_14 : decode cX5_commonDivisor 14 = .ok (.iload_n 3, 1) := by decide +kernel
theorem dX5_commonDivisor_15 : decode cX5_commonDivisor 15 = .ok (.ifCond .eq 19, 3) := by decide +kernel
theorem dX5_commonDivisor_18 : decode cX5_commonDivisor 18 = .ok (.iload_n 2, 1) := by decide +kernel
theorem dX5_commonDivisor_19 : decode cX5_commonDivisor 19 = .ok (.iload_n 3, 1) := by decide +kernel
theorem dX5_commonDivisor_20 : decode cX5_commonDivisor 20 = .ok (.irem, 1) := by decide +kernel
theorem dX5_commonDivisor_21 : decode cX5_commonDivisor 21 = .ok (.istore 5, 2) := by decide +kernel
theorem dX5_commonDivisor_23 : decode cX5_commonDivisor 23 = .ok (.iload_n 3, 1) := by decide +kernel
theorem dX5_commonDivisor_24 : decode cX5_commonDivisor 24 = .ok (.istore_n 2, 1) := by decide +kernel
theorem dX5_commonDivisor_25 : decode cX5_commonDivisor 25 = .ok (.iload 5, 2) := by decide +kernel
theorem dX5_commonDivisor_27 : decode cX5_commonDivisor 27 = .ok (.istore_n 3, 1) := by decide +kernel
theorem dX5_commonDivisor_28 : decode cX5_commonDivisor 28 = .ok (.iinc 4 1, 3) := by decide +kernel
theorem dX5_commonDivisor_31 : decode cX5_commonDivisor 31 = .ok (.goto (-24), 3) := by decide +kernel
theorem dX5_commonDivisor_34 : decode cX5_commonDivisor 34 = .ok (.iload_n 2, 1) := by decide +kernel
theorem dX5_commonDivisor_35 : decode cX5_commonDivisor 35 = .ok (.ireturn, 1) := by decide +kernel
theorem dX5_areWords_0 : decode cX5_areWords 0 = .ok (.iload_n 0, 1) := by decide +kernel
theorem dX5_areWords_1 : decode cX5_areWords 1 = .ok (.ifCond .lt 13, 3) := by decide +kernel
theorem dX5_areWords_4 : decode cX5_areWords 4 = .ok (.iload_n 0, 1) := by decide +kernel
theorem dX5_areWords_5 : decode cX5_areWords 5 = .ok (.bipush 31, 2) := by decide +kernel
theorem dX5_areWords_7 : decode cX5_areWords 7 = .ok (.if_icmp .gt 7, 3) := by decide +kernel
theorem dX5_areWords_10 : decode cX5_areWords 10 = .ok (.iconst 1, 1) := by decide +kernel
theorem dX5_areWords_11 : decode cX5_areWords 11 = .ok (.goto 4, 3) := by decide +kernel
theorem dX5_areWords_14 : decode cX5_areWords 14 = .ok (.iconst 0, 1) := by decide +kernel
theorem dX5_areWords_15 : decode cX5_areWords 15 = .ok (.ireturn, 1) := by decide +kernel
theorem dX5_isYesOrNo_0 : decode cX5_isYesOrNo 0 = .ok (.iload_n 0, 1) := by decide +kernel
theorem dX5_isYesOrNo_1 : decode cX5_isYesOrNo 1 = .ok (.ifCond .eq 8, 3) := by decide +kernel
theorem dX5_isYesOrNo_4 : decode cX5_isYesOrNo 4 = .ok (.iload_n 0, 1) := by decide +kernel
theorem dX5_isYesOrNo_5 : decode cX5_isYesOrNo 5 = .ok (.iconst 1, 1) := by decide +kernel
theorem dX5_isYesOrNo_6 : decode cX5_isYesOrNo 6 = .ok (.if_icmp .ne 7, 3) := by decide +kernel
theorem dX5_isYesOrNo_9 : decode cX5_isYesOrNo 9 = .ok (.iconst 1, 1) := by decide +kernel
theorem dX5_isYesOrNo_10 : decode cX5_isYesOrNo 10 = .ok (.goto 4, 3) := by decide +kernel
theorem dX5_isYesOrNo_13 : decode cX5_isYesOrNo 13 = .ok (.iconst 0, 1) := by decide +kernel
theorem dX5_isYesOrNo_14 : decode cX5_isYesOrNo 14 = .ok (.ireturn, 1) := by decide +kernel
theorem dX5_isZ_0 : decode cX5_isZ 0 = .ok (.iload_n 0, 1) := by decide +kernel
theorem dX5_isZ_1 : decode cX5_isZ 1 = .ok (.ifCond .lt 14, 3) := by decide +kernel
theorem dX5_isZ_4 : decode cX5_isZ 4 = .ok (.iload_n 0, 1) := by decide +kernel
theorem dX5_isZ_5 : decode cX5_isZ 5 = .ok (.sipush 9999, 3) := by decide +kernel
theorem dX5_isZ_8 : decode cX5_isZ 8 = .ok (.if_icmp .gt 7, 3) := by decide +kernel
theorem dX5_isZ_11 : decode cX5_isZ 11 = .ok (.iconst 1, 1) := by decide +kernel
theorem dX5_isZ_12 : decode cX5_isZ 12 = .ok (.goto 4, 3) := by decide +kernel
theorem dX5_isZ_15 : decode cX5_isZ 15 = .ok (.iconst 0, 1) := by decide +kernel
theorem dX5_isZ_16 : decode cX5_isZ 16 = .ok (.ireturn, 1) := by decide +kernel
theorem dX5_bitOf_0 : decode cX5_bitOf 0 = .ok (.iload_n 0, 1) := by decide +kernel
theorem dX5_bitOf_1 : decode cX5_bitOf 1 = .ok (.iload_n 1, 1) := by decide +kernel
theorem dX5_bitOf_2 : decode cX5_bitOf 2 = .ok (.ishr, 1) := by decide +kernel
theorem dX5_bitOf_3 : decode cX5_bitOf 3 = .ok (.iconst 1, 1) := by decide +kernel
theorem dX5_bitOf_4 : decode cX5_bitOf 4 = .ok (.iand, 1) := by decide +kernel
theorem dX5_bitOf_5 : decode cX5_bitOf 5 = .ok (.ireturn, 1) := by decide +kernel
theorem dX5_withBit_0 : decode cX5_withBit 0 = .ok (.iload_n 2, 1) := by decide +kernel
theorem dX5_withBit_1 : decode cX5_withBit 1 = .ok (.iconst 1, 1) := by decide +kernel
theorem dX5_withBit_2 : decode cX5_withBit 2 = .ok (.if_icmp .ne 11, 3) := by decide +kernel
theorem dX5_withBit_5 : decode cX5_withBit 5 = .ok (.iload_n 0, 1) := by decide +kernel
theorem dX5_withBit_6 : decode cX5_withBit 6 = .ok (.iconst 1, 1) := by decide +kernel
theorem dX5_withBit_7 : decode cX5_withBit 7 = .ok (.iload_n 1, 1) := by decide +kernel
theorem dX5_withBit_8 : decode cX5_withBit 8 = .ok (.ishl, 1) := by decide +kernel
theorem dX5_withBit_9 : decode cX5_withBit 9 = .ok (.ior, 1) := by decide +kernel
theorem dX5_withBit_10 : decode cX5_withBit 10 = .ok (.goto 10, 3) := by decide +kernel
theorem dX5_withBit_13 : decode cX5_withBit 13 = .ok (.iload_n 0, 1) := by decide +kernel
theorem dX5_withBit_14 : decode cX5_withBit 14 = .ok (.iconst 1, 1) := by decide +kernel
theorem dX5_withBit_15 : decode cX5_withBit 15 = .ok (.iload_n 1, 1) := by decide +kernel
theorem dX5_withBit_16 : decode cX5_withBit 16 = .ok (.ishl, 1) := by decide +kernel
theorem dX5_withBit_17 : decode cX5_withBit 17 = .ok (.iconst (-1), 1) := by decide +kernel
theorem dX5_withBit_18 : decode cX5_withBit 18 = .ok (.ixor, 1) := by decide +kernel
theorem dX5_withBit_19 : decode cX5_withBit 19 = .ok (.iand, 1) := by decide +kernel
theorem dX5_withBit_20 : decode cX5_withBit 20 = .ok (.ireturn, 1) := by decide +kernel
set_option maxRecDepth 20000 in
theorem ggX6_init_X6_begins : GoodIn wsX6_init wsX6_begins := goodIn_r _ [22, 23, 24, 6, 32, 33, 34, 35, 36, 37, 38, 39, 40, 41, 42, 43, 44, 45, 46, 47, 48, 49, 50, 51, 52, 53, 54, 55, 56, 57] (by decide +kernel) (by decide +kernel)
set_option maxRecDepth 20000 in
theorem gX6_init_X6_begins : GoodIn wsX6_init (wsV RX6 47 RX6 yX6_begins wsX6_begins) := goodIn_app (goodIn_of _ (by decide +kernel)) ggX6_init_X6_begins
set_option maxRecDepth 20000 in
theorem ggX6_init_X6_settles : GoodIn wsX6_init wsX6_settles := goodIn_r _ [28, 6, 10, 7, 8, 9, 24, 29, 30, 31, 14, 32, 33, 34, 35, 36, 37, 38, 39, 40, 41, 42, 43, 44, 45, 46, 47, 48, 49, 50, 51, 52, 53, 54, 55, 56, 57] (by decide +kernel) (by decide +kernel)
set_option maxRecDepth 20000 in
theorem gX6_init_X6_settles : GoodIn wsX6_init (wsV RX6 50 RX6 yX6_settles wsX6_settles) := goodIn_app (goodIn_of _ (by decide +kernel)) ggX6_init_X6_settles
theorem dX6_init_0 : decode cX6_init 0 = .ok (.aload_n 0, 1) := by decide +kernel
theorem dX6_init_1 : decode cX6_init 1 = .ok (.invokespecial 1, 3) := by decide +kernel
theorem dX6_init_4 : decode cX6_init 4 = .ok (.aload_n 0, 1) := by decide +kernel
theorem dX6_init_5 : decode cX6_init 5 = .ok (.sipush 200, 3) := by decide +kernel
theorem dX6_init_8 : decode cX6_init 8 = .ok (.newarray .int, 2) := by decide +kernel
theorem dX6_init_10 : decode cX6_init 10 = .ok (.putfield 7, 3) := by decide +kernel
theorem dX6_init_13 : decode cX6_init 13 = .ok (.aload_n 0, 1) := by decide +kernel
theorem dX6_init_14 : decode cX6_init 14 = .ok (.bipush 10, 2) := by decide +kernel
theorem dX6_init_16 : decode cX6_init 16 = .ok (.newarray .int, 2) := by decide +kernel
theorem dX6_init_18 : decode cX6_init 18 = .ok (.putfield 13, 3) := by decide +kernel
theorem dX6_init_21 : decode cX6_init 21 = .ok (.aload_n 0, 1) := by decide +kernel
theorem dX6_init_22 : decode cX6_init 22 = .ok (.bipush 14, 2) := by decide +kernel
theorem dX6_init_24 : decode cX6_init 24 = .ok (.newarray .int, 2) := by decide +kernel
theorem dX6_init_26 : decode cX6_init 26 = .ok (.putfield 16, 3) := by decide +kernel
theorem dX6_init_29 : decode cX6_init 29 = .ok (.aload_n 0, 1) := by decide +kernel
theorem dX6_init_30 : decode cX6_init 30 = .ok (.bipush 14, 2) := by decide +kernel
theorem dX6_init_32 : decode cX6_init 32 = .ok (.newarray .int, 2) := by decide +kernel
theorem dX6_init_34 : decode cX6_init 34 = .ok (.putfield 19, 3) := by decide +kernel
theorem dX6_init_37 : decode cX6_init 37 = .ok (.aload_n 0, 1) := by decide +kernel
theorem dX6_init_38 : decode cX6_init 38 = .ok (.bipush 14, 2) := by decide +kernel
theorem dX6_init_40 : decode cX6_init 40 = .ok (.newarray .int, 2) := by decide +kernel
theorem dX6_init_42 : decode cX6_init 42 = .ok (.putfield 22, 3) := by decide +kernel
theorem dX6_init_45 : decode cX6_init 45 = .ok (.aload_n 0, 1) := by decide +kernel
theorem dX6_init_46 : decode cX6_init 46 = .ok (.iconst 5, 1) := by decide +kernel
theorem dX6_init_47 : decode cX6_init 47 = .ok (.newarray .int, 2) := by decide +kernel
theorem dX6_init_49 : decode cX6_init 49 = .ok (.putfield 25, 3) := by decide +kernel
theorem dX6_init_52 : decode cX6_init 52 = .ok (.aload_n 0, 1) := by decide +kernel
theorem dX6_init_53 : decode cX6_init 53 = .ok (.iconst 5, 1) := by decide +kernel
theorem dX6_init_54 : decode cX6_init 54 = .ok (.newarray .int, 2) := by decide +kernel
theorem dX6_init_56 : decode cX6_init 56 = .ok (.putfield 28, 3) := by decide +kernel
theorem dX6_init_59 : decode cX6_init 59 = .ok (.aload_n 0, 1) := by decide +kernel
theorem dX6_init_60 : decode cX6_init 60 = .ok (.bipush 10, 2) := by decide +kernel
theorem dX6_init_62 : decode cX6_init 62 = .ok (.newarray .int, 2) := by decide +kernel
theorem dX6_init_64 : decode cX6_init 64 = .ok (.putfield 31, 3) := by decide +kernel
theorem dX6_init_67 : decode cX6_init 67 = .ok (.aload_n 0, 1) := by decide +kernel
theorem dX6_init_68 : decode cX6_init 68 = .ok (.iconst 2, 1) := by decide +kernel
theorem dX6_init_69 : decode cX6_init 69 = .ok (.newarray .boolean, 2) := by decide +kernel
theorem dX6_init_71 : decode cX6_init 71 = .ok (.putfield 34, 3) := by decide +kernel
theorem dX6_init_74 : decode cX6_init 74 = .ok (.aload_n 0, 1) := by decide +kernel
theorem dX6_init_75 : decode cX6_init 75 = .ok (.bipush 50, 2) := by decide +kernel
theorem dX6_init_77 : decode cX6_init 77 = .ok (.newarray .int, 2) := by decide +kernel
theorem dX6_init_79 : decode cX6_init 79 = .ok (.putfield 38, 3) := by decide +kernel
theorem dX6_init_82 : decode cX6_init 82 = .ok (.aload_n 0, 1) := by decide +kernel
theorem dX6_init_83 : decode cX6_init 83 = .ok (.bipush 6, 2) := by decide +kernel
theorem dX6_init_85 : decode cX6_init 85 = .ok (.newarray .int, 2) := by decide +kernel
theorem dX6_init_87 : decode cX6_init 87 = .ok (.putfield 41, 3) := by decide +kernel
theorem dX6_init_90 : decode cX6_init 90 = .ok (.aload_n 0, 1) := by decide +kernel
theorem dX6_init_91 : decode cX6_init 91 = .ok (.bipush 6, 2) := by decide +kernel
theorem dX6_init_93 : decode cX6_init 93 = .ok (.newarray .int, 2) := by decide +kernel
theorem dX6_init_95 : decode cX6_init 95 = .ok (.putfield 44, 3) := by decide +kernel
theorem dX6_init_98 : decode cX6_init 98 = .ok (.aload_n 0, 1) := by decide +kernel
theorem dX6_init_99 : decode cX6_init 99 = .ok (.invokevirtual 47, 3) := by decide +kernel
theorem dX6_init_102 : decode cX6_init 102 = .ok (.aload_n 0, 1) := by decide +kernel
theorem dX6_init_103 : decode cX6_init 103 = .ok (.invokevirtual 50, 3) := by decide +kernel
theorem dX6_init_106 : decode cX6_init 106 = .ok (.return_, 1) := by decide +kernel
theorem dX6_in_0 : decode cX6_in 0 = .ok (.iload_n 0, 1) := by decide +kernel
theorem dX6_in_1 : decode cX6_in 1 = .ok (.iload_n 1, 1) := by decide +kernel
theorem dX6_in_2 : decode cX6_in 2 = .ok (.if_icmp .lt 12, 3) := by decide +kernel
theorem dX6_in_5 : decode cX6_in 5 = .ok (.iload_n 0, 1) := by decide +kernel
theorem dX6_in_6 : decode cX6_in 6 = .ok (.iload_n 2, 1) := by decide +kernel
theorem dX6_in_7 : decode cX6_in 7 = .ok (.if_icmp .gt 7, 3) := by decide +kernel
theorem dX6_in_10 : decode cX6_in 10 = .ok (.iconst 1, 1) := by decide +kernel
theorem dX6_in_11 : decode cX6_in 11 = .ok (.goto 4, 3) := by decide +kernel
theorem dX6_in_14 : decode cX6_in 14 = .ok (.iconst 0, 1) := by decide +kernel
theorem dX6_in_15 : decode cX6_in 15 = .ok (.ireturn, 1) := by decide +kernel
theorem dX6_ones_0 : decode cX6_ones 0 = .ok (.iconst 0, 1) := by decide +kernel
theorem dX6_ones_1 : decode cX6_ones 1 = .ok (.istore_n 1, 1) := by decide +kernel
theorem dX6_ones_2 : decode cX6_ones 2 = .ok (.iconst 0, 1) := by decide +kernel
theorem dX6_ones_3 : decode cX6_ones 3 = .ok (.istore_n 2, 1) := by decide +kernel
theorem dX6_ones_4 : decode cX6_ones 4 = .ok (.iload_n 2, 1) := by decide +kernel
theorem dX6_ones_5 : decode cX6_ones 5 = .ok (.bipush 7, 2) := by decide +kernel
theorem dX6_ones_7 : decode cX6_ones 7 = .ok (.if_icmp .ge 17, 3) := by decide +kernel
theorem dX6_ones_10 : decode cX6_ones 10 = .ok (.iload_n 1, 1) := by decide +kernel
theorem dX6_ones_11 : decode cX6_ones 11 = .ok (.iload_n 0, 1) := by decide +kernel
theorem dX6_ones_12 : decode cX6_ones 12 = .ok (.iload_n 2, 1) := by decide +kernel
theorem dX6_ones_13 : decode cX6_ones 13 = .ok (.ishr, 1) := by decide +kernel
theorem dX6_ones_14 : decode cX6_ones 14 = .ok (.iconst 1, 1) := by decide +kernel
theorem dX6_ones_15 : decode cX6_ones 15 = .ok (.iand, 1) := by decide +kernel
theorem dX6_ones_16 : decode cX6_ones 16 = .ok (.iadd, 1) := by decide +kernel
theorem dX6_ones_17 : decode cX6_ones 17 = .ok (.istore_n 1, 1) := by decide +kernel
theorem dX6_ones_18 : decode cX6_ones 18 = .ok (.iinc 2 1, 3) := by decide +kernel
theorem dX6_ones_21 : decode cX6_ones 21 = .ok (.goto (-17), 3) := by decide +kernel
theorem dX6_ones_24 : decode cX6_ones 24 = .ok (.iload_n 1, 1) := by decide +kernel
theorem dX6_ones_25 : decode cX6_ones 25 = .ok (.ireturn, 1) := by decide +kernel
set_option maxRecDepth 20000 in
theorem ggX6_type_X6_in : GoodIn wsX6_type wsX6_in := goodIn_r _ [7] (by decide +kernel) (by decide +kernel)
set_option maxRecDepth 20000 in
theorem gX6_type_X6_in : GoodIn wsX6_type (va_wsS RX6 57 yX6_in wsX6_in) := goodIn_app (goodIn_of _ (by decide +kernel)) ggX6_type_X6_in
theorem dX6_type_0 : decode cX6_type 0 = .ok (.aload_n 0, 1) := by decide +kernel
theorem dX6_type_1 : decode cX6_type 1 = .ok (.iconst 0, 1) := by decide +kernel
theorem dX6_type_2 : decode cX6_type 2 = .ok (.putfield 53, 3) := by decide +kernel
theorem dX6_type_5 : decode cX6_type 5 = .ok (.iload_n 1, 1) := by decide +kernel
theorem dX6_type_6 : decode cX6_type 6 = .ok (.iconst 0, 1) := by decide +kernel
theorem dX6_type_7 : decode cX6_type 7 = .ok (.sipush 255, 3) := by decide +kernel
theorem dX6_type_10 : decode cX6_type 10 = .ok (.invokestatic 57, 3) := by decide +kernel
theorem dX6_type_13 : decode cX6_type 13 = .ok (.ifCond .ne 5, 3) := by decide +kernel
theorem dX6_type_16 : decode cX6_type 16 = .ok (.iconst (-1), 1) := by decide +kernel
theorem dX6_type_17 : decode cX6_type 17 = .ok (.ireturn, 1) := by decide +kernel
theorem dX6_type_18 : decode cX6_type 18 = .ok (.aload_n 0, 1) := by decide +kernel
theorem dX6_type_19 : decode cX6_type 19 = .ok (.getfield 61, 3) := by decide +kernel
theorem dX6_type_22 : decode cX6_type 22 = .ok (.sipush 200, 3) := by decide +kernel
theorem dX6_type_25 : decode cX6_type 25 = .ok (.if_icmp .ne 6, 3) := by decide +kernel
theorem dX6_type_28 : decode cX6_type 28 = .ok (.bipush (-3), 2) := by decide +kernel
theorem dX6_type_30 : decode cX6_type 30 = .ok (.ireturn, 1) := by decide +kernel
theorem dX6_type_31 : decode cX6_type 31 = .ok (.aload_n 0, 1) := by decide +kernel
theorem dX6_type_32 : decode cX6_type 32 = .ok (.getfield 7, 3) := by decide +kernel
theorem dX6_type_35 : decode cX6_type 35 = .ok (.aload_n 0, 1) := by decide +kernel
theorem dX6_type_36 : decode cX6_type 36 = .ok (.getfield 61, 3) := by decide +kernel
theorem dX6_type_39 : decode cX6_type 39 = .ok (.iload_n 1, 1) := by decide +kernel
theorem dX6_type_40 : decode cX6_type 40 = .ok (.iastore, 1) := by decide +kernel
theorem dX6_type_41 : decode cX6_type 41 = .ok (.aload_n 0, 1) := by decide +kernel
theorem dX6_type_42 : decode cX6_type 42 = .ok (.dup, 1) := by decide +kernel
theorem dX6_type_43 : decode cX6_type 43 = .ok (.getfield 61, 3) := by decide +kernel
theorem dX6_type_46 : decode cX6_type 46 = .ok (.iconst 1, 1) := by decide +kernel
theorem dX6_type_47 : decode cX6_type 47 = .ok (.iadd, 1) := by decide +kernel
theorem dX6_type_48 : decode cX6_type 48 = .ok (.putfield 61, 3) := by decide +kernel
theorem dX6_type_51 : decode cX6_type 51 = .ok (.aload_n 0, 1) := by decide +kernel
theorem dX6_type_52 : decode cX6_type 52 = .ok (.getfield 61, 3) := by decide +kernel
theorem dX6_type_55 : decode cX6_type 55 = .ok (.ireturn, 1) := by decide +kernel
theorem dX6_clear_0 : decode cX6_clear 0 = .ok (.aload_n 0, 1) := by decide +kernel
theorem dX6_clear_1 : decode cX6_clear 1 = .ok (.iconst 0, 1) := by decide +kernel
theorem dX6_clear_2 : decode cX6_clear 2 = .ok (.putfield 53, 3) := by decide +kernel
theorem dX6_clear_5 : decode cX6_clear 5 = .ok (.aload_n 0, 1) := by decide +kernel
theorem dX6_clear_6 : decode cX6_clear 6 = .ok (.getfield 61, 3) := by decide +kernel
theorem dX6_clear_9 : decode cX6_clear 9 = .ok (.istore_n 1, 1) := by decide +kernel
theorem dX6_clear_10 : decode cX6_clear 10 = .ok (.aload_n 0, 1) := by decide +kernel
theorem dX6_clear_11 : decode cX6_clear 11 = .ok (.iconst 0, 1) := by decide +kernel
theorem dX6_clear_12 : decode cX6_clear 12 = .ok (.putfield 61, 3) := by decide +kernel
theorem dX6_clear_15 : decode cX6_clear 15 = .ok (.iload_n 1, 1) := by decide +kernel
theorem dX6_clear_16 : decode cX6_clear 16 = .ok (.ireturn, 1) := by decide +kernel
theorem dX6_letterAt_0 : decode cX6_letterAt 0 = .ok (.iload_n 1, 1) := by decide +kernel
theorem dX6_letterAt_1 : decode cX6_letterAt 1 = .ok (.aload_n 0, 1) := by decide +kernel
theorem dX6_letterAt_2 : decode cX6_letterAt 2 = .ok (.getfield 61, 3) := by decide +kernel
theorem dX6_letterAt_5 : decode cX6_letterAt 5 = .ok (.if_icmp .ge 12, 3) := by decide +kernel
theorem dX6_letterAt_8 : decode cX6_letterAt 8 = .ok (.aload_n 0, 1) := by decide +kernel
theorem dX6_letterAt_9 : decode cX6_letterAt 9 = .ok (.getfield 7, 3) := by decide +kernel
theorem dX6_letterAt_12 : decode cX6_letterAt 12 = .ok (.iload_n 1, 1) := by decide +kernel
theorem dX6_letterAt_13 : decode cX6_letterAt 13 = .ok (.iaload, 1) := by decide +kernel
theorem dX6_letterAt_14 : decode cX6_letterAt 14 = .ok (.goto 4, 3) := by decide +kernel
theorem dX6_letterAt_17 : decode cX6_letterAt 17 = .ok (.iconst (-1), 1) := by decide +kernel
theorem dX6_letterAt_18 : decode cX6_letterAt 18 = .ok (.ireturn, 1) := by decide +kernel
set_option maxRecDepth 20000 in
theorem ggX6_advances_X6_letterAt : GoodIn wsX6_advances wsX6_letterAt := goodIn_r _ [9, 10, 11, 15, 16, 17, 18, 19, 20, 21, 22, 23, 24, 25, 26, 27, 28, 29, 30, 31, 32, 33, 34, 35, 36, 37, 38, 39, 40] (by decide +kernel) (by decide +kernel)
set_option maxRecDepth 20000 in
theorem gX6_advances_X6_letterAt : GoodIn wsX6_advances (wsV RX6 67 RX6 yX6_letterAt wsX6_letterAt) := goodIn_app (goodIn_of _ (by decide +kernel)) ggX6_advances_X6_letterAt
set_option maxRecDepth 20000 in
theorem ggX6_advances_X6_in : GoodIn wsX6_advances wsX6_in := goodIn_r _ [14] (by decide +kernel) (by decide +kernel)
set_option maxRecDepth 20000 in
theorem gX6_advances_X6_in : GoodIn wsX6_advances (va_wsS RX6 57 yX6_in wsX6_in) := goodIn_app (goodIn_of _ (by decide +kernel)) ggX6_advances_X6_in
theorem dX6_advances_0 : decode cX6_advances 0 = .ok (.aload_n 0, 1) := by decide +kernel
theorem dX6_advances_1 : decode cX6_advances 1 = .ok (.aload_n 0, 1) := by decide +kernel
theorem dX6_advances_2 : decode cX6_advances 2 = .ok (.getfield 64, 3) := by decide +kernel
theorem dX6_advances_5 : decode cX6_advances 5 = .ok (.invokevirtual 67, 3) := by decide +kernel
theorem dX6_advances_8 : decode cX6_advances 8 = .ok (.bipush 32, 2) := by decide +kernel
theorem dX6_advances_10 : decode cX6_advances 10 = .ok (.if_icmp .ne 16, 3) := by decide +kernel
theorem dX6_advances_13 : decode cX6_advances 13 = .ok (.aload_n 0, 1) := by decide +kernel
theorem dX6_advances_14 : decode cX6_advances 14 = .ok (.dup, 1) := by decide +kernel
theorem dX6_advances_15 : decode cX6_advances 15 = .ok (.getfield 64, 3) := by decide +kernel
theorem dX6_advances_18 : decode cX6_advances 18 = .ok (.iconst 1, 1) := by decide +kernel
theorem dX6_advances_19 : decode cX6_advances 19 = .ok (.iadd, 1) := by decide +kernel
theorem dX6_advances_20 : decode cX6_advances 20 = .ok (.putfield 64, 3) := by decide +kernel
theorem dX6_advances_23 : decode cX6_advances 23 = .ok (.goto (-23), 3) := by decide +kernel
theorem dX6_advances_26 : decode cX6_advances 26 = .ok (.aload_n 0, 1) := by decide +kernel
theorem dX6_advances_27 : decode cX6_advances 27 = .ok (.aload_n 0, 1) := by decide +kernel
theorem dX6_advances_28 : decode cX6_advances 28 = .ok (.getfield 64, 3) := by decide +kernel
theorem dX6_advances_31 : decode cX6_advances 31 = .ok (.putfield 71, 3) := by decide +kernel
theorem dX6_advances_34 : decode cX6_advances 34 = .ok (.aload_n 0, 1) := by decide +kernel
theorem dX6_advances_35 : decode cX6_advances 35 = .ok (.aload_n 0, 1) := by decide +kernel
theorem dX6_advances_36 : decode cX6_advances 36 = .ok (.getfield 64, 3) := by decide +kernel
theorem dX6_advances_39 : decode cX6_advances 39 = .ok (.invokevirtual 67, 3) := by decide +kernel
theorem dX6_advances_42 : decode cX6_advances 42 = .ok (.istore_n 1, 1) := by decide +kernel
theorem dX6_advances_43 : decode cX6_advances 43 = .ok (.iload_n 1, 1) := by decide +kernel
theorem dX6_advances_44 : decode cX6_advances 44 = .ok (.ifCond .ge 11, 3) := by decide +kernel
theorem dX6_advances_47 : decode cX6_advances 47 = .ok (.aload_n 0, 1) := by decide +kernel
theorem dX6_advances_48 : decode cX6_advances 48 = .ok (.iconst 0, 1) := by decide +kernel
theorem dX6_advances_49 : decode cX6_advances 49 = .ok (.putfield 74, 3) := by decide +kernel
theorem dX6_advances_52 : decode cX6_advances 52 = .ok (.goto 183, 3) := by decide +kernel
theorem dX6_advances_55 : decode cX6_advances 55 = .ok (.iload_n 1, 1) := by decide +kernel
theorem dX6_advances_56 : decode cX6_advances 56 = .ok (.bipush 48, 2) := by decide +kernel
theorem dX6_advances_58 : decode cX6_advances 58 = .ok (.bipush 57, 2) := by decide +kernel
theorem dX6_advances_60 : decode cX6_advances 60 = .ok (.invokestatic 57, 3) := by decide +kernel
theorem dX6_advances_63 : decode cX6_advances 63 = .ok (.ifCond .eq 120, 3) := by decide +kernel
theorem dX6_advances_66 : decode cX6_advances 66 = .ok (.aload_n 0, 1) := by decide +kernel
theorem dX6_advances_67 : decode cX6_advances 67 = .ok (.iconst 0, 1) := by decide +kernel
theorem dX6_advances_68 : decode cX6_advances 68 = .ok (.putfield 77, 3) := by decide +kernel
theorem dX6_advances_71 : decode cX6_advances 71 = .ok (.aload_n 0, 1) := by decide +kernel
theorem dX6_advances_72 : decode cX6_advances 72 = .ok (.aload_n 0, 1) := by decide +kernel
theorem dX6_advances_73 : decode cX6_advances 73 = .ok (.getfield 64, 3) := by decide +kernel
theorem dX6_advances_76 : decode cX6_advances 76 = .ok (.invokevirtual 67, 3) := by decide +kernel
theorem dX6_advances_79 : decode cX6_advances 79 = .ok (.bipush 48, 2) := by decide +kernel
theorem dX6_advances_81 : decode cX6_advances 81 = .ok (.bipush 57, 2) := by decide +kernel
theorem dX6_advances_83 : decode cX6_advances 83 = .ok (.invokestatic 57, 3) := by decide +kernel
theorem dX6_advances_86 : decode cX6_advances 86 = .ok (.ifCond .eq 56, 3) := by decide +kernel
theorem dX6_advances_89 : decode cX6_advances 89 = .ok (.aload_n 0, 1) := by decide +kernel
theorem dX6_advances_90 : decode cX6_advances 90 = .ok (.aload_n 0, 1) := by decide +kernel
theorem dX6_advances_91 : decode cX6_advances 91 = .ok (.getfield 77, 3) := by decide +kernel
theorem dX6_advances_94 : decode cX6_advances 94 = .ok (.sipush 999, 3) := by decide +kernel
theorem dX6_advances_97 : decode cX6_advances 97 = .ok (.if_icmp .le 10, 3) := by decide +kernel
theorem dX6_advances_100 : decode cX6_advances 100 = .ok (.aload_n 0, 1) := by decide +kernel
theorem dX6_advances_101 : decode cX6_advances 101 = .ok (.getfield 77, 3) := by decide +kernel
theorem dX6_advances_104 : decode cX6_advances 104 = .ok (.goto 22, 3) := by decide +kernel
theorem dX6_advances_107 : decode cX6_advances 107 = .ok (.bipush 10, 2) := by decide +kernel
theorem dX6_advances_109 : decode cX6_advances 109 = .ok (.aload_n 0, 1) := by decide +kernel
theorem dX6_advances_110 : decode cX6_advances 110 = .ok (.getfield 77, 3) := by decide +kernel
theorem dX6_advances_113 : decode cX6_advances 113 = .ok (.imul, 1) := by decide +kernel
theorem dX6_advances_114 : decode cX6_advances 114 = .ok (.aload_n 0, 1) := by decide +kernel
theorem dX6_advances_115 : decode cX6_advances 115 = .ok (.aload_n 0, 1) := by decide +kernel
theorem dX6_advances_116 : decode cX6_advances 116 = .ok (.getfield 64, 3) := by decide +kernel
theorem dX6_advances_119 : decode cX6_advances 119 = .ok (.invokevirtual 67, 3) := by decide +kernel
theorem dX6_advances_122 : decode cX6_advances 122 = .ok (.iadd, 1) := by decide +kernel
theorem dX6_advances_123 : decode cX6_advances 123 = .ok (.bipush 48, 2) := by decide +kernel
theorem dX6_advances_125 : decode cX6_advances 125 = .ok (.isub, 1) := by decide +kernel
theorem dX6_advances_126 : decode cX6_advances 126 = .ok (.putfield 77, 3) := by decide +kernel
theorem dX6_advances_129 : decode cX6_advances 129 = .ok (.aload_n 0, 1) := by decide +kernel
theorem dX6_advances_130 : decode cX6_advances 130 = .ok (.dup, 1) := by decide +kernel
theorem dX6_advances_131 : decode cX6_advances 131 = .ok (.getfield 64, 3) := by decide +kernel
theorem dX6_advances_134 : decode cX6_advances 134 = .ok (.iconst 1, 1) := by decide +kernel
theorem dX6_advances_135 : decode cX6_advances 135 = .ok (.iadd, 1) := by decide +kernel
theorem dX6_advances_136 : decode cX6_advances 136 = .ok (.putfield 64, 3) := by decide +kernel
theorem dX6_advances_139 : decode cX6_advances 139 = .ok (.goto (-68), 3) := by decide +kernel
theorem dX6_advances_142 : decode cX6_advances 142 = .ok (.aload_n 0, 1) := by decide +kernel
theorem dX6_advances_143 : decode cX6_advances 143 = .ok (.aload_n 0, 1) := by decide +kernel
theorem dX6_advances_144 : decode cX6_advances 144 = .ok (.getfield 77, 3) := by decide +kernel
theorem dX6_advances_147 : decode cX6_advances 147 = .ok (.sipush 999, 3) := by decide +kernel
theorem dX6_advances_150 : decode cX6_advances 150 = .ok (.if_icmp .gt 22, 3) := by decide +kernel
theorem dX6_advances_153 : decode cX6_advances 153 = .ok (.iload_n 1, 1) := by decide +kernel
theorem dX6_advances_154 : decode cX6_advances 154 = .ok (.bipush 48, 2) := by decide +kernel
theorem dX6_advances_156 : decode cX6_advances 156 = .ok (.if_icmp .ne 20, 3) := by decide +kernel
theorem dX6_advances_159 : decode cX6_advances 159 = .ok (.aload_n 0, 1) := by decide +kernel
theorem dX6_advances_160 : decode cX6_advances 160 = .ok (.getfield 64, 3) := by decide +kernel
theorem dX6_advances_163 : decode cX6_advances 163 = .ok (.aload_n 0, 1) := by decide +kernel
theorem dX6_advances_164 : decode cX6_advances 164 = .ok (.getfield 71, 3) := by decide +kernel
theorem dX6_advances_167 : decode cX6_advances 167 = .ok (.isub, 1) := by decide +kernel
theorem dX6_advances_168 : decode cX6_advances 168 = .ok (.iconst 1, 1) := by decide +kernel
theorem dX6_advances_169 : decode cX6_advances 169 = .ok (.if_icmp .le 7, 3) := by decide +kernel
theorem dX6_advances_172 : decode cX6_advances 172 = .ok (.iconst 4, 1) := by decide +kernel
theorem dX6_advances_173 : decode cX6_advances 173 = .ok (.goto 4, 3) := by decide +kernel
theorem dX6_advances_176 : decode cX6_advances 176 = .ok (.iconst 2, 1) := by decide +kernel
theorem dX6_advances_177 : decode cX6_advances 177 = .ok (.putfield 74, 3) := by decide +kernel
theorem dX6_advances_180 : decode cX6_advances 180 = .ok (.goto 55, 3) := by decide +kernel
theorem dX6_advances_183 : decode cX6_advances 183 = .ok (.aload_n 0, 1) := by decide +kernel
theorem dX6_advances_184 : decode cX6_advances 184 = .ok (.dup, 1) := by decide +kernel
theorem dX6_advances_185 : decode cX6_advances 185 = .ok (.getfield 64, 3) := by decide +kernel
theorem dX6_advances_188 : decode cX6_advances 188 = .ok (.iconst 1, 1) := by decide +kernel
theorem dX6_advances_189 : decode cX6_advances 189 = .ok (.iadd, 1) := by decide +kernel
theorem dX6_advances_190 : decode cX6_advances 190 = .ok (.putfield 64, 3) := by decide +kernel
theorem dX6_advances_193 : decode cX6_advances 193 = .ok (.aload_n 0, 1) := by decide +kernel
theorem dX6_advances_194 : decode cX6_advances 194 = .ok (.iload_n 1, 1) := by decide +kernel
theorem dX6_advances_195 : decode cX6_advances 195 = .ok (.putfield 77, 3) := by decide +kernel
theorem dX6_advances_198 : decode cX6_advances 198 = .ok (.aload_n 0, 1) := by decide +kernel
theorem dX6_advances_199 : decode cX6_advances 199 = .ok (.iload_n 1, 1) := by decide +kernel
theorem dX6_advances_200 : decode cX6_advances 200 = .ok (.bipush 59, 2) := by decide +kernel
theorem dX6_advances_202 : decode cX6_advances 202 = .ok (.if_icmp .ne 7, 3) := by decide +kernel
theorem dX6_advances_205 : decode cX6_advances 205 = .ok (.iconst 3, 1) := by decide +kernel
theorem dX6_advances_206 : decode cX6_advances 206 = .ok (.goto 26, 3) := by decide +kernel
theorem dX6_advances_209 : decode cX6_advances 209 = .ok (.iload_n 1, 1) := by decide +kernel
theorem dX6_advances_210 : decode cX6_advances 210 = .ok (.bipush 116, 2) := by decide +kernel
theorem dX6_advances_212 : decode cX6_advances 212 = .ok (.if_icmp .eq 15, 3) := by decide +kernel
theorem dX6_advances_215 : decode cX6_advances 215 = .ok (.iload_n 1, 1) := by decide +kernel
theorem dX6_advances_216 : decode cX6_advances 216 = .ok (.bipush 118, 2) := by decide +kernel
theorem dX6_advances_218 : decode cX6_advances 218 = .ok (.if_icmp .eq 9, 3) := by decide +kernel
theorem dX6_advances_221 : decode cX6_advances 221 = .ok (.iload_n 1, 1) := by decide +kernel
theorem dX6_advances_222 : decode cX6_advances 222 = .ok (.bipush 119, 2) := by decide +kernel
theorem dX6_advances_224 : decode cX6_advances 224 = .ok (.if_icmp .ne 7, 3) := by decide +kernel
theorem dX6_advances_227 : decode cX6_advances 227 = .ok (.iconst 1, 1) := by decide +kernel
theorem dX6_advances_228 : decode cX6_advances 228 = .ok (.goto 4, 3) := by decide +kernel
theorem dX6_advances_231 : decode cX6_advances 231 = .ok (.iconst 4, 1) := by decide +kernel
theorem dX6_advances_232 : decode cX6_advances 232 = .ok (.putfield 74, 3) := by decide +kernel
theorem dX6_advances_235 : decode cX6_advances 235 = .ok (.return_, 1) := by decide +kernel
theorem dX6_isWell_0 : decode cX6_isWell 0 = .ok (.aload_n 0, 1) := by decide +kernel
theorem dX6_isWell_1 : decode cX6_isWell 1 = .ok (.getfield 80, 3) := by decide +kernel
theorem dX6_isWell_4 : decode cX6_isWell 4 = .ok (.ifCond .ge 7, 3) := by decide +kernel
theorem dX6_isWell_7 : decode cX6_isWell 7 = .ok (.iconst 1, 1) := by decide +kernel
theorem dX6_isWell_8 : decode cX6_isWell 8 = .ok (.goto 4, 3) := by decide +kernel
theorem dX6_isWell_11 : decode cX6_isWell 11 = .ok (.iconst 0, 1) := by decide +kernel
theorem dX6_isWell_12 : decode cX6_isWell 12 = .ok (.ireturn, 1) := by decide +kernel
set_option maxRecDepth 20000 in
theorem ggX6_takes_X6_isWell : GoodIn wsX6_takes wsX6_isWell := goodIn_r _ [8, 2, 24, 25, 26, 27, 28, 29, 30, 31, 32, 33, 34, 35, 36, 37, 38, 39, 40, 41, 42, 43, 44, 45, 46, 47, 48, 49] (by decide +kernel) (by decide +kernel)
set_option maxRecDepth 20000 in
theorem gX6_takes_X6_isWell : GoodIn wsX6_takes (wsV RX6 83 RX6 yX6_isWell wsX6_isWell) := goodIn_app (goodIn_of _ (by decide +kernel)) ggX6_takes_X6_isWell
set_option maxRecDepth 20000 in
theorem ggX6_takes_X6_advances : GoodIn wsX6_takes wsX6_advances := goodIn_r _ [12, 13, 1, 14, 3, 15, 16, 17, 7, 18, 19, 20, 21, 22, 23, 24, 25, 26, 27, 28, 29, 30, 31, 32, 33, 34, 35, 36, 37, 38, 39, 40, 41, 42, 43, 44, 45, 46, 47, 48, 49] (by decide +kernel) (by decide +kernel)
set_option maxRecDepth 20000 in
theorem gX6_takes_X6_advances : GoodIn wsX6_takes (wsV RX6 87 RX6 yX6_advances wsX6_advances) := goodIn_app (goodIn_of _ (by decide +kernel)) ggX6_takes_X6_advances
theorem dX6_takes_0 : decode cX6_takes 0 = .ok (.aload_n 0, 1) := by decide +kernel
theorem dX6_takes_1 : decode cX6_takes 1 = .ok (.invokevirtual 83, 3) := by decide +kernel
theorem dX6_takes_4 : decode cX6_takes 4 = .ok (.ifCond .ne 5, 3) := by decide +kernel
theorem dX6_takes_7 : decode cX6_takes 7 = .ok (.iconst 0, 1) := by decide +kernel
theorem dX6_takes_8 : decode cX6_takes 8 = .ok (.ireturn, 1) := by decide +kernel
theorem dX6_takes_9 : decode cX6_takes 9 = .ok (.iload_n 1, 1) := by decide +kernel
theorem dX6_takes_10 : decode cX6_takes 10 = .ok (.ifCond .ne 13, 3) := by decide +kernel
theorem dX6_takes_13 : decode cX6_takes 13 = .ok (.aload_n 0, 1) := by decide +kernel
theorem dX6_takes_14 : decode cX6_takes 14 = .ok (.aload_n 0, 1) := by decide +kernel
theorem dX6_takes_15 : decode cX6_takes 15 = .ok (.getfield 71, 3) := by decide +kernel
theorem dX6_takes_18 : decode cX6_takes 18 = .ok (.putfield 80, 3) := by decide +kernel
theorem dX6_takes_21 : decode cX6_takes 21 = .ok (.iconst 0, 1) := by decide +kernel
theorem dX6_takes_22 : decode cX6_takes 22 = .ok (.ireturn, 1) := by decide +kernel
theorem dX6_takes_23 : decode cX6_takes 23 = .ok (.aload_n 0, 1) := by decide +kernel
theorem dX6_takes_24 : decode cX6_takes 24 = .ok (.getfield 77, 3) := by decide +kernel
theorem dX6_takes_27 : decode cX6_takes 27 = .ok (.istore_n 2, 1) := by decide +kernel
theorem dX6_takes_28 : decode cX6_takes 28 = .ok (.aload_n 0, 1) := by decide +kernel
theorem dX6_takes_29 : decode cX6_takes 29 = .ok (.invokevirtual 87, 3) := by decide +kernel
theorem dX6_takes_32 : decode cX6_takes 32 = .ok (.iload_n 2, 1) := by decide +kernel
theorem dX6_takes_33 : decode cX6_takes 33 = .ok (.ireturn, 1) := by decide +kernel
set_option maxRecDepth 20000 in
theorem ggX6_number_X6_in : GoodIn wsX6_number wsX6_in := goodIn_r _ [6] (by decide +kernel) (by decide +kernel)
set_option maxRecDepth 20000 in
theorem gX6_number_X6_in : GoodIn wsX6_number (va_wsS RX6 57 yX6_in wsX6_in) := goodIn_app (goodIn_of _ (by decide +kernel)) ggX6_number_X6_in
set_option maxRecDepth 20000 in
theorem ggX6_number_X6_takes : GoodIn wsX6_number wsX6_takes := goodIn_r _ [10, 11, 12, 2, 13, 14, 15, 5, 16, 17, 18, 19, 20, 21, 1, 22, 23, 24, 25, 26, 27, 3, 4, 6, 28, 29, 30, 31, 32, 33, 34, 35, 36, 37, 38, 39, 40, 41, 42, 43, 44, 45, 46, 47, 48, 49, 50, 51, 52, 53] (by decide +kernel) (by decide +kernel)
set_option maxRecDepth 20000 in
theorem gX6_number_X6_takes : GoodIn wsX6_number (wsV RX6 90 RX6 yX6_takes wsX6_takes) := goodIn_app (goodIn_of _ (by decide +kernel)) ggX6_number_X6_takes
theorem dX6_number_0 : decode cX6_number 0 = .ok (.aload_n 0, 1) := by decide +kernel
theorem dX6_number_1 : decode cX6_number 1 = .ok (.aload_n 0, 1) := by decide +kernel
theorem dX6_number_2 : decode cX6_number 2 = .ok (.getfield 74, 3) := by decide +kernel
theorem dX6_number_5 : decode cX6_number 5 = .ok (.iconst 2, 1) := by decide +kernel
theorem dX6_number_6 : decode cX6_number 6 = .ok (.if_icmp .ne 19, 3) := by decide +kernel
theorem dX6_number_9 : decode cX6_number 9 = .ok (.aload_n 0, 1) := by decide +kernel
theorem dX6_number_10 : decode cX6_number 10 = .ok (.getfield 77, 3) := by decide +kernel
theorem dX6_number_13 : decode cX6_number 13 = .ok (.iload_n 1, 1) := by decide +kernel
theorem dX6_number_14 : decode cX6_number 14 = .ok (.iload_n 2, 1) := by decide +kernel
theorem dX6_number_15 : decode cX6_number 15 = .ok (.invokestatic 57, 3) := by decide +kernel
theorem dX6_number_18 : decode cX6_number 18 = .ok (.ifCond .eq 7, 3) := by decide +kernel
theorem dX6_number_21 : decode cX6_number 21 = .ok (.iconst 1, 1) := by decide +kernel
theorem dX6_number_22 : decode cX6_number 22 = .ok (.goto 4, 3) := by decide +kernel
theorem dX6_number_25 : decode cX6_number 25 = .ok (.iconst 0, 1) := by decide +kernel
theorem dX6_number_26 : decode cX6_number 26 = .ok (.invokevirtual 90, 3) := by decide +kernel
theorem dX6_number_29 : decode cX6_number 29 = .ok (.ireturn, 1) := by decide +kernel
theorem dX6_begins_0 : decode cX6_begins 0 = .ok (.aload_n 0, 1) := by decide +kernel
theorem dX6_begins_1 : decode cX6_begins 1 = .ok (.iconst 0, 1) := by decide +kernel
theorem dX6_begins_2 : decode cX6_begins 2 = .ok (.putfield 94, 3) := by decide +kernel
theorem dX6_begins_5 : decode cX6_begins 5 = .ok (.aload_n 0, 1) := by decide +kernel
theorem dX6_begins_6 : decode cX6_begins 6 = .ok (.iconst 0, 1) := by decide +kernel
theorem dX6_begins_7 : decode cX6_begins 7 = .ok (.putfield 97, 3) := by decide +kernel
theorem dX6_begins_10 : decode cX6_begins 10 = .ok (.aload_n 0, 1) := by decide +kernel
theorem dX6_begins_11 : decode cX6_begins 11 = .ok (.getfield 13, 3) := by decide +kernel
theorem dX6_begins_14 : decode cX6_begins 14 = .ok (.iconst 5, 1) := by decide +kernel
theorem dX6_begins_15 : decode cX6_begins 15 = .ok (.iconst 0, 1) := by decide +kernel
theorem dX6_begins_16 : decode cX6_begins 16 = .ok (.iastore, 1) := by decide +kernel
theorem dX6_begins_17 : decode cX6_begins 17 = .ok (.aload_n 0, 1) := by decide +kernel
theorem dX6_begins_18 : decode cX6_begins 18 = .ok (.getfield 13, 3) := by decide +kernel
theorem dX6_begins_21 : decode cX6_begins 21 = .ok (.bipush 6, 2) := by decide +kernel
theorem dX6_begins_23 : decode cX6_begins 23 = .ok (.iconst 5, 1) := by decide +kernel
theorem dX6_begins_24 : decode cX6_begins 24 = .ok (.iastore, 1) := by decide +kernel
theorem dX6_begins_25 : decode cX6_begins 25 = .ok (.aload_n 0, 1) := by decide +kernel
theorem dX6_begins_26 : decode cX6_begins 26 = .ok (.getfield 13, 3) := by decide +kernel
theorem dX6_begins_29 : decode cX6_begins 29 = .ok (.bipush 7, 2) := by decide +kernel
theorem dX6_begins_31 : decode cX6_begins 31 = .ok (.iconst 0, 1) := by decide +kernel
theorem dX6_begins_32 : decode cX6_begins 32 = .ok (.iastore, 1) := by decide +kernel
theorem dX6_begins_33 : decode cX6_begins 33 = .ok (.aload_n 0, 1) := by decide +kernel
theorem dX6_begins_34 : decode cX6_begins 34 = .ok (.getfield 13, 3) := by decide +kernel
theorem dX6_begins_37 : decode cX6_begins 37 = .ok (.bipush 8, 2) := by decide +kernel
theorem dX6_begins_39 : decode cX6_begins 39 = .ok (.bipush 100, 2) := by decide +kernel
theorem dX6_begins_41 : decode cX6_begins 41 = .ok (.iastore, 1) := by decide +kernel
theorem dX6_begins_42 : decode cX6_begins 42 = .ok (.aload_n 0, 1) := by decide +kernel
theorem dX6_begins_43 : decode cX6_begins 43 = .ok (.getfield 13, 3) := by decide +kernel
theorem dX6_begins_46 : decode cX6_begins 46 = .ok (.bipush 9, 2) := by decide +kernel
theorem dX6_begins_48 : decode cX6_begins 48 = .ok (.iconst 0, 1) := by decide +kernel
theorem dX6_begins_49 : decode cX6_begins 49 = .ok (.iastore, 1) := by decide +kernel
theorem dX6_begins_50 : decode cX6_begins 50 = .ok (.return_, 1) := by decide +kernel
set_option maxRecDepth 20000 in
theorem ggX6_readsItem_X6_number : GoodIn wsX6_readsItem wsX6_number := goodIn_r _ [11, 12, 13, 14, 15, 10, 16, 17, 18, 19, 20, 21, 22, 23, 24, 25, 26, 27, 28, 29, 30, 31, 32, 33, 34, 35, 36, 37, 38, 39, 40, 41, 42, 43, 44, 45, 46, 47, 48, 49, 50, 51, 52, 53, 54, 55, 56, 57, 58, 59, 60, 61, 62, 63] (by decide +kernel) (by decide +kernel)
set_option maxRecDepth 20000 in
theorem gX6_readsItem_X6_number : GoodIn wsX6_readsItem (wsV RX6 100 RX6 yX6_number wsX6_number) := goodIn_app (goodIn_of _ (by decide +kernel)) ggX6_readsItem_X6_number
theorem dX6_readsItem_0 : decode cX6_readsItem 0 = .ok (.iload_n 1, 1) := by decide +kernel
theorem dX6_readsItem_1 : decode cX6_readsItem 1 = .ok (.bipush 116, 2) := by decide +kernel
theorem dX6_readsItem_3 : decode cX6_readsItem 3 = .ok (.if_icmp .ne 87, 3) := by decide +kernel
theorem dX6_readsItem_6 : decode cX6_readsItem 6 = .ok (.bipush 7, 2) := by decide +kernel
theorem dX6_readsItem_8 : decode cX6_readsItem 8 = .ok (.aload_n 0, 1) := by decide +kernel
theorem dX6_readsItem_9 : decode cX6_readsItem 9 = .ok (.getfield 13, 3) := by decide +kernel
theorem dX6_readsItem_12 : decode cX6_readsItem 12 = .ok (.iconst 5, 1) := by decide +kernel
theorem dX6_readsItem_13 : decode cX6_readsItem 13 = .ok (.iaload, 1) := by decide +kernel
theorem dX6_readsItem_14 : decode cX6_readsItem 14 = .ok (.iadd, 1) := by decide +kernel
theorem dX6_readsItem_15 : decode cX6_readsItem 15 = .ok (.istore_n 2, 1) := by decide +kernel
theorem dX6_readsItem_16 : decode cX6_readsItem 16 = .ok (.aload_n 0, 1) := by decide +kernel
theorem dX6_readsItem_17 : decode cX6_readsItem 17 = .ok (.getfield 16, 3) := by decide +kernel
theorem dX6_readsItem_20 : decode cX6_readsItem 20 = .ok (.iload_n 2, 1) := by decide +kernel
theorem dX6_readsItem_21 : decode cX6_readsItem 21 = .ok (.aload_n 0, 1) := by decide +kernel
theorem dX6_readsItem_22 : decode cX6_readsItem 22 = .ok (.iconst 0, 1) := by decide +kernel
theorem dX6_readsItem_23 : decode cX6_readsItem 23 = .ok (.bipush 31, 2) := by decide +kernel
theorem dX6_readsItem_25 : decode cX6_readsItem 25 = .ok (.invokevirtual 100, 3) := by decide +kernel
theorem dX6_readsItem_28 : decode cX6_readsItem 28 = .ok (.iastore, 1) := by decide +kernel
theorem dX6_readsItem_29 : decode cX6_readsItem 29 = .ok (.aload_n 0, 1) := by decide +kernel
theorem dX6_readsItem_30 : decode cX6_readsItem 30 = .ok (.getfield 19, 3) := by decide +kernel
theorem dX6_readsItem_33 : decode cX6_readsItem 33 = .ok (.iload_n 2, 1) := by decide +kernel
theorem dX6_readsItem_34 : decode cX6_readsItem 34 = .ok (.aload_n 0, 1) := by decide +kernel
theorem dX6_readsItem_35 : decode cX6_readsItem 35 = .ok (.iconst 0, 1) := by decide +kernel
theorem dX6_readsItem_36 : decode cX6_readsItem 36 = .ok (.bipush 99, 2) := by decide +kernel
theorem dX6_readsItem_38 : decode cX6_readsItem 38 = .ok (.invokevirtual 100, 3) := by decide +kernel
theorem dX6_readsItem_41 : decode cX6_readsItem 41 = .ok (.iastore, 1) := by decide +kernel
theorem dX6_readsItem_42 : decode cX6_readsItem 42 = .ok (.aload_n 0, 1) := by decide +kernel
theorem dX6_readsItem_43 : decode cX6_readsItem 43 = .ok (.getfield 22, 3) := by decide +kernel
theorem dX6_readsItem_46 : decode cX6_readsItem 46 = .ok (.iload_n 2, 1) := by decide +kernel
theorem dX6_readsItem_47 : decode cX6_readsItem 47 = .ok (.aload_n 0, 1) := by decide +kernel
theorem dX6_readsItem_48 : decode cX6_readsItem 48 = .ok (.iconst 0, 1) := by decide +kernel
theorem dX6_readsItem_49 : decode cX6_readsItem 49 = .ok (.bipush 9, 2) := by decide +kernel
theorem dX6_readsItem_51 : decode cX6_readsItem 51 = .ok (.invokevirtual 100, 3) := by decide +kernel
theorem dX6_readsItem_54 : decode cX6_readsItem 54 = .ok (.iastore, 1) := by decide +kernel
theorem dX6_readsItem_55 : decode cX6_readsItem 55 = .ok (.aload_n 0, 1) := by decide +kernel
theorem dX6_readsItem_56 : decode cX6_readsItem 56 = .ok (.dup, 1) := by decide +kernel
theorem dX6_readsItem_57 : decode cX6_readsItem 57 = .ok (.getfield 97, 3) := by decide +kernel
theorem dX6_readsItem_60 : decode cX6_readsItem 60 = .ok (.aload_n 0, 1) := by decide +kernel
theorem dX6_readsItem_61 : decode cX6_readsItem 61 = .ok (.iconst 0, 1) := by decide +kernel
theorem dX6_readsItem_62 : decode cX6_readsItem 62 = .ok (.iconst 1, 1) := by decide +kernel
theorem dX6_readsItem_63 : decode cX6_readsItem 63 = .ok (.invokevirtual 100, 3) := by decide +kernel
theorem dX6_readsItem_66 : decode cX6_readsItem 66 = .ok (.aload_n 0, 1) := by decide +kernel
theorem dX6_readsItem_67 : decode cX6_readsItem 67 = .ok (.getfield 13, 3) := by decide +kernel
theorem dX6_readsItem_70 : decode cX6_readsItem 70 = .ok (.iconst 5, 1) := by decide +kernel
theorem dX6_readsItem_71 : decode cX6_readsItem 71 = .ok (.iaload, 1) := by decide +kernel
theorem dX6_readsItem_72 : decode cX6_readsItem 72 = .ok (.ishl, 1) := by decide +kernel
theorem dX6_readsItem_73 : decode cX6_readsItem 73 = .ok (.ior, 1) := by decide +kernel
theorem dX6_readsItem_74 : decode cX6_readsItem 74 = .ok (.putfield 97, 3) := by decide +kernel
theorem dX6_readsItem_77 : decode cX6_readsItem 77 = .ok (.aload_n 0, 1) := by decide +kernel
theorem dX6_readsItem_78 : decode cX6_readsItem 78 = .ok (.getfield 13, 3) := by decide +kernel
theorem dX6_readsItem_81 : decode cX6_readsItem 81 = .ok (.iconst 5, 1) := by decide +kernel
theorem dX6_readsItem_82 : decode cX6_readsItem 82 = .ok (.dup2, 1) := by decide +kernel
theorem dX6_readsItem_83 : decode cX6_readsItem 83 = .ok (.iaload, 1) := by decide +kernel
theorem dX6_readsItem_84 : decode cX6_readsItem 84 = .ok (.iconst 1, 1) := by decide +kernel
theorem dX6_readsItem_85 : decode cX6_readsItem 85 = .ok (.iadd, 1) := by decide +kernel
theorem dX6_readsItem_86 : decode cX6_readsItem 86 = .ok (.iastore, 1) := by decide +kernel
theorem dX6_readsItem_87 : decode cX6_readsItem 87 = .ok (.goto 97, 3) := by decide +kernel
theorem dX6_readsItem_90 : decode cX6_readsItem 90 = .ok (.iload_n 1, 1) := by decide +kernel
theorem dX6_readsItem_91 : decode cX6_readsItem 91 = .ok (.bipush 118, 2) := by decide +kernel
theorem dX6_readsItem_93 : decode cX6_readsItem 93 = .ok (.if_icmp .ne 30, 3) := by decide +kernel
theorem dX6_readsItem_96 : decode cX6_readsItem 96 = .ok (.aload_n 0, 1) := by decide +kernel
theorem dX6_readsItem_97 : decode cX6_readsItem 97 = .ok (.getfield 13, 3) := by decide +kernel
theorem dX6_readsItem_100 : decode cX6_readsItem 100 = .ok (.bipush 9, 2) := by decide +kernel
theorem dX6_readsItem_102 : decode cX6_readsItem 102 = .ok (.aload_n 0, 1) := by decide +kernel
theorem dX6_readsItem_103 : decode cX6_readsItem 103 = .ok (.iconst 0, 1) := by decide +kernel
theorem dX6_readsItem_104 : decode cX6_readsItem 104 = .ok (.bipush 31, 2) := by decide +kernel
theorem dX6_readsItem_106 : decode cX6_readsItem 106 = .ok (.invokevirtual 100, 3) := by decide +kernel
theorem dX6_readsItem_109 : decode cX6_readsItem 109 = .ok (.iastore, 1) := by decide +kernel
theorem dX6_readsItem_110 : decode cX6_readsItem 110 = .ok (.aload_n 0, 1) := by decide +kernel
theorem dX6_readsItem_111 : decode cX6_readsItem 111 = .ok (.dup, 1) := by decide +kernel
theorem dX6_readsItem_112 : decode cX6_readsItem 112 = .ok (.getfield 94, 3) := by decide +kernel
theorem dX6_readsItem_115 : decode cX6_readsItem 115 = .ok (.iconst 1, 1) := by decide +kernel
theorem dX6_readsItem_116 : decode cX6_readsItem 116 = .ok (.ior, 1) := by decide +kernel
theorem dX6_readsItem_117 : decode cX6_readsItem 117 = .ok (.putfield 94, 3) := by decide +kernel
theorem dX6_readsItem_120 : decode cX6_readsItem 120 = .ok (.goto 64, 3) := by decide +kernel
theorem dX6_readsItem_123 : decode cX6_readsItem 123 = .ok (.aload_n 0, 1) := by decide +kernel
theorem dX6_readsItem_124 : decode cX6_readsItem 124 = .ok (.getfield 13, 3) := by decide +kernel
theorem dX6_readsItem_127 : decode cX6_readsItem 127 = .ok (.bipush 6, 2) := by decide +kernel
theorem dX6_readsItem_129 : decode cX6_readsItem 129 = .ok (.aload_n 0, 1) := by decide +kernel
theorem dX6_readsItem_130 : decode cX6_readsItem 130 = .ok (.iconst 0, 1) := by decide +kernel
theorem dX6_readsItem_131 : decode cX6_readsItem 131 = .ok (.bipush 10, 2) := by decide +kernel
theorem dX6_readsItem_133 : decode cX6_readsItem 133 = .ok (.invokevirtual 100, 3) := by decide +kernel
theorem dX6_readsItem_136 : decode cX6_readsItem 136 = .ok (.iastore, 1) := by decide +kernel
theorem dX6_readsItem_137 : decode cX6_readsItem 137 = .ok (.aload_n 0, 1) := by decide +kernel
theorem dX6_readsItem_138 : decode cX6_readsItem 138 = .ok (.getfield 13, 3) := by decide +kernel
theorem dX6_readsItem_141 : decode cX6_readsItem 141 = .ok (.bipush 7, 2) := by decide +kernel
theorem dX6_readsItem_143 : decode cX6_readsItem 143 = .ok (.aload_n 0, 1) := by decide +kernel
theorem dX6_readsItem_144 : decode cX6_readsItem 144 = .ok (.iconst 0, 1) := by decide +kernel
theorem dX6_readsItem_145 : decode cX6_readsItem 145 = .ok (.bipush 10, 2) := by decide +kernel
theorem dX6_readsItem_147 : decode cX6_readsItem 147 = .ok (.aload_n 0, 1) := by decide +kernel
theorem dX6_readsItem_148 : decode cX6_readsItem 148 = .ok (.getfield 13, 3) := by decide +kernel
theorem dX6_readsItem_151 : decode cX6_readsItem 151 = .ok (.bipush 6, 2) := by decide +kernel
theorem dX6_readsItem_153 : decode cX6_readsItem 153 = .ok (.iaload, 1) := by decide +kernel
theorem dX6_readsItem_154 : decode cX6_readsItem 154 = .ok (.isub, 1) := by decide +kernel
theorem dX6_readsItem_155 : decode cX6_readsItem 155 = .ok (.invokevirtual 100, 3) := by decide +kernel
theorem dX6_readsItem_158 : decode cX6_readsItem 158 = .ok (.iastore, 1) := by decide +kernel
theorem dX6_readsItem_159 : decode cX6_readsItem 159 = .ok (.aload_n 0, 1) := by decide +kernel
theorem dX6_readsItem_160 : decode cX6_readsItem 160 = .ok (.getfield 13, 3) := by decide +kernel
theorem dX6_readsItem_163 : decode cX6_readsItem 163 = .ok (.bipush 8, 2) := by decide +kernel
theorem dX6_readsItem_165 : decode cX6_readsItem 165 = .ok (.aload_n 0, 1) := by decide +kernel
theorem dX6_readsItem_166 : decode cX6_readsItem 166 = .ok (.iconst 0, 1) := by decide +kernel
theorem dX6_readsItem_167 : decode cX6_readsItem 167 = .ok (.sipush 999, 3) := by decide +kernel
theorem dX6_readsItem_170 : decode cX6_readsItem 170 = .ok (.invokevirtual 100, 3) := by decide +kernel
theorem dX6_readsItem_173 : decode cX6_readsItem 173 = .ok (.iastore, 1) := by decide +kernel
theorem dX6_readsItem_174 : decode cX6_readsItem 174 = .ok (.aload_n 0, 1) := by decide +kernel
theorem dX6_readsItem_175 : decode cX6_readsItem 175 = .ok (.dup, 1) := by decide +kernel
theorem dX6_readsItem_176 : decode cX6_readsItem 176 = .ok (.getfield 94, 3) := by decide +kernel
theorem dX6_readsItem_179 : decode cX6_readsItem 179 = .ok (.iconst 2, 1) := by decide +kernel
theorem dX6_readsItem_180 : decode cX6_readsItem 180 = .ok (.ior, 1) := by decide +kernel
theorem dX6_readsItem_181 : decode cX6_readsItem 181 = .ok (.putfield 94, 3) := by decide +kernel
theorem dX6_readsItem_184 : decode cX6_readsItem 184 = .ok (.return_, 1) := by decide +kernel
set_option maxRecDepth 20000 in
theorem ggX6_house_X6_begins : GoodIn wsX6_house wsX6_begins := goodIn_r _ [12, 7, 13, 6, 55, 56, 57, 58, 59, 60, 61, 62, 63, 64, 65, 66, 67, 68, 69, 70, 71, 72, 73, 74, 75, 76, 77, 78, 79, 80] (by decide +kernel) (by decide +kernel)
set_option maxRecDepth 20000 in
theorem gX6_house_X6_begins : GoodIn wsX6_house (wsV RX6 47 RX6 yX6_begins wsX6_begins) := goodIn_app (goodIn_of _ (by decide +kernel)) ggX6_house_X6_begins
set_option maxRecDepth 20000 in
theorem ggX6_house_X6_advances : GoodIn wsX6_house wsX6_advances := goodIn_r _ [17, 3, 18, 4, 5, 19, 20, 21, 11, 22, 23, 24, 25, 26, 27, 55, 56, 57, 58, 59, 60, 61, 62, 63, 64, 65, 66, 67, 68, 69, 70, 71, 72, 73, 74, 75, 76, 77, 78, 79, 80] (by decide +kernel) (by decide +kernel)
set_option maxRecDepth 20000 in
theorem gX6_house_X6_advances : GoodIn wsX6_house (wsV RX6 87 RX6 yX6_advances wsX6_advances) := goodIn_app (goodIn_of _ (by decide +kernel)) ggX6_house_X6_advances
set_option maxRecDepth 20000 in
theorem ggX6_house_X6_isWell : GoodIn wsX6_house wsX6_isWell := goodIn_r _ [31, 2, 55, 56, 57, 58, 59, 60, 61, 62, 63, 64, 65, 66, 67, 68, 69, 70, 71, 72, 73, 74, 75, 76, 77, 78, 79, 80] (by decide +kernel) (by decide +kernel)
set_option maxRecDepth 20000 in
theorem gX6_house_X6_isWell : GoodIn wsX6_house (wsV RX6 83 RX6 yX6_isWell wsX6_isWell) := goodIn_app (goodIn_of _ (by decide +kernel)) ggX6_house_X6_isWell
set_option maxRecDepth 20000 in
theorem ggX6_house_X6_takes : GoodIn wsX6_house wsX6_takes := goodIn_r _ [35, 18, 2, 5, 28, 29, 30, 11, 31, 14, 15, 16, 17, 3, 4, 19, 20, 21, 22, 23, 24, 25, 26, 27, 55, 56, 57, 58, 59, 60, 61, 62, 63, 64, 65, 66, 67, 68, 69, 70, 71, 72, 73, 74, 75, 76, 77, 78, 79, 80] (by decide +kernel) (by decide +kernel)
set_option maxRecDepth 20000 in
theorem gX6_house_X6_takes : GoodIn wsX6_house (wsV RX6 90 RX6 yX6_takes wsX6_takes) := goodIn_app (goodIn_of _ (by decide +kernel)) ggX6_house_X6_takes
set_option maxRecDepth 20000 in
theorem ggX6_house_X6_readsItem : GoodIn wsX6_house wsX6_readsItem := goodIn_r _ [39, 6, 40, 41, 42, 13, 7, 43, 44, 45, 11, 46, 4, 5, 25, 26, 27, 32, 33, 34, 35, 18, 2, 28, 29, 30, 31, 14, 15, 16, 17, 3, 19, 20, 21, 22, 23, 24, 55, 56, 57, 58, 59, 60, 61, 62, 63, 64, 65, 66, 67, 68, 69, 70, 71, 72, 73, 74, 75, 76, 77, 78, 79, 80] (by decide +kernel) (by decide +kernel)
set_option maxRecDepth 20000 in
theorem gX6_house_X6_readsItem : GoodIn wsX6_house (wsV RX6 104 RX6 yX6_readsItem wsX6_readsItem) := goodIn_app (goodIn_of _ (by decide +kernel)) ggX6_house_X6_readsItem
set_option maxRecDepth 20000 in
theorem ggX6_house_X6_settles : GoodIn wsX6_house wsX6_settles := goodIn_r _ [50, 6, 51, 40, 41, 42, 13, 23, 52, 53, 54, 55, 56, 57, 58, 59, 60, 61, 62, 63, 64, 65, 66, 67, 68, 69, 70, 71, 72, 73, 74, 75, 76, 77, 78, 79, 80] (by decide +kernel) (by decide +kernel)
set_option maxRecDepth 20000 in
theorem gX6_house_X6_settles : GoodIn wsX6_house (wsV RX6 50 RX6 yX6_settles wsX6_settles) := goodIn_app (goodIn_of _ (by decide +kernel)) ggX6_house_X6_settles
theorem dX6_house_0 : decode cX6_house 0 = .ok (.aload_n 0, 1) := by decide +kernel
theorem dX6_house_1 : decode cX6_house 1 = .ok (.iconst 0, 1) := by decide +kernel
theorem dX6_house_2 : decode cX6_house 2 = .ok (.putfield 53, 3) := by decide +kernel
theorem dX6_house_5 : decode cX6_house 5 = .ok (.aload_n 0, 1) := by decide +kernel
theorem dX6_house_6 : decode cX6_house 6 = .ok (.iconst (-1), 1) := by decide +kernel
theorem dX6_house_7 : decode cX6_house 7 = .ok (.putfield 80, 3) := by decide +kernel
theorem dX6_house_10 : decode cX6_house 10 = .ok (.aload_n 0, 1) := by decide +kernel
theorem dX6_house_11 : decode cX6_house 11 = .ok (.iconst 0, 1) := by decide +kernel
theorem dX6_house_12 : decode cX6_house 12 = .ok (.putfield 64, 3) := by decide +kernel
theorem dX6_house_15 : decode cX6_house 15 = .ok (.aload_n 0, 1) := by decide +kernel
theorem dX6_house_16 : decode cX6_house 16 = .ok (.invokevirtual 47, 3) := by decide +kernel
theorem dX6_house_19 : decode cX6_house 19 = .ok (.iconst 0, 1) := by decide +kernel
theorem dX6_house_20 : decode cX6_house 20 = .ok (.istore_n 1, 1) := by decide +kernel
theorem dX6_house_21 : decode cX6_house 21 = .ok (.aload_n 0, 1) := by decide +kernel
theorem dX6_house_22 : decode cX6_house 22 = .ok (.invokevirtual 87, 3) := by decide +kernel
theorem dX6_house_25 : decode cX6_house 25 = .ok (.aload_n 0, 1) := by decide +kernel
theorem dX6_house_26 : decode cX6_house 26 = .ok (.invokevirtual 83, 3) := by decide +kernel
theorem dX6_house_29 : decode cX6_house 29 = .ok (.ifCond .eq 109, 3) := by decide +kernel
theorem dX6_house_32 : decode cX6_house 32 = .ok (.aload_n 0, 1) := by decide +kernel
theorem dX6_house_33 : decode cX6_house 33 = .ok (.getfield 74, 3) := by decide +kernel
theorem dX6_house_36 : decode cX6_house 36 = .ok (.ifCond .eq 102, 3) := by decide +kernel
theorem dX6_house_39 : decode cX6_house 39 = .ok (.aload_n 0, 1) := by decide +kernel
theorem dX6_house_40 : decode cX6_house 40 = .ok (.aload_n 0, 1) := by decide +kernel
theorem dX6_house_41 : decode cX6_house 41 = .ok (.getfield 74, 3) := by decide +kernel
theorem dX6_house_44 : decode cX6_house 44 = .ok (.iconst 1, 1) := by decide +kernel
theorem dX6_house_45 : decode cX6_house 45 = .ok (.if_icmp .ne 52, 3) := by decide +kernel
theorem dX6_house_48 : decode cX6_house 48 = .ok (.aload_n 0, 1) := by decide +kernel
theorem dX6_house_49 : decode cX6_house 49 = .ok (.getfield 77, 3) := by decide +kernel
theorem dX6_house_52 : decode cX6_house 52 = .ok (.bipush 116, 2) := by decide +kernel
theorem dX6_house_54 : decode cX6_house 54 = .ok (.if_icmp .ne 17, 3) := by decide +kernel
theorem dX6_house_57 : decode cX6_house 57 = .ok (.aload_n 0, 1) := by decide +kernel
theorem dX6_house_58 : decode cX6_house 58 = .ok (.getfield 13, 3) := by decide +kernel
theorem dX6_house_61 : decode cX6_house 61 = .ok (.iconst 5, 1) := by decide +kernel
theorem dX6_house_62 : decode cX6_house 62 = .ok (.iaload, 1) := by decide +kernel
theorem dX6_house_63 : decode cX6_house 63 = .ok (.bipush 7, 2) := by decide +kernel
theorem dX6_house_65 : decode cX6_house 65 = .ok (.if_icmp .ge 32, 3) := by decide +kernel
theorem dX6_house_68 : decode cX6_house 68 = .ok (.goto 25, 3) := by decide +kernel
theorem dX6_house_71 : decode cX6_house 71 = .ok (.aload_n 0, 1) := by decide +kernel
theorem dX6_house_72 : decode cX6_house 72 = .ok (.getfield 94, 3) := by decide +kernel
theorem dX6_house_75 : decode cX6_house 75 = .ok (.aload_n 0, 1) := by decide +kernel
theorem dX6_house_76 : decode cX6_house 76 = .ok (.getfield 77, 3) := by decide +kernel
theorem dX6_house_79 : decode cX6_house 79 = .ok (.bipush 118, 2) := by decide +kernel
theorem dX6_house_81 : decode cX6_house 81 = .ok (.if_icmp .ne 7, 3) := by decide +kernel
theorem dX6_house_84 : decode cX6_house 84 = .ok (.iconst 1, 1) := by decide +kernel
theorem dX6_house_85 : decode cX6_house 85 = .ok (.goto 4, 3) := by decide +kernel
theorem dX6_house_88 : decode cX6_house 88 = .ok (.iconst 2, 1) := by decide +kernel
theorem dX6_house_89 : decode cX6_house 89 = .ok (.iand, 1) := by decide +kernel
theorem dX6_house_90 : decode cX6_house 90 = .ok (.ifCond .ne 7, 3) := by decide +kernel
theorem dX6_house_93 : decode cX6_house 93 = .ok (.iconst 1, 1) := by decide +kernel
theorem dX6_house_94 : decode cX6_house 94 = .ok (.goto 4, 3) := by decide +kernel
theorem dX6_house_97 : decode cX6_house 97 = .ok (.iconst 0, 1) := by decide +kernel
theorem dX6_house_98 : decode cX6_house 98 = .ok (.invokevirtual 90, 3) := by decide +kernel
theorem dX6_house_101 : decode cX6_house 101 = .ok (.istore_n 2, 1) := by decide +kernel
theorem dX6_house_102 : decode cX6_house 102 = .ok (.aload_n 0, 1) := by decide +kernel
theorem dX6_house_103 : decode cX6_house 103 = .ok (.invokevirtual 83, 3) := by decide +kernel
theorem dX6_house_106 : decode cX6_house 106 = .ok (.ifCond .eq 8, 3) := by decide +kernel
theorem dX6_house_109 : decode cX6_house 109 = .ok (.aload_n 0, 1) := by decide +kernel
theorem dX6_house_110 : decode cX6_house 110 = .ok (.iload_n 2, 1) := by decide +kernel
theorem dX6_house_111 : decode cX6_house 111 = .ok (.invokevirtual 104, 3) := by decide +kernel
theorem dX6_house_114 : decode cX6_house 114 = .ok (.aload_n 0, 1) := by decide +kernel
theorem dX6_house_115 : decode cX6_house 115 = .ok (.aload_n 0, 1) := by decide +kernel
theorem dX6_house_116 : decode cX6_house 116 = .ok (.getfield 74, 3) := by decide +kernel
theorem dX6_house_119 : decode cX6_house 119 = .ok (.iconst 3, 1) := by decide +kernel
theorem dX6_house_120 : decode cX6_house 120 = .ok (.if_icmp .ne 7, 3) := by decide +kernel
theorem dX6_house_123 : decode cX6_house 123 = .ok (.iconst 1, 1) := by decide +kernel
theorem dX6_house_124 : decode cX6_house 124 = .ok (.goto 4, 3) := by decide +kernel
theorem dX6_house_127 : decode cX6_house 127 = .ok (.iconst 0, 1) := by decide +kernel
theorem dX6_house_128 : decode cX6_house 128 = .ok (.invokevirtual 90, 3) := by decide +kernel
theorem dX6_house_131 : decode cX6_house 131 = .ok (.pop, 1) := by decide +kernel
theorem dX6_house_132 : decode cX6_house 132 = .ok (.iinc 1 1, 3) := by decide +kernel
theorem dX6_house_135 : decode cX6_house 135 = .ok (.goto (-110), 3) := by decide +kernel
theorem dX6_house_138 : decode cX6_house 138 = .ok (.aload_n 0, 1) := by decide +kernel
theorem dX6_house_139 : decode cX6_house 139 = .ok (.invokevirtual 83, 3) := by decide +kernel
theorem dX6_house_142 : decode cX6_house 142 = .ok (.ifCond .ne 11, 3) := by decide +kernel
theorem dX6_house_145 : decode cX6_house 145 = .ok (.bipush (-10), 2) := by decide +kernel
theorem dX6_house_147 : decode cX6_house 147 = .ok (.aload_n 0, 1) := by decide +kernel
theorem dX6_house_148 : decode cX6_house 148 = .ok (.getfield 80, 3) := by decide +kernel
theorem dX6_house_151 : decode cX6_house 151 = .ok (.isub, 1) := by decide +kernel
theorem dX6_house_152 : decode cX6_house 152 = .ok (.ireturn, 1) := by decide +kernel
theorem dX6_house_153 : decode cX6_house 153 = .ok (.aload_n 0, 1) := by decide +kernel
theorem dX6_house_154 : decode cX6_house 154 = .ok (.invokevirtual 50, 3) := by decide +kernel
theorem dX6_house_157 : decode cX6_house 157 = .ok (.iload_n 1, 1) := by decide +kernel
theorem dX6_house_158 : decode cX6_house 158 = .ok (.ireturn, 1) := by decide +kernel
theorem dX6_settles_0 : decode cX6_settles 0 = .ok (.iconst 0, 1) := by decide +kernel
theorem dX6_settles_1 : decode cX6_settles 1 = .ok (.istore_n 1, 1) := by decide +kernel
theorem dX6_settles_2 : decode cX6_settles 2 = .ok (.iload_n 1, 1) := by decide +kernel
theorem dX6_settles_3 : decode cX6_settles 3 = .ok (.iconst 5, 1) := by decide +kernel
theorem dX6_settles_4 : decode cX6_settles 4 = .ok (.if_icmp .ge 30, 3) := by decide +kernel
theorem dX6_settles_7 : decode cX6_settles 7 = .ok (.aload_n 0, 1) := by decide +kernel
theorem dX6_settles_8 : decode cX6_settles 8 = .ok (.getfield 13, 3) := by decide +kernel
theorem dX6_settles_11 : decode cX6_settles 11 = .ok (.iload_n 1, 1) := by decide +kernel
theorem dX6_settles_12 : decode cX6_settles 12 = .ok (.aload_n 0, 1) := by decide +kernel
theorem dX6_settles_13 : decode cX6_settles 13 = .ok (.getfield 13, 3) := by decide +kernel
theorem dX6_settles_16 : decode cX6_settles 16 = .ok (.iconst 5, 1) := by decide +kernel
theorem dX6_settles_17 : decode cX6_settles 17 = .ok (.iload_n 1, 1) := by decide +kernel
theorem dX6_settles_18 : decode cX6_settles 18 = .ok (.iadd, 1) := by decide +kernel
theorem dX6_settles_19 : decode cX6_settles 19 = .ok (.iaload, 1) := by decide +kernel
theorem dX6_settles_20 : decode cX6_settles 20 = .ok (.iastore, 1) := by decide +kernel
theorem dX6_settles_21 : decode cX6_settles 21 = .ok (.aload_n 0, 1) := by decide +kernel
theorem dX6_settles_22 : decode cX6_settles 22 = .ok (.getfield 25, 3) := by decide +kernel
theorem dX6_settles_25 : decode cX6_settles 25 = .ok (.iload_n 1, 1) := by decide +kernel
theorem dX6_settles_26 : decode cX6_settles 26 = .ok (.iconst 0, 1) := by decide +kernel
theorem dX6_settles_27 : decode cX6_settles 27 = .ok (.iastore, 1) := by decide +kernel
theorem dX6_settles_28 : decode cX6_settles 28 = .ok (.iinc 1 1, 3) := by decide +kernel
theorem dX6_settles_31 : decode cX6_settles 31 = .ok (.goto (-29), 3) := by decide +kernel
theorem dX6_settles_34 : decode cX6_settles 34 = .ok (.iconst 0, 1) := by decide +kernel
theorem dX6_settles_35 : decode cX6_settles 35 = .ok (.istore_n 1, 1) := by decide +kernel
theorem dX6_settles_36 : decode cX6_settles 36 = .ok (.iload_n 1, 1) := by decide +kernel
theorem dX6_settles_37 : decode cX6_settles 37 = .ok (.bipush 7, 2) := by decide +kernel
theorem dX6_settles_39 : decode cX6_settles 39 = .ok (.if_icmp .ge 54, 3) := by decide +kernel
theorem dX6_settles_42 : decode cX6_settles 42 = .ok (.aload_n 0, 1) := by decide +kernel
theorem dX6_settles_43 : decode cX6_settles 43 = .ok (.getfield 16, 3) := by decide +kernel
theorem dX6_settles_46 : decode cX6_settles 46 = .ok (.iload_n 1, 1) := by decide +kernel
theorem dX6_settles_47 : decode cX6_settles 47 = .ok (.aload_n 0, 1) := by decide +kernel
theorem dX6_settles_48 : decode cX6_settles 48 = .ok (.getfield 16, 3) := by decide +kernel
theorem dX6_settles_51 : decode cX6_settles 51 = .ok (.bipush 7, 2) := by decide +kernel
theorem dX6_settles_53 : decode cX6_settles 53 = .ok (.iload_n 1, 1) := by decide +kernel
theorem dX6_settles_54 : decode cX6_settles 54 = .ok (.iadd, 1) := by decide +kernel
theorem dX6_settles_55 : decode cX6_settles 55 = .ok (.iaload, 1) := by decide +kernel
theorem dX6_settles_56 : decode cX6_settles 56 = .ok (.iastore, 1) := by decide +kernel
theorem dX6_settles_57 : decode cX6_settles 57 = .ok (.aload_n 0, 1) := by decide +kernel
theorem dX6_settles_58 : decode cX6_settles 58 = .ok (.getfield 19, 3) := by decide +kernel
theorem dX6_settles_61 : decode cX6_settles 61 = .ok (.iload_n 1, 1) := by decide +kernel
theorem dX6_settles_62 : decode cX6_settles 62 = .ok (.aload_n 0, 1) := by decide +kernel
theorem dX6_settles_63 : decode cX6_settles 63 = .ok (.getfield 19, 3) := by decide +kernel
theorem dX6_settles_66 : decode cX6_settles 66 = .ok (.bipush 7, 2) := by decide +kernel
theorem dX6_settles_68 : decode cX6_settles 68 = .ok (.iload_n 1, 1) := by decide +kernel
theorem dX6_settles_69 : decode cX6_settles 69 = .ok (.iadd, 1) := by decide +kernel
theorem dX6_settles_70 : decode cX6_settles 70 = .ok (.iaload, 1) := by decide +kernel
theorem dX6_settles_71 : decode cX6_settles 71 = .ok (.iastore, 1) := by decide +kernel
theorem dX6_settles_72 : decode cX6_settles 72 = .ok (.aload_n 0, 1) := by decide +kernel
theorem dX6_settles_73 : decode cX6_settles 73 = .ok (.getfield 22, 3) := by decide +kernel
theorem dX6_settles_76 : decode cX6_settles 76 = .ok (.iload_n 1, 1) := by decide +kernel
theorem dX6_settles_77 : decode cX6_settles 77 = .ok (.aload_n 0, 1) := by decide +kernel
theorem dX6_settles_78 : decode cX6_settles 78 = .ok (.getfield 22, 3) := by decide +kernel
theorem dX6_settles_81 : decode cX6_settles 81 = .ok (.bipush 7, 2) := by decide +kernel
theorem dX6_settles_83 : decode cX6_settles 83 = .ok (.iload_n 1, 1) := by decide +kernel
theorem dX6_settles_84 : decode cX6_settles 84 = .ok (.iadd, 1) := by decide +kernel
theorem dX6_settles_85 : decode cX6_settles 85 = .ok (.iaload, 1) := by decide +kernel
theorem dX6_settles_86 : decode cX6_settles 86 = .ok (.iastore, 1) := by decide +kernel
theorem dX6_settles_87 : decode cX6_settles 87 = .ok (.iinc 1 1, 3) := by decide +kernel
theorem dX6_settles_90 : decode cX6_settles 90 = .ok (.goto (-54), 3) := by decide +kernel
theorem dX6_settles_93 : decode cX6_settles 93 = .ok (.aload_n 0, 1) := by decide +kernel
theorem dX6_settles_94 : decode cX6_settles 94 = .ok (.getfield 25, 3) := by decide +kernel
theorem dX6_settles_97 : decode cX6_settles 97 = .ok (.iconst 1, 1) := by decide +kernel
theorem dX6_settles_98 : decode cX6_settles 98 = .ok (.aload_n 0, 1) := by decide +kernel
theorem dX6_settles_99 : decode cX6_settles 99 = .ok (.getfield 13, 3) := by decide +kernel
theorem dX6_settles_102 : decode cX6_settles 102 = .ok (.iconst 4, 1) := by decide +kernel
theorem dX6_settles_103 : decode cX6_settles 103 = .ok (.iaload, 1) := by decide +kernel
theorem dX6_settles_104 : decode cX6_settles 104 = .ok (.iastore, 1) := by decide +kernel
theorem dX6_settles_105 : decode cX6_settles 105 = .ok (.aload_n 0, 1) := by decide +kernel
theorem dX6_settles_106 : decode cX6_settles 106 = .ok (.getfield 25, 3) := by decide +kernel
theorem dX6_settles_109 : decode cX6_settles 109 = .ok (.iconst 2, 1) := by decide +kernel
theorem dX6_settles_110 : decode cX6_settles 110 = .ok (.aload_n 0, 1) := by decide +kernel
theorem dX6_settles_111 : decode cX6_settles 111 = .ok (.getfield 97, 3) := by decide +kernel
theorem dX6_settles_114 : decode cX6_settles 114 = .ok (.iastore, 1) := by decide +kernel
theorem dX6_settles_115 : decode cX6_settles 115 = .ok (.aload_n 0, 1) := by decide +kernel
theorem dX6_settles_116 : decode cX6_settles 116 = .ok (.iconst 0, 1) := by decide +kernel
theorem dX6_settles_117 : decode cX6_settles 117 = .ok (.putfield 61, 3) := by decide +kernel
theorem dX6_settles_120 : decode cX6_settles 120 = .ok (.aload_n 0, 1) := by decide +kernel
theorem dX6_settles_121 : decode cX6_settles 121 = .ok (.iconst 0, 1) := by decide +kernel
theorem dX6_settles_122 : decode cX6_settles 122 = .ok (.putfield 108, 3) := by decide +kernel
theorem dX6_settles_125 : decode cX6_settles 125 = .ok (.aload_n 0, 1) := by decide +kernel
theorem dX6_settles_126 : decode cX6_settles 126 = .ok (.iconst 0, 1) := by decide +kernel
theorem dX6_settles_127 : decode cX6_settles 127 = .ok (.putfield 111, 3) := by decide +kernel
theorem dX6_settles_130 : decode cX6_settles 130 = .ok (.aload_n 0, 1) := by decide +kernel
theorem dX6_settles_131 : decode cX6_settles 131 = .ok (.getfield 34, 3) := by decide +kernel
theorem dX6_settles_134 : decode cX6_settles 134 = .ok (.iconst 0, 1) := by decide +kernel
theorem dX6_settles_135 : decode cX6_settles 135 = .ok (.iconst 0, 1) := by decide +kernel
theorem dX6_settles_136 : decode cX6_settles 136 = .ok (.bastore, 1) := by decide +kernel
theorem dX6_settles_137 : decode cX6_settles 137 = .ok (.aload_n 0, 1) := by decide +kernel
theorem dX6_settles_138 : decode cX6_settles 138 = .ok (.getfield 34, 3) := by decide +kernel
theorem dX6_settles_141 : decode cX6_settles 141 = .ok (.iconst 1, 1) := by decide +kernel
theorem dX6_settles_142 : decode cX6_settles 142 = .ok (.iconst 0, 1) := by decide +kernel
theorem dX6_settles_143 : decode cX6_settles 143 = .ok (.bastore, 1) := by decide +kernel
theorem dX6_settles_144 : decode cX6_settles 144 = .ok (.return_, 1) := by decide +kernel
set_option maxRecDepth 20000 in
theorem ggX6_isThing_X6_in : GoodIn wsX6_isThing wsX6_in := goodIn_r _ [5] (by decide +kernel) (by decide +kernel)
set_option maxRecDepth 20000 in
theorem gX6_isThing_X6_in : GoodIn wsX6_isThing (va_wsS RX6 57 yX6_in wsX6_in) := goodIn_app (goodIn_of _ (by decide +kernel)) ggX6_isThing_X6_in
theorem dX6_isThing_0 : decode cX6_isThing 0 = .ok (.iload_n 1, 1) := by decide +kernel
theorem dX6_isThing_1 : decode cX6_isThing 1 = .ok (.iconst 0, 1) := by decide +kernel
theorem dX6_isThing_2 : decode cX6_isThing 2 = .ok (.aload_n 0, 1) := by decide +kernel
theorem dX6_isThing_3 : decode cX6_isThing 3 = .ok (.getfield 13, 3) := by decide +kernel
theorem dX6_isThing_6 : decode cX6_isThing 6 = .ok (.iconst 0, 1) := by decide +kernel
theorem dX6_isThing_7 : decode cX6_isThing 7 = .ok (.iaload, 1) := by decide +kernel
theorem dX6_isThing_8 : decode cX6_isThing 8 = .ok (.iconst 1, 1) := by decide +kernel
theorem dX6_isThing_9 : decode cX6_isThing 9 = .ok (.isub, 1) := by decide +kernel
theorem dX6_isThing_10 : decode cX6_isThing 10 = .ok (.invokestatic 57, 3) := by decide +kernel
theorem dX6_isThing_13 : decode cX6_isThing 13 = .ok (.ireturn, 1) := by decide +kernel
theorem dX6_everything_0 : decode cX6_everything 0 = .ok (.iconst 1, 1) := by decide +kernel
theorem dX6_everything_1 : decode cX6_everything 1 = .ok (.aload_n 0, 1) := by decide +kernel
theorem dX6_everything_2 : decode cX6_everything 2 = .ok (.getfield 13, 3) := by decide +kernel
theorem dX6_everything_5 : decode cX6_everything 5 = .ok (.iconst 0, 1) := by decide +kernel
theorem dX6_everything_6 : decode cX6_everything 6 = .ok (.iaload, 1) := by decide +kernel
theorem dX6_everything_7 : decode cX6_everything 7 = .ok (.ishl, 1) := by decide +kernel
theorem dX6_everything_8 : decode cX6_everything 8 = .ok (.iconst 1, 1) := by decide +kernel
theorem dX6_everything_9 : decode cX6_everything 9 = .ok (.isub, 1) := by decide +kernel
theorem dX6_everything_10 : decode cX6_everything 10 = .ok (.ireturn, 1) := by decide +kernel
theorem dX6_hasAll_0 : decode cX6_hasAll 0 = .ok (.aload_n 0, 1) := by decide +kernel
theorem dX6_hasAll_1 : decode cX6_hasAll 1 = .ok (.getfield 16, 3) := by decide +kernel
theorem dX6_hasAll_4 : decode cX6_hasAll 4 = .ok (.iload_n 1, 1) := by decide +kernel
theorem dX6_hasAll_5 : decode cX6_hasAll 5 = .ok (.iaload, 1) := by decide +kernel
theorem dX6_hasAll_6 : decode cX6_hasAll 6 = .ok (.iload_n 2, 1) := by decide +kernel
theorem dX6_hasAll_7 : decode cX6_hasAll 7 = .ok (.iand, 1) := by decide +kernel
theorem dX6_hasAll_8 : decode cX6_hasAll 8 = .ok (.iload_n 2, 1) := by decide +kernel
theorem dX6_hasAll_9 : decode cX6_hasAll 9 = .ok (.if_icmp .ne 7, 3) := by decide +kernel
theorem dX6_hasAll_12 : decode cX6_hasAll 12 = .ok (.iconst 1, 1) := by decide +kernel
theorem dX6_hasAll_13 : decode cX6_hasAll 13 = .ok (.goto 4, 3) := by decide +kernel
theorem dX6_hasAll_16 : decode cX6_hasAll 16 = .ok (.iconst 0, 1) := by decide +kernel
theorem dX6_hasAll_17 : decode cX6_hasAll 17 = .ok (.ireturn, 1) := by decide +kernel
set_option maxRecDepth 20000 in
theorem ggX6_covered_X6_hasAll : GoodIn wsX6_covered wsX6_hasAll := goodIn_r _ [6, 7, 8, 9, 10, 11, 12, 13, 14, 15, 16, 17, 18, 19, 20, 21, 22, 23, 24, 25, 26, 27, 28, 29, 30, 31, 32, 33] (by decide +kernel) (by decide +kernel)
set_option maxRecDepth 20000 in
theorem gX6_covered_X6_hasAll : GoodIn wsX6_covered (wsV RX6 114 RX6 yX6_hasAll wsX6_hasAll) := goodIn_app (goodIn_of _ (by decide +kernel)) ggX6_covered_X6_hasAll
theorem dX6_covered_0 : decode cX6_covered 0 = .ok (.iconst 0, 1) := by decide +kernel
theorem dX6_covered_1 : decode cX6_covered 1 = .ok (.istore_n 2, 1) := by decide +kernel
theorem dX6_covered_2 : decode cX6_covered 2 = .ok (.iconst 0, 1) := by decide +kernel
theorem dX6_covered_3 : decode cX6_covered 3 = .ok (.istore_n 3, 1) := by decide +kernel
theorem dX6_covered_4 : decode cX6_covered 4 = .ok (.iload_n 3, 1) := by decide +kernel
theorem dX6_covered_5 : decode cX6_covered 5 = .ok (.aload_n 0, 1) := by decide +kernel
theorem dX6_covered_6 : decode cX6_covered 6 = .ok (.getfield 13, 3) := by decide +kernel
theorem dX6_covered_9 : decode cX6_covered 9 = .ok (.iconst 0, 1) := by decide +kernel
theorem dX6_covered_10 : decode cX6_covered 10 = .ok (.iaload, 1) := by decide +kernel
theorem dX6_covered_11 : decode cX6_covered 11 = .ok (.if_icmp .ge 30, 3) := by decide +kernel
theorem dX6_covered_14 : decode cX6_covered 14 = .ok (.iload_n 2, 1) := by decide +kernel
theorem dX6_covered_15 : decode cX6_covered 15 = .ok (.aload_n 0, 1) := by decide +kernel
theorem dX6_covered_16 : decode cX6_covered 16 = .ok (.iload_n 3, 1) := by decide +kernel
theorem dX6_covered_17 : decode cX6_covered 17 = .ok (.aload_n 1, 1) := by decide +kernel
theorem dX6_covered_18 : decode cX6_covered 18 = .ok (.iconst 1, 1) := by decide +kernel
theorem dX6_covered_19 : decode cX6_covered 19 = .ok (.iaload, 1) := by decide +kernel
theorem dX6_covered_20 : decode cX6_covered 20 = .ok (.invokevirtual 114, 3) := by decide +kernel
theorem dX6_covered_23 : decode cX6_covered 23 = .ok (.ifCond .eq 9, 3) := by decide +kernel
theorem dX6_covered_26 : decode cX6_covered 26 = .ok (.iconst 1, 1) := by decide +kernel
theorem dX6_covered_27 : decode cX6_covered 27 = .ok (.iload_n 3, 1) := by decide +kernel
theorem dX6_covered_28 : decode cX6_covered 28 = .ok (.ishl, 1) := by decide +kernel
theorem dX6_covered_29 : decode cX6_covered 29 = .ok (.goto 4, 3) := by decide +kernel
theorem dX6_covered_32 : decode cX6_covered 32 = .ok (.iconst 0, 1) := by decide +kernel
theorem dX6_covered_33 : decode cX6_covered 33 = .ok (.ior, 1) := by decide +kernel
theorem dX6_covered_34 : decode cX6_covered 34 = .ok (.istore_n 2, 1) := by decide +kernel
theorem dX6_covered_35 : decode cX6_covered 35 = .ok (.iinc 3 1, 3) := by decide +kernel
theorem dX6_covered_38 : decode cX6_covered 38 = .ok (.goto (-34), 3) := by decide +kernel
theorem dX6_covered_41 : decode cX6_covered 41 = .ok (.iload_n 2, 1) := by decide +kernel
theorem dX6_covered_42 : decode cX6_covered 42 = .ok (.aload_n 1, 1) := by decide +kernel
theorem dX6_covered_43 : decode cX6_covered 43 = .ok (.iconst 4, 1) := by decide +kernel
theorem dX6_covered_44 : decode cX6_covered 44 = .ok (.iaload, 1) := by decide +kernel
theorem dX6_covered_45 : decode cX6_covered 45 = .ok (.iconst (-1), 1) := by decide +kernel
theorem dX6_covered_46 : decode cX6_covered 46 = .ok (.ixor, 1) := by decide +kernel
theorem dX6_covered_47 : decode cX6_covered 47 = .ok (.iand, 1) := by decide +kernel
theorem dX6_covered_48 : decode cX6_covered 48 = .ok (.ireturn, 1) := by decide +kernel
set_option maxRecDepth 20000 in
theorem ggX6_comers_X6_covered : GoodIn wsX6_comers wsX6_covered := goodIn_r _ [7, 1, 8, 9, 10, 6, 11, 12, 13, 14, 15, 16, 17, 18, 19, 20, 21, 22, 23, 24, 25, 26, 27, 28, 29, 30, 31, 32, 33, 34, 35, 36, 37, 38] (by decide +kernel) (by decide +kernel)
set_option maxRecDepth 20000 in
theorem gX6_comers_X6_covered : GoodIn wsX6_comers (wsV RX6 118 RX6 yX6_covered wsX6_covered) := goodIn_app (goodIn_of _ (by decide +kernel)) ggX6_comers_X6_covered
theorem dX6_comers_0 : decode cX6_comers 0 = .ok (.iconst 0, 1) := by decide +kernel
theorem dX6_comers_1 : decode cX6_comers 1 = .ok (.istore_n 2, 1) := by decide +kernel
theorem dX6_comers_2 : decode cX6_comers 2 = .ok (.iconst 0, 1) := by decide +kernel
theorem dX6_comers_3 : decode cX6_comers 3 = .ok (.istore_n 3, 1) := by decide +kernel
theorem dX6_comers_4 : decode cX6_comers 4 = .ok (.iload_n 3, 1) := by decide +kernel
theorem dX6_comers_5 : decode cX6_comers 5 = .ok (.aload_n 0, 1) := by decide +kernel
theorem dX6_comers_6 : decode cX6_comers 6 = .ok (.getfield 13, 3) := by decide +kernel
theorem dX6_comers_9 : decode cX6_comers 9 = .ok (.iconst 0, 1) := by decide +kernel
theorem dX6_comers_10 : decode cX6_comers 10 = .ok (.iaload, 1) := by decide +kernel
theorem dX6_comers_11 : decode cX6_comers 11 = .ok (.if_icmp .ge 28, 3) := by decide +kernel
theorem dX6_comers_14 : decode cX6_comers 14 = .ok (.iload_n 2, 1) := by decide +kernel
theorem dX6_comers_15 : decode cX6_comers 15 = .ok (.aload_n 0, 1) := by decide +kernel
theorem dX6_comers_16 : decode cX6_comers 16 = .ok (.getfield 22, 3) := by decide +kernel
theorem dX6_comers_19 : decode cX6_comers 19 = .ok (.iload_n 3, 1) := by decide +kernel
theorem dX6_comers_20 : decode cX6_comers 20 = .ok (.iaload, 1) := by decide +kernel
theorem dX6_comers_21 : decode cX6_comers 21 = .ok (.ifCond .le 9, 3) := by decide +kernel
theorem dX6_comers_24 : decode cX6_comers 24 = .ok (.iconst 1, 1) := by decide +kernel
theorem dX6_comers_25 : decode cX6_comers 25 = .ok (.iload_n 3, 1) := by decide +kernel
theorem dX6_comers_26 : decode cX6_comers 26 = .ok (.ishl, 1) := by decide +kernel
theorem dX6_comers_27 : decode cX6_comers 27 = .ok (.goto 4, 3) := by decide +kernel
theorem dX6_comers_30 : decode cX6_comers 30 = .ok (.iconst 0, 1) := by decide +kernel
theorem dX6_comers_31 : decode cX6_comers 31 = .ok (.ior, 1) := by decide +kernel
theorem dX6_comers_32 : decode cX6_comers 32 = .ok (.istore_n 2, 1) := by decide +kernel
theorem dX6_comers_33 : decode cX6_comers 33 = .ok (.iinc 3 1, 3) := by decide +kernel
theorem dX6_comers_36 : decode cX6_comers 36 = .ok (.goto (-32), 3) := by decide +kernel
theorem dX6_comers_39 : decode cX6_comers 39 = .ok (.iload_n 2, 1) := by decide +kernel
theorem dX6_comers_40 : decode cX6_comers 40 = .ok (.aload_n 1, 1) := by decide +kernel
theorem dX6_comers_41 : decode cX6_comers 41 = .ok (.iconst 4, 1) := by decide +kernel
theorem dX6_comers_42 : decode cX6_comers 42 = .ok (.iaload, 1) := by decide +kernel
theorem dX6_comers_43 : decode cX6_comers 43 = .ok (.iconst (-1), 1) := by decide +kernel
theorem dX6_comers_44 : decode cX6_comers 44 = .ok (.ixor, 1) := by decide +kernel
theorem dX6_comers_45 : decode cX6_comers 45 = .ok (.iand, 1) := by decide +kernel
theorem dX6_comers_46 : decode cX6_comers 46 = .ok (.aload_n 1, 1) := by decide +kernel
theorem dX6_comers_47 : decode cX6_comers 47 = .ok (.iconst 3, 1) := by decide +kernel
theorem dX6_comers_48 : decode cX6_comers 48 = .ok (.iaload, 1) := by decide +kernel
theorem dX6_comers_49 : decode cX6_comers 49 = .ok (.iconst (-1), 1) := by decide +kernel
theorem dX6_comers_50 : decode cX6_comers 50 = .ok (.ixor, 1) := by decide +kernel
theorem dX6_comers_51 : decode cX6_comers 51 = .ok (.iand, 1) := by decide +kernel
theorem dX6_comers_52 : decode cX6_comers 52 = .ok (.aload_n 1, 1) := by decide +kernel
theorem dX6_comers_53 : decode cX6_comers 53 = .ok (.iconst 2, 1) := by decide +kernel
theorem dX6_comers_54 : decode cX6_comers 54 = .ok (.iaload, 1) := by decide +kernel
theorem dX6_comers_55 : decode cX6_comers 55 = .ok (.aload_n 0, 1) := by decide +kernel
theorem dX6_comers_56 : decode cX6_comers 56 = .ok (.aload_n 1, 1) := by decide +kernel
theorem dX6_comers_57 : decode cX6_comers 57 = .ok (.invokevirtual 118, 3) := by decide +kernel
theorem dX6_comers_60 : decode cX6_comers 60 = .ok (.iand, 1) := by decide +kernel
theorem dX6_comers_61 : decode cX6_comers 61 = .ok (.iconst (-1), 1) := by decide +kernel
theorem dX6_comers_62 : decode cX6_comers 62 = .ok (.ixor, 1) := by decide +kernel
theorem dX6_comers_63 : decode cX6_comers 63 = .ok (.iand, 1) := by decide +kernel
theorem dX6_comers_64 : decode cX6_comers 64 = .ok (.ireturn, 1) := by decide +kernel
theorem dX6_eagerOf_0 : decode cX6_eagerOf 0 = .ok (.iconst 0, 1) := by decide +kernel
theorem dX6_eagerOf_1 : decode cX6_eagerOf 1 = .ok (.istore_n 2, 1) := by decide +kernel
theorem dX6_eagerOf_2 : decode cX6_eagerOf 2 = .ok (.iconst 0, 1) := by decide +kernel
theorem dX6_eagerOf_3 : decode cX6_eagerOf 3 = .ok (.istore_n 3, 1) := by decide +kernel
theorem dX6_eagerOf_4 : decode cX6_eagerOf 4 = .ok (.iload_n 3, 1) := by decide +kernel
theorem dX6_eagerOf_5 : decode cX6_eagerOf 5 = .ok (.aload_n 0, 1) := by decide +kernel
theorem dX6_eagerOf_6 : decode cX6_eagerOf 6 = .ok (.getfield 13, 3) := by decide +kernel
theorem dX6_eagerOf_9 : decode cX6_eagerOf 9 = .ok (.iconst 0, 1) := by decide +kernel
theorem dX6_eagerOf_10 : decode cX6_eagerOf 10 = .ok (.iaload, 1) := by decide +kernel
theorem dX6_eagerOf_11 : decode cX6_eagerOf 11 = .ok (.if_icmp .ge 31, 3) := by decide +kernel
theorem dX6_eagerOf_14 : decode cX6_eagerOf 14 = .ok (.iload_n 2, 1) := by decide +kernel
theorem dX6_eagerOf_15 : decode cX6_eagerOf 15 = .ok (.iload_n 1, 1) := by decide +kernel
theorem dX6_eagerOf_16 : decode cX6_eagerOf 16 = .ok (.iload_n 3, 1) := by decide +kernel
theorem dX6_eagerOf_17 : decode cX6_eagerOf 17 = .ok (.ishr, 1) := by decide +kernel
theorem dX6_eagerOf_18 : decode cX6_eagerOf 18 = .ok (.iconst 1, 1) := by decide +kernel
theorem dX6_eagerOf_19 : decode cX6_eagerOf 19 = .ok (.iand, 1) := by decide +kernel
theorem dX6_eagerOf_20 : decode cX6_eagerOf 20 = .ok (.iconst 1, 1) := by decide +kernel
theorem dX6_eagerOf_21 : decode cX6_eagerOf 21 = .ok (.if_icmp .ne 12, 3) := by decide +kernel
end
section
theorem dX6_eagerOf_24 : decode cX6_eagerOf 24 = .ok (.aload_n 0, 1) := by decide +kernel
theorem dX6_eagerOf_25 : decode cX6_eagerOf 25 = .ok (.getfield 22, 3) := by decide +kernel
theorem dX6_eagerOf_28 : decode cX6_eagerOf 28 = .ok (.iload_n 3, 1) := by decide +kernel
theorem dX6_eagerOf_29 : decode cX6_eagerOf 29 = .ok (.iaload, 1) := by decide +kernel
theorem dX6_eagerOf_30 : decode cX6_eagerOf 30 = .ok (.goto 4, 3) := by decide +kernel
theorem dX6_eagerOf_33 : decode cX6_eagerOf 33 = .ok (.iconst 0, 1) := by decide +kernel
theorem dX6_eagerOf_34 : decode cX6_eagerOf 34 = .ok (.iadd, 1) := by decide +kernel
theorem dX6_eagerOf_35 : decode cX6_eagerOf 35 = .ok (.istore_n 2, 1) := by decide +kernel
theorem dX6_eagerOf_36 : decode cX6_eagerOf 36 = .ok (.iinc 3 1, 3) := by decide +kernel
theorem dX6_eagerOf_39 : decode cX6_eagerOf 39 = .ok (.goto (-35), 3) := by decide +kernel
theorem dX6_eagerOf_42 : decode cX6_eagerOf 42 = .ok (.iload_n 2, 1) := by decide +kernel
theorem dX6_eagerOf_43 : decode cX6_eagerOf 43 = .ok (.ireturn, 1) := by decide +kernel
theorem dX6_dearOf_0 : decode cX6_dearOf 0 = .ok (.iconst 0, 1) := by decide +kernel
theorem dX6_dearOf_1 : decode cX6_dearOf 1 = .ok (.istore_n 3, 1) := by decide +kernel
theorem dX6_dearOf_2 : decode cX6_dearOf 2 = .ok (.iconst 0, 1) := by decide +kernel
theorem dX6_dearOf_3 : decode cX6_dearOf 3 = .ok (.istore 4, 2) := by decide +kernel
theorem dX6_dearOf_5 : decode cX6_dearOf 5 = .ok (.iload 4, 2) := by decide +kernel
theorem dX6_dearOf_7 : decode cX6_dearOf 7 = .ok (.aload_n 0, 1) := by decide +kernel
theorem dX6_dearOf_8 : decode cX6_dearOf 8 = .ok (.getfield 13, 3) := by decide +kernel
theorem dX6_dearOf_11 : decode cX6_dearOf 11 = .ok (.iconst 0, 1) := by decide +kernel
theorem dX6_dearOf_12 : decode cX6_dearOf 12 = .ok (.iaload, 1) := by decide +kernel
theorem dX6_dearOf_13 : decode cX6_dearOf 13 = .ok (.if_icmp .ge 54, 3) := by decide +kernel
theorem dX6_dearOf_16 : decode cX6_dearOf 16 = .ok (.iload_n 3, 1) := by decide +kernel
theorem dX6_dearOf_17 : decode cX6_dearOf 17 = .ok (.iload_n 1, 1) := by decide +kernel
theorem dX6_dearOf_18 : decode cX6_dearOf 18 = .ok (.iload 4, 2) := by decide +kernel
theorem dX6_dearOf_20 : decode cX6_dearOf 20 = .ok (.ishr, 1) := by decide +kernel
theorem dX6_dearOf_21 : decode cX6_dearOf 21 = .ok (.iconst 1, 1) := by decide +kernel
theorem dX6_dearOf_22 : decode cX6_dearOf 22 = .ok (.iand, 1) := by decide +kernel
theorem dX6_dearOf_23 : decode cX6_dearOf 23 = .ok (.ifCond .ne 7, 3) := by decide +kernel
theorem dX6_dearOf_26 : decode cX6_dearOf 26 = .ok (.iconst 0, 1) := by decide +kernel
theorem dX6_dearOf_27 : decode cX6_dearOf 27 = .ok (.goto 32, 3) := by decide +kernel
theorem dX6_dearOf_30 : decode cX6_dearOf 30 = .ok (.iload_n 2, 1) := by decide +kernel
theorem dX6_dearOf_31 : decode cX6_dearOf 31 = .ok (.ifCond .eq 21, 3) := by decide +kernel
theorem dX6_dearOf_34 : decode cX6_dearOf 34 = .ok (.aload_n 0, 1) := by decide +kernel
theorem dX6_dearOf_35 : decode cX6_dearOf 35 = .ok (.getfield 19, 3) := by decide +kernel
theorem dX6_dearOf_38 : decode cX6_dearOf 38 = .ok (.iload 4, 2) := by decide +kernel
theorem dX6_dearOf_40 : decode cX6_dearOf 40 = .ok (.iaload, 1) := by decide +kernel
theorem dX6_dearOf_41 : decode cX6_dearOf 41 = .ok (.aload_n 0, 1) := by decide +kernel
theorem dX6_dearOf_42 : decode cX6_dearOf 42 = .ok (.getfield 22, 3) := by decide +kernel
theorem dX6_dearOf_45 : decode cX6_dearOf 45 = .ok (.iload 4, 2) := by decide +kernel
theorem dX6_dearOf_47 : decode cX6_dearOf 47 = .ok (.iaload, 1) := by decide +kernel
theorem dX6_dearOf_48 : decode cX6_dearOf 48 = .ok (.imul, 1) := by decide +kernel
theorem dX6_dearOf_49 : decode cX6_dearOf 49 = .ok (.goto 10, 3) := by decide +kernel
theorem dX6_dearOf_52 : decode cX6_dearOf 52 = .ok (.aload_n 0, 1) := by decide +kernel
theorem dX6_dearOf_53 : decode cX6_dearOf 53 = .ok (.getfield 19, 3) := by decide +kernel
theorem dX6_dearOf_56 : decode cX6_dearOf 56 = .ok (.iload 4, 2) := by decide +kernel
theorem dX6_dearOf_58 : decode cX6_dearOf 58 = .ok (.iaload, 1) := by decide +kernel
theorem dX6_dearOf_59 : decode cX6_dearOf 59 = .ok (.iadd, 1) := by decide +kernel
theorem dX6_dearOf_60 : decode cX6_dearOf 60 = .ok (.istore_n 3, 1) := by decide +kernel
theorem dX6_dearOf_61 : decode cX6_dearOf 61 = .ok (.iinc 4 1, 3) := by decide +kernel
theorem dX6_dearOf_64 : decode cX6_dearOf 64 = .ok (.goto (-59), 3) := by decide +kernel
theorem dX6_dearOf_67 : decode cX6_dearOf 67 = .ok (.iload_n 3, 1) := by decide +kernel
theorem dX6_dearOf_68 : decode cX6_dearOf 68 = .ok (.ireturn, 1) := by decide +kernel
set_option maxRecDepth 20000 in
theorem ggX6_harms_X6_comers : GoodIn wsX6_harms wsX6_comers := goodIn_r _ [7, 8, 9, 10, 11, 12, 6, 13, 14, 15, 16, 17, 18, 28, 29, 30, 31, 32, 33, 34, 35, 36, 37, 38, 39, 40, 41, 42, 43, 44, 45, 46, 47, 48, 49, 50, 51, 52, 53] (by decide +kernel) (by decide +kernel)
set_option maxRecDepth 20000 in
theorem gX6_harms_X6_comers : GoodIn wsX6_harms (wsV RX6 122 RX6 yX6_comers wsX6_comers) := goodIn_app (goodIn_of _ (by decide +kernel)) ggX6_harms_X6_comers
set_option maxRecDepth 20000 in
theorem ggX6_harms_X6_covered : GoodIn wsX6_harms wsX6_covered := goodIn_r _ [13, 8, 14, 15, 16, 6, 17, 18, 28, 29, 30, 31, 32, 33, 34, 35, 36, 37, 38, 39, 40, 41, 42, 43, 44, 45, 46, 47, 48, 49, 50, 51, 52, 53] (by decide +kernel) (by decide +kernel)
set_option maxRecDepth 20000 in
theorem gX6_harms_X6_covered : GoodIn wsX6_harms (wsV RX6 118 RX6 yX6_covered wsX6_covered) := goodIn_app (goodIn_of _ (by decide +kernel)) ggX6_harms_X6_covered
set_option maxRecDepth 20000 in
theorem ggX6_harms_X6_dearOf : GoodIn wsX6_harms wsX6_dearOf := goodIn_r _ [22, 8, 23, 9, 28, 29, 30, 31, 32, 33, 34, 35, 36, 37, 38, 39, 40, 41, 42, 43, 44, 45, 46, 47, 48, 49, 50, 51, 52, 53] (by decide +kernel) (by decide +kernel)
set_option maxRecDepth 20000 in
theorem gX6_harms_X6_dearOf : GoodIn wsX6_harms (wsV RX6 125 RX6 yX6_dearOf wsX6_dearOf) := goodIn_app (goodIn_of _ (by decide +kernel)) ggX6_harms_X6_dearOf
set_option maxRecDepth 20000 in
theorem ggX6_harms_X6_eagerOf : GoodIn wsX6_harms wsX6_eagerOf := goodIn_r _ [27, 8, 9, 28, 29, 30, 31, 32, 33, 34, 35, 36, 37, 38, 39, 40, 41, 42, 43, 44, 45, 46, 47, 48, 49, 50, 51, 52, 53] (by decide +kernel) (by decide +kernel)
set_option maxRecDepth 20000 in
theorem gX6_harms_X6_eagerOf : GoodIn wsX6_harms (wsV RX6 132 RX6 yX6_eagerOf wsX6_eagerOf) := goodIn_app (goodIn_of _ (by decide +kernel)) ggX6_harms_X6_eagerOf
theorem dX6_harms_0 : decode cX6_harms 0 = .ok (.aload_n 0, 1) := by decide +kernel
theorem dX6_harms_1 : decode cX6_harms 1 = .ok (.aload_n 0, 1) := by decide +kernel
theorem dX6_harms_2 : decode cX6_harms 2 = .ok (.aload_n 0, 1) := by decide +kernel
theorem dX6_harms_3 : decode cX6_harms 3 = .ok (.aload_n 1, 1) := by decide +kernel
theorem dX6_harms_4 : decode cX6_harms 4 = .ok (.invokevirtual 122, 3) := by decide +kernel
theorem dX6_harms_7 : decode cX6_harms 7 = .ok (.aload_n 0, 1) := by decide +kernel
theorem dX6_harms_8 : decode cX6_harms 8 = .ok (.aload_n 1, 1) := by decide +kernel
theorem dX6_harms_9 : decode cX6_harms 9 = .ok (.invokevirtual 118, 3) := by decide +kernel
theorem dX6_harms_12 : decode cX6_harms 12 = .ok (.iand, 1) := by decide +kernel
theorem dX6_harms_13 : decode cX6_harms 13 = .ok (.iconst 1, 1) := by decide +kernel
theorem dX6_harms_14 : decode cX6_harms 14 = .ok (.invokevirtual 125, 3) := by decide +kernel
theorem dX6_harms_17 : decode cX6_harms 17 = .ok (.putfield 129, 3) := by decide +kernel
theorem dX6_harms_20 : decode cX6_harms 20 = .ok (.aload_n 0, 1) := by decide +kernel
theorem dX6_harms_21 : decode cX6_harms 21 = .ok (.aload_n 0, 1) := by decide +kernel
theorem dX6_harms_22 : decode cX6_harms 22 = .ok (.aload_n 0, 1) := by decide +kernel
theorem dX6_harms_23 : decode cX6_harms 23 = .ok (.aload_n 1, 1) := by decide +kernel
theorem dX6_harms_24 : decode cX6_harms 24 = .ok (.invokevirtual 122, 3) := by decide +kernel
theorem dX6_harms_27 : decode cX6_harms 27 = .ok (.invokevirtual 132, 3) := by decide +kernel
theorem dX6_harms_30 : decode cX6_harms 30 = .ok (.putfield 135, 3) := by decide +kernel
theorem dX6_harms_33 : decode cX6_harms 33 = .ok (.aload_n 0, 1) := by decide +kernel
theorem dX6_harms_34 : decode cX6_harms 34 = .ok (.aload_n 0, 1) := by decide +kernel
theorem dX6_harms_35 : decode cX6_harms 35 = .ok (.getfield 135, 3) := by decide +kernel
theorem dX6_harms_38 : decode cX6_harms 38 = .ok (.ifCond .ne 7, 3) := by decide +kernel
theorem dX6_harms_41 : decode cX6_harms 41 = .ok (.iconst 1, 1) := by decide +kernel
theorem dX6_harms_42 : decode cX6_harms 42 = .ok (.goto 7, 3) := by decide +kernel
theorem dX6_harms_45 : decode cX6_harms 45 = .ok (.aload_n 0, 1) := by decide +kernel
theorem dX6_harms_46 : decode cX6_harms 46 = .ok (.getfield 135, 3) := by decide +kernel
theorem dX6_harms_49 : decode cX6_harms 49 = .ok (.putfield 135, 3) := by decide +kernel
theorem dX6_harms_52 : decode cX6_harms 52 = .ok (.return_, 1) := by decide +kernel
set_option maxRecDepth 20000 in
theorem ggX6_thing_X6_isThing : GoodIn wsX6_thing wsX6_isThing := goodIn_r _ [10, 11, 12, 13, 9, 14, 27, 28, 29, 30, 31, 32, 33, 34, 35, 36, 37, 38, 39, 40, 41, 42, 43, 44, 45, 46, 47, 48, 49, 50, 51, 52] (by decide +kernel) (by decide +kernel)
set_option maxRecDepth 20000 in
theorem gX6_thing_X6_isThing : GoodIn wsX6_thing (wsV RX6 138 RX6 yX6_isThing wsX6_isThing) := goodIn_app (goodIn_of _ (by decide +kernel)) ggX6_thing_X6_isThing
set_option maxRecDepth 20000 in
theorem ggX6_thing_X6_in : GoodIn wsX6_thing wsX6_in := goodIn_r _ [14] (by decide +kernel) (by decide +kernel)
set_option maxRecDepth 20000 in
theorem gX6_thing_X6_in : GoodIn wsX6_thing (va_wsS RX6 57 yX6_in wsX6_in) := goodIn_app (goodIn_of _ (by decide +kernel)) ggX6_thing_X6_in
set_option maxRecDepth 20000 in
theorem ggX6_thing_X6_covered : GoodIn wsX6_thing wsX6_covered := goodIn_r _ [18, 11, 19, 20, 21, 9, 22, 2, 27, 28, 29, 30, 31, 32, 33, 34, 35, 36, 37, 38, 39, 40, 41, 42, 43, 44, 45, 46, 47, 48, 49, 50, 51, 52] (by decide +kernel) (by decide +kernel)
set_option maxRecDepth 20000 in
theorem gX6_thing_X6_covered : GoodIn wsX6_thing (wsV RX6 118 RX6 yX6_covered wsX6_covered) := goodIn_app (goodIn_of _ (by decide +kernel)) ggX6_thing_X6_covered
set_option maxRecDepth 20000 in
theorem ggX6_thing_X6_comers : GoodIn wsX6_thing wsX6_comers := goodIn_r _ [26, 11, 4, 15, 16, 17, 9, 18, 19, 20, 21, 22, 2, 27, 28, 29, 30, 31, 32, 33, 34, 35, 36, 37, 38, 39, 40, 41, 42, 43, 44, 45, 46, 47, 48, 49, 50, 51, 52] (by decide +kernel) (by decide +kernel)
set_option maxRecDepth 20000 in
theorem gX6_thing_X6_comers : GoodIn wsX6_thing (wsV RX6 122 RX6 yX6_comers wsX6_comers) := goodIn_app (goodIn_of _ (by decide +kernel)) ggX6_thing_X6_comers
theorem dX6_thing_0 : decode cX6_thing 0 = .ok (.aload_n 0, 1) := by decide +kernel
theorem dX6_thing_1 : decode cX6_thing 1 = .ok (.iconst 0, 1) := by decide +kernel
theorem dX6_thing_2 : decode cX6_thing 2 = .ok (.putfield 53, 3) := by decide +kernel
theorem dX6_thing_5 : decode cX6_thing 5 = .ok (.aload_n 0, 1) := by decide +kernel
theorem dX6_thing_6 : decode cX6_thing 6 = .ok (.iload_n 1, 1) := by decide +kernel
theorem dX6_thing_7 : decode cX6_thing 7 = .ok (.invokevirtual 138, 3) := by decide +kernel
theorem dX6_thing_10 : decode cX6_thing 10 = .ok (.ifCond .eq 13, 3) := by decide +kernel
theorem dX6_thing_13 : decode cX6_thing 13 = .ok (.iload_n 2, 1) := by decide +kernel
theorem dX6_thing_14 : decode cX6_thing 14 = .ok (.iconst 0, 1) := by decide +kernel
theorem dX6_thing_15 : decode cX6_thing 15 = .ok (.bipush 7, 2) := by decide +kernel
theorem dX6_thing_17 : decode cX6_thing 17 = .ok (.invokestatic 57, 3) := by decide +kernel
theorem dX6_thing_20 : decode cX6_thing 20 = .ok (.ifCond .ne 5, 3) := by decide +kernel
theorem dX6_thing_23 : decode cX6_thing 23 = .ok (.iconst (-1), 1) := by decide +kernel
theorem dX6_thing_24 : decode cX6_thing 24 = .ok (.ireturn, 1) := by decide +kernel
theorem dX6_thing_25 : decode cX6_thing 25 = .ok (.iload_n 2, 1) := by decide +kernel
theorem dX6_thing_26 : decode cX6_thing 26 = .ok (.iconst 3, 1) := by decide +kernel
theorem dX6_thing_27 : decode cX6_thing 27 = .ok (.if_icmp .ge 37, 3) := by decide +kernel
theorem dX6_thing_30 : decode cX6_thing 30 = .ok (.iload_n 2, 1) := by decide +kernel
theorem dX6_thing_31 : decode cX6_thing 31 = .ok (.ifCond .ne 12, 3) := by decide +kernel
theorem dX6_thing_34 : decode cX6_thing 34 = .ok (.aload_n 0, 1) := by decide +kernel
theorem dX6_thing_35 : decode cX6_thing 35 = .ok (.getfield 16, 3) := by decide +kernel
theorem dX6_thing_38 : decode cX6_thing 38 = .ok (.iload_n 1, 1) := by decide +kernel
theorem dX6_thing_39 : decode cX6_thing 39 = .ok (.iaload, 1) := by decide +kernel
theorem dX6_thing_40 : decode cX6_thing 40 = .ok (.goto 23, 3) := by decide +kernel
theorem dX6_thing_43 : decode cX6_thing 43 = .ok (.iload_n 2, 1) := by decide +kernel
theorem dX6_thing_44 : decode cX6_thing 44 = .ok (.iconst 1, 1) := by decide +kernel
theorem dX6_thing_45 : decode cX6_thing 45 = .ok (.if_icmp .ne 12, 3) := by decide +kernel
theorem dX6_thing_48 : decode cX6_thing 48 = .ok (.aload_n 0, 1) := by decide +kernel
theorem dX6_thing_49 : decode cX6_thing 49 = .ok (.getfield 19, 3) := by decide +kernel
theorem dX6_thing_52 : decode cX6_thing 52 = .ok (.iload_n 1, 1) := by decide +kernel
theorem dX6_thing_53 : decode cX6_thing 53 = .ok (.iaload, 1) := by decide +kernel
theorem dX6_thing_54 : decode cX6_thing 54 = .ok (.goto 9, 3) := by decide +kernel
theorem dX6_thing_57 : decode cX6_thing 57 = .ok (.aload_n 0, 1) := by decide +kernel
theorem dX6_thing_58 : decode cX6_thing 58 = .ok (.getfield 22, 3) := by decide +kernel
theorem dX6_thing_61 : decode cX6_thing 61 = .ok (.iload_n 1, 1) := by decide +kernel
theorem dX6_thing_62 : decode cX6_thing 62 = .ok (.iaload, 1) := by decide +kernel
theorem dX6_thing_63 : decode cX6_thing 63 = .ok (.ireturn, 1) := by decide +kernel
theorem dX6_thing_64 : decode cX6_thing 64 = .ok (.iload_n 2, 1) := by decide +kernel
theorem dX6_thing_65 : decode cX6_thing 65 = .ok (.bipush 6, 2) := by decide +kernel
theorem dX6_thing_67 : decode cX6_thing 67 = .ok (.if_icmp .ne 14, 3) := by decide +kernel
theorem dX6_thing_70 : decode cX6_thing 70 = .ok (.aload_n 0, 1) := by decide +kernel
theorem dX6_thing_71 : decode cX6_thing 71 = .ok (.aload_n 0, 1) := by decide +kernel
theorem dX6_thing_72 : decode cX6_thing 72 = .ok (.getfield 25, 3) := by decide +kernel
theorem dX6_thing_75 : decode cX6_thing 75 = .ok (.invokevirtual 118, 3) := by decide +kernel
theorem dX6_thing_78 : decode cX6_thing 78 = .ok (.goto 28, 3) := by decide +kernel
theorem dX6_thing_81 : decode cX6_thing 81 = .ok (.iload_n 2, 1) := by decide +kernel
theorem dX6_thing_82 : decode cX6_thing 82 = .ok (.bipush 7, 2) := by decide +kernel
theorem dX6_thing_84 : decode cX6_thing 84 = .ok (.if_icmp .ne 14, 3) := by decide +kernel
theorem dX6_thing_87 : decode cX6_thing 87 = .ok (.aload_n 0, 1) := by decide +kernel
theorem dX6_thing_88 : decode cX6_thing 88 = .ok (.aload_n 0, 1) := by decide +kernel
theorem dX6_thing_89 : decode cX6_thing 89 = .ok (.getfield 25, 3) := by decide +kernel
theorem dX6_thing_92 : decode cX6_thing 92 = .ok (.invokevirtual 122, 3) := by decide +kernel
theorem dX6_thing_95 : decode cX6_thing 95 = .ok (.goto 11, 3) := by decide +kernel
theorem dX6_thing_98 : decode cX6_thing 98 = .ok (.aload_n 0, 1) := by decide +kernel
theorem dX6_thing_99 : decode cX6_thing 99 = .ok (.getfield 25, 3) := by decide +kernel
theorem dX6_thing_102 : decode cX6_thing 102 = .ok (.iload_n 2, 1) := by decide +kernel
theorem dX6_thing_103 : decode cX6_thing 103 = .ok (.iconst 1, 1) := by decide +kernel
theorem dX6_thing_104 : decode cX6_thing 104 = .ok (.isub, 1) := by decide +kernel
theorem dX6_thing_105 : decode cX6_thing 105 = .ok (.iaload, 1) := by decide +kernel
theorem dX6_thing_106 : decode cX6_thing 106 = .ok (.istore_n 3, 1) := by decide +kernel
theorem dX6_thing_107 : decode cX6_thing 107 = .ok (.iload_n 3, 1) := by decide +kernel
theorem dX6_thing_108 : decode cX6_thing 108 = .ok (.iload_n 1, 1) := by decide +kernel
theorem dX6_thing_109 : decode cX6_thing 109 = .ok (.ishr, 1) := by decide +kernel
theorem dX6_thing_110 : decode cX6_thing 110 = .ok (.iconst 1, 1) := by decide +kernel
theorem dX6_thing_111 : decode cX6_thing 111 = .ok (.iand, 1) := by decide +kernel
theorem dX6_thing_112 : decode cX6_thing 112 = .ok (.ireturn, 1) := by decide +kernel
set_option maxRecDepth 20000 in
theorem ggX6_now_X6_in : GoodIn wsX6_now wsX6_in := goodIn_r _ [7] (by decide +kernel) (by decide +kernel)
set_option maxRecDepth 20000 in
theorem gX6_now_X6_in : GoodIn wsX6_now (va_wsS RX6 57 yX6_in wsX6_in) := goodIn_app (goodIn_of _ (by decide +kernel)) ggX6_now_X6_in
set_option maxRecDepth 20000 in
theorem ggX6_now_X6_covered : GoodIn wsX6_now wsX6_covered := goodIn_r _ [11, 12, 13, 14, 15, 6, 16, 17, 28, 29, 30, 31, 32, 33, 34, 35, 36, 37, 38, 39, 40, 41, 42, 43, 44, 45, 46, 47, 48, 49, 50, 51, 52, 53] (by decide +kernel) (by decide +kernel)
set_option maxRecDepth 20000 in
theorem gX6_now_X6_covered : GoodIn wsX6_now (wsV RX6 118 RX6 yX6_covered wsX6_covered) := goodIn_app (goodIn_of _ (by decide +kernel)) ggX6_now_X6_covered
set_option maxRecDepth 20000 in
theorem ggX6_now_X6_comers : GoodIn wsX6_now wsX6_comers := goodIn_r _ [21, 12, 22, 8, 9, 10, 6, 11, 13, 14, 15, 16, 17, 28, 29, 30, 31, 32, 33, 34, 35, 36, 37, 38, 39, 40, 41, 42, 43, 44, 45, 46, 47, 48, 49, 50, 51, 52, 53] (by decide +kernel) (by decide +kernel)
set_option maxRecDepth 20000 in
theorem gX6_now_X6_comers : GoodIn wsX6_now (wsV RX6 122 RX6 yX6_comers wsX6_comers) := goodIn_app (goodIn_of _ (by decide +kernel)) ggX6_now_X6_comers
set_option maxRecDepth 20000 in
theorem ggX6_now_X6_dearOf : GoodIn wsX6_now wsX6_dearOf := goodIn_r _ [26, 12, 27, 22, 28, 29, 30, 31, 32, 33, 34, 35, 36, 37, 38, 39, 40, 41, 42, 43, 44, 45, 46, 47, 48, 49, 50, 51, 52, 53] (by decide +kernel) (by decide +kernel)
set_option maxRecDepth 20000 in
theorem gX6_now_X6_dearOf : GoodIn wsX6_now (wsV RX6 125 RX6 yX6_dearOf wsX6_dearOf) := goodIn_app (goodIn_of _ (by decide +kernel)) ggX6_now_X6_dearOf
theorem dX6_now_0 : decode cX6_now 0 = .ok (.aload_n 0, 1) := by decide +kernel
theorem dX6_now_1 : decode cX6_now 1 = .ok (.iconst 0, 1) := by decide +kernel
theorem dX6_now_2 : decode cX6_now 2 = .ok (.putfield 53, 3) := by decide +kernel
theorem dX6_now_5 : decode cX6_now 5 = .ok (.iload_n 1, 1) := by decide +kernel
theorem dX6_now_6 : decode cX6_now 6 = .ok (.iconst 0, 1) := by decide +kernel
theorem dX6_now_7 : decode cX6_now 7 = .ok (.bipush 6, 2) := by decide +kernel
theorem dX6_now_9 : decode cX6_now 9 = .ok (.invokestatic 57, 3) := by decide +kernel
theorem dX6_now_12 : decode cX6_now 12 = .ok (.ifCond .ne 5, 3) := by decide +kernel
theorem dX6_now_15 : decode cX6_now 15 = .ok (.iconst (-1), 1) := by decide +kernel
theorem dX6_now_16 : decode cX6_now 16 = .ok (.ireturn, 1) := by decide +kernel
theorem dX6_now_17 : decode cX6_now 17 = .ok (.iload_n 1, 1) := by decide +kernel
theorem dX6_now_18 : decode cX6_now 18 = .ok (.iconst 2, 1) := by decide +kernel
theorem dX6_now_19 : decode cX6_now 19 = .ok (.if_icmp .ge 10, 3) := by decide +kernel
theorem dX6_now_22 : decode cX6_now 22 = .ok (.aload_n 0, 1) := by decide +kernel
theorem dX6_now_23 : decode cX6_now 23 = .ok (.getfield 25, 3) := by decide +kernel
theorem dX6_now_26 : decode cX6_now 26 = .ok (.iload_n 1, 1) := by decide +kernel
theorem dX6_now_27 : decode cX6_now 27 = .ok (.iaload, 1) := by decide +kernel
theorem dX6_now_28 : decode cX6_now 28 = .ok (.ireturn, 1) := by decide +kernel
theorem dX6_now_29 : decode cX6_now 29 = .ok (.iload_n 1, 1) := by decide +kernel
theorem dX6_now_30 : decode cX6_now 30 = .ok (.iconst 2, 1) := by decide +kernel
theorem dX6_now_31 : decode cX6_now 31 = .ok (.if_icmp .ne 14, 3) := by decide +kernel
theorem dX6_now_34 : decode cX6_now 34 = .ok (.aload_n 0, 1) := by decide +kernel
theorem dX6_now_35 : decode cX6_now 35 = .ok (.aload_n 0, 1) := by decide +kernel
theorem dX6_now_36 : decode cX6_now 36 = .ok (.getfield 25, 3) := by decide +kernel
theorem dX6_now_39 : decode cX6_now 39 = .ok (.invokevirtual 118, 3) := by decide +kernel
theorem dX6_now_42 : decode cX6_now 42 = .ok (.goto 56, 3) := by decide +kernel
theorem dX6_now_45 : decode cX6_now 45 = .ok (.iload_n 1, 1) := by decide +kernel
theorem dX6_now_46 : decode cX6_now 46 = .ok (.iconst 3, 1) := by decide +kernel
theorem dX6_now_47 : decode cX6_now 47 = .ok (.if_icmp .ne 14, 3) := by decide +kernel
theorem dX6_now_50 : decode cX6_now 50 = .ok (.aload_n 0, 1) := by decide +kernel
theorem dX6_now_51 : decode cX6_now 51 = .ok (.aload_n 0, 1) := by decide +kernel
theorem dX6_now_52 : decode cX6_now 52 = .ok (.getfield 25, 3) := by decide +kernel
theorem dX6_now_55 : decode cX6_now 55 = .ok (.invokevirtual 122, 3) := by decide +kernel
theorem dX6_now_58 : decode cX6_now 58 = .ok (.goto 40, 3) := by decide +kernel
theorem dX6_now_61 : decode cX6_now 61 = .ok (.iload_n 1, 1) := by decide +kernel
theorem dX6_now_62 : decode cX6_now 62 = .ok (.iconst 4, 1) := by decide +kernel
theorem dX6_now_63 : decode cX6_now 63 = .ok (.if_icmp .ne 12, 3) := by decide +kernel
theorem dX6_now_66 : decode cX6_now 66 = .ok (.aload_n 0, 1) := by decide +kernel
theorem dX6_now_67 : decode cX6_now 67 = .ok (.getfield 25, 3) := by decide +kernel
theorem dX6_now_70 : decode cX6_now 70 = .ok (.iconst 4, 1) := by decide +kernel
theorem dX6_now_71 : decode cX6_now 71 = .ok (.iaload, 1) := by decide +kernel
theorem dX6_now_72 : decode cX6_now 72 = .ok (.goto 26, 3) := by decide +kernel
theorem dX6_now_75 : decode cX6_now 75 = .ok (.iload_n 1, 1) := by decide +kernel
theorem dX6_now_76 : decode cX6_now 76 = .ok (.iconst 5, 1) := by decide +kernel
theorem dX6_now_77 : decode cX6_now 77 = .ok (.if_icmp .ne 17, 3) := by decide +kernel
theorem dX6_now_80 : decode cX6_now 80 = .ok (.aload_n 0, 1) := by decide +kernel
theorem dX6_now_81 : decode cX6_now 81 = .ok (.aload_n 0, 1) := by decide +kernel
theorem dX6_now_82 : decode cX6_now 82 = .ok (.getfield 25, 3) := by decide +kernel
theorem dX6_now_85 : decode cX6_now 85 = .ok (.iconst 4, 1) := by decide +kernel
theorem dX6_now_86 : decode cX6_now 86 = .ok (.iaload, 1) := by decide +kernel
theorem dX6_now_87 : decode cX6_now 87 = .ok (.iconst 0, 1) := by decide +kernel
theorem dX6_now_88 : decode cX6_now 88 = .ok (.invokevirtual 125, 3) := by decide +kernel
theorem dX6_now_91 : decode cX6_now 91 = .ok (.goto 7, 3) := by decide +kernel
theorem dX6_now_94 : decode cX6_now 94 = .ok (.aload_n 0, 1) := by decide +kernel
theorem dX6_now_95 : decode cX6_now 95 = .ok (.getfield 111, 3) := by decide +kernel
theorem dX6_now_98 : decode cX6_now 98 = .ok (.ireturn, 1) := by decide +kernel
theorem dX6_notes_0 : decode cX6_notes 0 = .ok (.aload_n 0, 1) := by decide +kernel
theorem dX6_notes_1 : decode cX6_notes 1 = .ok (.getfield 111, 3) := by decide +kernel
theorem dX6_notes_4 : decode cX6_notes 4 = .ok (.bipush 10, 2) := by decide +kernel
theorem dX6_notes_6 : decode cX6_notes 6 = .ok (.if_icmp .ne 37, 3) := by decide +kernel
theorem dX6_notes_9 : decode cX6_notes 9 = .ok (.iconst 0, 1) := by decide +kernel
theorem dX6_notes_10 : decode cX6_notes 10 = .ok (.istore_n 1, 1) := by decide +kernel
theorem dX6_notes_11 : decode cX6_notes 11 = .ok (.iload_n 1, 1) := by decide +kernel
theorem dX6_notes_12 : decode cX6_notes 12 = .ok (.bipush 45, 2) := by decide +kernel
theorem dX6_notes_14 : decode cX6_notes 14 = .ok (.if_icmp .ge 23, 3) := by decide +kernel
theorem dX6_notes_17 : decode cX6_notes 17 = .ok (.aload_n 0, 1) := by decide +kernel
theorem dX6_notes_18 : decode cX6_notes 18 = .ok (.getfield 38, 3) := by decide +kernel
theorem dX6_notes_21 : decode cX6_notes 21 = .ok (.iload_n 1, 1) := by decide +kernel
theorem dX6_notes_22 : decode cX6_notes 22 = .ok (.aload_n 0, 1) := by decide +kernel
theorem dX6_notes_23 : decode cX6_notes 23 = .ok (.getfield 38, 3) := by decide +kernel
theorem dX6_notes_26 : decode cX6_notes 26 = .ok (.iload_n 1, 1) := by decide +kernel
theorem dX6_notes_27 : decode cX6_notes 27 = .ok (.iconst 5, 1) := by decide +kernel
theorem dX6_notes_28 : decode cX6_notes 28 = .ok (.iadd, 1) := by decide +kernel
theorem dX6_notes_29 : decode cX6_notes 29 = .ok (.iaload, 1) := by decide +kernel
theorem dX6_notes_30 : decode cX6_notes 30 = .ok (.iastore, 1) := by decide +kernel
theorem dX6_notes_31 : decode cX6_notes 31 = .ok (.iinc 1 1, 3) := by decide +kernel
theorem dX6_notes_34 : decode cX6_notes 34 = .ok (.goto (-23), 3) := by decide +kernel
theorem dX6_notes_37 : decode cX6_notes 37 = .ok (.aload_n 0, 1) := by decide +kernel
theorem dX6_notes_38 : decode cX6_notes 38 = .ok (.bipush 9, 2) := by decide +kernel
theorem dX6_notes_40 : decode cX6_notes 40 = .ok (.putfield 111, 3) := by decide +kernel
theorem dX6_notes_43 : decode cX6_notes 43 = .ok (.iconst 0, 1) := by decide +kernel
theorem dX6_notes_44 : decode cX6_notes 44 = .ok (.istore_n 1, 1) := by decide +kernel
theorem dX6_notes_45 : decode cX6_notes 45 = .ok (.iload_n 1, 1) := by decide +kernel
theorem dX6_notes_46 : decode cX6_notes 46 = .ok (.iconst 5, 1) := by decide +kernel
theorem dX6_notes_47 : decode cX6_notes 47 = .ok (.if_icmp .ge 28, 3) := by decide +kernel
theorem dX6_notes_50 : decode cX6_notes 50 = .ok (.aload_n 0, 1) := by decide +kernel
theorem dX6_notes_51 : decode cX6_notes 51 = .ok (.getfield 38, 3) := by decide +kernel
theorem dX6_notes_54 : decode cX6_notes 54 = .ok (.iconst 5, 1) := by decide +kernel
theorem dX6_notes_55 : decode cX6_notes 55 = .ok (.aload_n 0, 1) := by decide +kernel
theorem dX6_notes_56 : decode cX6_notes 56 = .ok (.getfield 111, 3) := by decide +kernel
theorem dX6_notes_59 : decode cX6_notes 59 = .ok (.imul, 1) := by decide +kernel
theorem dX6_notes_60 : decode cX6_notes 60 = .ok (.iload_n 1, 1) := by decide +kernel
theorem dX6_notes_61 : decode cX6_notes 61 = .ok (.iadd, 1) := by decide +kernel
theorem dX6_notes_62 : decode cX6_notes 62 = .ok (.aload_n 0, 1) := by decide +kernel
theorem dX6_notes_63 : decode cX6_notes 63 = .ok (.getfield 25, 3) := by decide +kernel
theorem dX6_notes_66 : decode cX6_notes 66 = .ok (.iload_n 1, 1) := by decide +kernel
theorem dX6_notes_67 : decode cX6_notes 67 = .ok (.iaload, 1) := by decide +kernel
theorem dX6_notes_68 : decode cX6_notes 68 = .ok (.iastore, 1) := by decide +kernel
theorem dX6_notes_69 : decode cX6_notes 69 = .ok (.iinc 1 1, 3) := by decide +kernel
theorem dX6_notes_72 : decode cX6_notes 72 = .ok (.goto (-27), 3) := by decide +kernel
theorem dX6_notes_75 : decode cX6_notes 75 = .ok (.aload_n 0, 1) := by decide +kernel
theorem dX6_notes_76 : decode cX6_notes 76 = .ok (.dup, 1) := by decide +kernel
theorem dX6_notes_77 : decode cX6_notes 77 = .ok (.getfield 111, 3) := by decide +kernel
theorem dX6_notes_80 : decode cX6_notes 80 = .ok (.iconst 1, 1) := by decide +kernel
theorem dX6_notes_81 : decode cX6_notes 81 = .ok (.iadd, 1) := by decide +kernel
theorem dX6_notes_82 : decode cX6_notes 82 = .ok (.putfield 111, 3) := by decide +kernel
theorem dX6_notes_85 : decode cX6_notes 85 = .ok (.return_, 1) := by decide +kernel
set_option maxRecDepth 20000 in
theorem ggX6_swears_X6_in : GoodIn wsX6_swears wsX6_in := goodIn_r _ [6] (by decide +kernel) (by decide +kernel)
set_option maxRecDepth 20000 in
theorem gX6_swears_X6_in : GoodIn wsX6_swears (va_wsS RX6 57 yX6_in wsX6_in) := goodIn_app (goodIn_of _ (by decide +kernel)) ggX6_swears_X6_in
set_option maxRecDepth 20000 in
theorem ggX6_swears_X6_notes : GoodIn wsX6_swears wsX6_notes := goodIn_r _ [10, 11, 12, 2, 26, 27, 28, 29, 30, 31, 32, 33, 34, 35, 36, 37, 38, 39, 40, 41, 42, 43, 44, 45, 46, 47, 48, 49, 50, 51] (by decide +kernel) (by decide +kernel)
set_option maxRecDepth 20000 in
theorem gX6_swears_X6_notes : GoodIn wsX6_swears (wsV RX6 142 RX6 yX6_notes wsX6_notes) := goodIn_app (goodIn_of _ (by decide +kernel)) ggX6_swears_X6_notes
set_option maxRecDepth 20000 in
theorem ggX6_swears_X6_covered : GoodIn wsX6_swears wsX6_covered := goodIn_r _ [16, 17, 18, 19, 20, 5, 21, 22, 26, 27, 28, 29, 30, 31, 32, 33, 34, 35, 36, 37, 38, 39, 40, 41, 42, 43, 44, 45, 46, 47, 48, 49, 50, 51] (by decide +kernel) (by decide +kernel)
set_option maxRecDepth 20000 in
theorem gX6_swears_X6_covered : GoodIn wsX6_swears (wsV RX6 118 RX6 yX6_covered wsX6_covered) := goodIn_app (goodIn_of _ (by decide +kernel)) ggX6_swears_X6_covered
set_option maxRecDepth 20000 in
theorem ggX6_swears_X6_ones : GoodIn wsX6_swears wsX6_ones := goodIn_r _ [25] (by decide +kernel) (by decide +kernel)
set_option maxRecDepth 20000 in
theorem gX6_swears_X6_ones : GoodIn wsX6_swears (va_wsS RX6 145 yX6_ones wsX6_ones) := goodIn_app (goodIn_of _ (by decide +kernel)) ggX6_swears_X6_ones
theorem dX6_swears_0 : decode cX6_swears 0 = .ok (.aload_n 0, 1) := by decide +kernel
theorem dX6_swears_1 : decode cX6_swears 1 = .ok (.iconst 0, 1) := by decide +kernel
theorem dX6_swears_2 : decode cX6_swears 2 = .ok (.putfield 53, 3) := by decide +kernel
theorem dX6_swears_5 : decode cX6_swears 5 = .ok (.iload_n 1, 1) := by decide +kernel
theorem dX6_swears_6 : decode cX6_swears 6 = .ok (.iconst 0, 1) := by decide +kernel
theorem dX6_swears_7 : decode cX6_swears 7 = .ok (.bipush 31, 2) := by decide +kernel
theorem dX6_swears_9 : decode cX6_swears 9 = .ok (.invokestatic 57, 3) := by decide +kernel
theorem dX6_swears_12 : decode cX6_swears 12 = .ok (.ifCond .ne 5, 3) := by decide +kernel
theorem dX6_swears_15 : decode cX6_swears 15 = .ok (.iconst (-1), 1) := by decide +kernel
theorem dX6_swears_16 : decode cX6_swears 16 = .ok (.ireturn, 1) := by decide +kernel
theorem dX6_swears_17 : decode cX6_swears 17 = .ok (.aload_n 0, 1) := by decide +kernel
theorem dX6_swears_18 : decode cX6_swears 18 = .ok (.invokevirtual 142, 3) := by decide +kernel
theorem dX6_swears_21 : decode cX6_swears 21 = .ok (.aload_n 0, 1) := by decide +kernel
theorem dX6_swears_22 : decode cX6_swears 22 = .ok (.getfield 25, 3) := by decide +kernel
theorem dX6_swears_25 : decode cX6_swears 25 = .ok (.iconst 1, 1) := by decide +kernel
theorem dX6_swears_26 : decode cX6_swears 26 = .ok (.iload_n 1, 1) := by decide +kernel
theorem dX6_swears_27 : decode cX6_swears 27 = .ok (.iastore, 1) := by decide +kernel
theorem dX6_swears_28 : decode cX6_swears 28 = .ok (.aload_n 0, 1) := by decide +kernel
theorem dX6_swears_29 : decode cX6_swears 29 = .ok (.aload_n 0, 1) := by decide +kernel
theorem dX6_swears_30 : decode cX6_swears 30 = .ok (.getfield 25, 3) := by decide +kernel
theorem dX6_swears_33 : decode cX6_swears 33 = .ok (.invokevirtual 118, 3) := by decide +kernel
theorem dX6_swears_36 : decode cX6_swears 36 = .ok (.invokestatic 145, 3) := by decide +kernel
theorem dX6_swears_39 : decode cX6_swears 39 = .ok (.ireturn, 1) := by decide +kernel
set_option maxRecDepth 20000 in
theorem ggX6_becomes_X6_isThing : GoodIn wsX6_becomes wsX6_isThing := goodIn_r _ [6, 7, 8, 9, 5, 10, 17, 18, 19, 20, 21, 22, 23, 24, 25, 26, 27, 28, 29, 30, 31, 32, 33, 34, 35, 36, 37, 38, 39, 40, 41, 42] (by decide +kernel) (by decide +kernel)
set_option maxRecDepth 20000 in
theorem gX6_becomes_X6_isThing : GoodIn wsX6_becomes (wsV RX6 138 RX6 yX6_isThing wsX6_isThing) := goodIn_app (goodIn_of _ (by decide +kernel)) ggX6_becomes_X6_isThing
set_option maxRecDepth 20000 in
theorem ggX6_becomes_X6_in : GoodIn wsX6_becomes wsX6_in := goodIn_r _ [10] (by decide +kernel) (by decide +kernel)
set_option maxRecDepth 20000 in
theorem gX6_becomes_X6_in : GoodIn wsX6_becomes (va_wsS RX6 57 yX6_in wsX6_in) := goodIn_app (goodIn_of _ (by decide +kernel)) ggX6_becomes_X6_in
set_option maxRecDepth 20000 in
theorem ggX6_becomes_X6_notes : GoodIn wsX6_becomes wsX6_notes := goodIn_r _ [14, 15, 16, 1, 17, 18, 19, 20, 21, 22, 23, 24, 25, 26, 27, 28, 29, 30, 31, 32, 33, 34, 35, 36, 37, 38, 39, 40, 41, 42] (by decide +kernel) (by decide +kernel)
set_option maxRecDepth 20000 in
theorem gX6_becomes_X6_notes : GoodIn wsX6_becomes (wsV RX6 142 RX6 yX6_notes wsX6_notes) := goodIn_app (goodIn_of _ (by decide +kernel)) ggX6_becomes_X6_notes
theorem dX6_becomes_0 : decode cX6_becomes 0 = .ok (.aload_n 0, 1) := by decide +kernel
theorem dX6_becomes_1 : decode cX6_becomes 1 = .ok (.iload_n 2, 1) := by decide +kernel
theorem dX6_becomes_2 : decode cX6_becomes 2 = .ok (.invokevirtual 138, 3) := by decide +kernel
theorem dX6_becomes_5 : decode cX6_becomes 5 = .ok (.ifCond .eq 12, 3) := by decide +kernel
theorem dX6_becomes_8 : decode cX6_becomes 8 = .ok (.iload_n 3, 1) := by decide +kernel
theorem dX6_becomes_9 : decode cX6_becomes 9 = .ok (.iconst 0, 1) := by decide +kernel
theorem dX6_becomes_10 : decode cX6_becomes 10 = .ok (.iconst 1, 1) := by decide +kernel
theorem dX6_becomes_11 : decode cX6_becomes 11 = .ok (.invokestatic 57, 3) := by decide +kernel
theorem dX6_becomes_14 : decode cX6_becomes 14 = .ok (.ifCond .ne 5, 3) := by decide +kernel
theorem dX6_becomes_17 : decode cX6_becomes 17 = .ok (.iconst (-1), 1) := by decide +kernel
theorem dX6_becomes_18 : decode cX6_becomes 18 = .ok (.ireturn, 1) := by decide +kernel
theorem dX6_becomes_19 : decode cX6_becomes 19 = .ok (.aload_n 0, 1) := by decide +kernel
theorem dX6_becomes_20 : decode cX6_becomes 20 = .ok (.invokevirtual 142, 3) := by decide +kernel
theorem dX6_becomes_23 : decode cX6_becomes 23 = .ok (.aload_n 0, 1) := by decide +kernel
theorem dX6_becomes_24 : decode cX6_becomes 24 = .ok (.getfield 25, 3) := by decide +kernel
theorem dX6_becomes_27 : decode cX6_becomes 27 = .ok (.iload_n 1, 1) := by decide +kernel
theorem dX6_becomes_28 : decode cX6_becomes 28 = .ok (.iaload, 1) := by decide +kernel
theorem dX6_becomes_29 : decode cX6_becomes 29 = .ok (.iload_n 2, 1) := by decide +kernel
theorem dX6_becomes_30 : decode cX6_becomes 30 = .ok (.ishr, 1) := by decide +kernel
theorem dX6_becomes_31 : decode cX6_becomes 31 = .ok (.iconst 1, 1) := by decide +kernel
theorem dX6_becomes_32 : decode cX6_becomes 32 = .ok (.iand, 1) := by decide +kernel
theorem dX6_becomes_33 : decode cX6_becomes 33 = .ok (.istore 4, 2) := by decide +kernel
theorem dX6_becomes_35 : decode cX6_becomes 35 = .ok (.aload_n 0, 1) := by decide +kernel
theorem dX6_becomes_36 : decode cX6_becomes 36 = .ok (.getfield 25, 3) := by decide +kernel
theorem dX6_becomes_39 : decode cX6_becomes 39 = .ok (.iload_n 1, 1) := by decide +kernel
theorem dX6_becomes_40 : decode cX6_becomes 40 = .ok (.aload_n 0, 1) := by decide +kernel
theorem dX6_becomes_41 : decode cX6_becomes 41 = .ok (.getfield 25, 3) := by decide +kernel
theorem dX6_becomes_44 : decode cX6_becomes 44 = .ok (.iload_n 1, 1) := by decide +kernel
theorem dX6_becomes_45 : decode cX6_becomes 45 = .ok (.iaload, 1) := by decide +kernel
theorem dX6_becomes_46 : decode cX6_becomes 46 = .ok (.iconst 1, 1) := by decide +kernel
theorem dX6_becomes_47 : decode cX6_becomes 47 = .ok (.iload_n 2, 1) := by decide +kernel
theorem dX6_becomes_48 : decode cX6_becomes 48 = .ok (.ishl, 1) := by decide +kernel
theorem dX6_becomes_49 : decode cX6_becomes 49 = .ok (.iconst (-1), 1) := by decide +kernel
theorem dX6_becomes_50 : decode cX6_becomes 50 = .ok (.ixor, 1) := by decide +kernel
theorem dX6_becomes_51 : decode cX6_becomes 51 = .ok (.iand, 1) := by decide +kernel
theorem dX6_becomes_52 : decode cX6_becomes 52 = .ok (.iload_n 3, 1) := by decide +kernel
theorem dX6_becomes_53 : decode cX6_becomes 53 = .ok (.iload_n 2, 1) := by decide +kernel
theorem dX6_becomes_54 : decode cX6_becomes 54 = .ok (.ishl, 1) := by decide +kernel
theorem dX6_becomes_55 : decode cX6_becomes 55 = .ok (.ior, 1) := by decide +kernel
theorem dX6_becomes_56 : decode cX6_becomes 56 = .ok (.iastore, 1) := by decide +kernel
theorem dX6_becomes_57 : decode cX6_becomes 57 = .ok (.iload 4, 2) := by decide +kernel
theorem dX6_becomes_59 : decode cX6_becomes 59 = .ok (.ireturn, 1) := by decide +kernel
set_option maxRecDepth 20000 in
theorem ggX6_keepsIn_X6_becomes : GoodIn wsX6_keepsIn wsX6_becomes := goodIn_r _ [6, 7, 8, 9, 10, 5, 11, 12, 13, 14, 15, 16, 17, 18, 19, 20, 21, 22, 23, 24, 25, 26, 27, 28, 29, 30, 31, 32, 33, 34, 35, 36, 37, 38, 39, 40, 41, 42, 43, 44, 45, 46, 47] (by decide +kernel) (by decide +kernel)
set_option maxRecDepth 20000 in
theorem gX6_keepsIn_X6_becomes : GoodIn wsX6_keepsIn (wsV RX6 148 RX6 yX6_becomes wsX6_becomes) := goodIn_app (goodIn_of _ (by decide +kernel)) ggX6_keepsIn_X6_becomes
theorem dX6_keepsIn_0 : decode cX6_keepsIn 0 = .ok (.aload_n 0, 1) := by decide +kernel
theorem dX6_keepsIn_1 : decode cX6_keepsIn 1 = .ok (.iconst 0, 1) := by decide +kernel
theorem dX6_keepsIn_2 : decode cX6_keepsIn 2 = .ok (.putfield 53, 3) := by decide +kernel
theorem dX6_keepsIn_5 : decode cX6_keepsIn 5 = .ok (.aload_n 0, 1) := by decide +kernel
theorem dX6_keepsIn_6 : decode cX6_keepsIn 6 = .ok (.iconst 3, 1) := by decide +kernel
theorem dX6_keepsIn_7 : decode cX6_keepsIn 7 = .ok (.iload_n 1, 1) := by decide +kernel
theorem dX6_keepsIn_8 : decode cX6_keepsIn 8 = .ok (.iload_n 2, 1) := by decide +kernel
theorem dX6_keepsIn_9 : decode cX6_keepsIn 9 = .ok (.invokevirtual 148, 3) := by decide +kernel
theorem dX6_keepsIn_12 : decode cX6_keepsIn 12 = .ok (.ireturn, 1) := by decide +kernel
set_option maxRecDepth 20000 in
theorem ggX6_tells_X6_becomes : GoodIn wsX6_tells wsX6_becomes := goodIn_r _ [6, 7, 8, 9, 10, 5, 11, 12, 13, 14, 15, 16, 17, 18, 19, 20, 21, 22, 23, 24, 25, 26, 27, 28, 29, 30, 31, 32, 33, 34, 35, 36, 37, 38, 39, 40, 41, 42, 43, 44, 45, 46, 47] (by decide +kernel) (by decide +kernel)
set_option maxRecDepth 20000 in
theorem gX6_tells_X6_becomes : GoodIn wsX6_tells (wsV RX6 148 RX6 yX6_becomes wsX6_becomes) := goodIn_app (goodIn_of _ (by decide +kernel)) ggX6_tells_X6_becomes
theorem dX6_tells_0 : decode cX6_tells 0 = .ok (.aload_n 0, 1) := by decide +kernel
theorem dX6_tells_1 : decode cX6_tells 1 = .ok (.iconst 0, 1) := by decide +kernel
theorem dX6_tells_2 : decode cX6_tells 2 = .ok (.putfield 53, 3) := by decide +kernel
theorem dX6_tells_5 : decode cX6_tells 5 = .ok (.aload_n 0, 1) := by decide +kernel
theorem dX6_tells_6 : decode cX6_tells 6 = .ok (.iconst 2, 1) := by decide +kernel
theorem dX6_tells_7 : decode cX6_tells 7 = .ok (.iload_n 1, 1) := by decide +kernel
theorem dX6_tells_8 : decode cX6_tells 8 = .ok (.iload_n 2, 1) := by decide +kernel
theorem dX6_tells_9 : decode cX6_tells 9 = .ok (.invokevirtual 148, 3) := by decide +kernel
theorem dX6_tells_12 : decode cX6_tells 12 = .ok (.ireturn, 1) := by decide +kernel
set_option maxRecDepth 20000 in
theorem ggX6_comesBy_X6_comers : GoodIn wsX6_comesBy wsX6_comers := goodIn_r _ [10, 11, 5, 12, 13, 14, 9, 15, 16, 17, 18, 19, 20, 25, 26, 27, 28, 29, 30, 31, 32, 33, 34, 35, 36, 37, 38, 39, 40, 41, 42, 43, 44, 45, 46, 47, 48, 49, 50] (by decide +kernel) (by decide +kernel)
set_option maxRecDepth 20000 in
theorem gX6_comesBy_X6_comers : GoodIn wsX6_comesBy (wsV RX6 122 RX6 yX6_comers wsX6_comers) := goodIn_app (goodIn_of _ (by decide +kernel)) ggX6_comesBy_X6_comers
set_option maxRecDepth 20000 in
theorem ggX6_comesBy_X6_eagerOf : GoodIn wsX6_comesBy wsX6_eagerOf := goodIn_r _ [24, 11, 5, 25, 26, 27, 28, 29, 30, 31, 32, 33, 34, 35, 36, 37, 38, 39, 40, 41, 42, 43, 44, 45, 46, 47, 48, 49, 50] (by decide +kernel) (by decide +kernel)
set_option maxRecDepth 20000 in
theorem gX6_comesBy_X6_eagerOf : GoodIn wsX6_comesBy (wsV RX6 132 RX6 yX6_eagerOf wsX6_eagerOf) := goodIn_app (goodIn_of _ (by decide +kernel)) ggX6_comesBy_X6_eagerOf
theorem dX6_comesBy_0 : decode cX6_comesBy 0 = .ok (.aload_n 0, 1) := by decide +kernel
theorem dX6_comesBy_1 : decode cX6_comesBy 1 = .ok (.aload_n 1, 1) := by decide +kernel
theorem dX6_comesBy_2 : decode cX6_comesBy 2 = .ok (.invokevirtual 122, 3) := by decide +kernel
theorem dX6_comesBy_5 : decode cX6_comesBy 5 = .ok (.istore_n 3, 1) := by decide +kernel
theorem dX6_comesBy_6 : decode cX6_comesBy 6 = .ok (.aload_n 0, 1) := by decide +kernel
theorem dX6_comesBy_7 : decode cX6_comesBy 7 = .ok (.iload_n 3, 1) := by decide +kernel
theorem dX6_comesBy_8 : decode cX6_comesBy 8 = .ok (.invokevirtual 132, 3) := by decide +kernel
theorem dX6_comesBy_11 : decode cX6_comesBy 11 = .ok (.istore 4, 2) := by decide +kernel
theorem dX6_comesBy_13 : decode cX6_comesBy 13 = .ok (.iload 4, 2) := by decide +kernel
theorem dX6_comesBy_15 : decode cX6_comesBy 15 = .ok (.ifCond .ne 6, 3) := by decide +kernel
theorem dX6_comesBy_18 : decode cX6_comesBy 18 = .ok (.bipush (-9), 2) := by decide +kernel
theorem dX6_comesBy_20 : decode cX6_comesBy 20 = .ok (.ireturn, 1) := by decide +kernel
theorem dX6_comesBy_21 : decode cX6_comesBy 21 = .ok (.ldc2_w 152, 3) := by decide +kernel
theorem dX6_comesBy_24 : decode cX6_comesBy 24 = .ok (.iload_n 2, 1) := by decide +kernel
theorem dX6_comesBy_25 : decode cX6_comesBy 25 = .ok (.i2l, 1) := by decide +kernel
theorem dX6_comesBy_26 : decode cX6_comesBy 26 = .ok (.lmul, 1) := by decide +kernel
theorem dX6_comesBy_27 : decode cX6_comesBy 27 = .ok (.ldc2_w 154, 3) := by decide +kernel
theorem dX6_comesBy_30 : decode cX6_comesBy 30 = .ok (.aload_n 1, 1) := by decide +kernel
theorem dX6_comesBy_31 : decode cX6_comesBy 31 = .ok (.iconst 0, 1) := by decide +kernel
theorem dX6_comesBy_32 : decode cX6_comesBy 32 = .ok (.iaload, 1) := by decide +kernel
theorem dX6_comesBy_33 : decode cX6_comesBy 33 = .ok (.i2l, 1) := by decide +kernel
theorem dX6_comesBy_34 : decode cX6_comesBy 34 = .ok (.lmul, 1) := by decide +kernel
theorem dX6_comesBy_35 : decode cX6_comesBy 35 = .ok (.ladd, 1) := by decide +kernel
theorem dX6_comesBy_36 : decode cX6_comesBy 36 = .ok (.lconst 1, 1) := by decide +kernel
theorem dX6_comesBy_37 : decode cX6_comesBy 37 = .ok (.ladd, 1) := by decide +kernel
theorem dX6_comesBy_38 : decode cX6_comesBy 38 = .ok (.lstore 5, 2) := by decide +kernel
theorem dX6_comesBy_40 : decode cX6_comesBy 40 = .ok (.lload 5, 2) := by decide +kernel
theorem dX6_comesBy_42 : decode cX6_comesBy 42 = .ok (.lload 5, 2) := by decide +kernel
theorem dX6_comesBy_44 : decode cX6_comesBy 44 = .ok (.lmul, 1) := by decide +kernel
theorem dX6_comesBy_45 : decode cX6_comesBy 45 = .ok (.ldc2_w 156, 3) := by decide +kernel
theorem dX6_comesBy_48 : decode cX6_comesBy 48 = .ok (.lrem, 1) := by decide +kernel
theorem dX6_comesBy_49 : decode cX6_comesBy 49 = .ok (.ldc2_w 158, 3) := by decide +kernel
theorem dX6_comesBy_52 : decode cX6_comesBy 52 = .ok (.ldiv, 1) := by decide +kernel
theorem dX6_comesBy_53 : decode cX6_comesBy 53 = .ok (.iload 4, 2) := by decide +kernel
theorem dX6_comesBy_55 : decode cX6_comesBy 55 = .ok (.i2l, 1) := by decide +kernel
theorem dX6_comesBy_56 : decode cX6_comesBy 56 = .ok (.lrem, 1) := by decide +kernel
theorem dX6_comesBy_57 : decode cX6_comesBy 57 = .ok (.l2i, 1) := by decide +kernel
theorem dX6_comesBy_58 : decode cX6_comesBy 58 = .ok (.istore 7, 2) := by decide +kernel
theorem dX6_comesBy_60 : decode cX6_comesBy 60 = .ok (.iconst 0, 1) := by decide +kernel
theorem dX6_comesBy_61 : decode cX6_comesBy 61 = .ok (.istore 8, 2) := by decide +kernel
theorem dX6_comesBy_63 : decode cX6_comesBy 63 = .ok (.iload_n 3, 1) := by decide +kernel
theorem dX6_comesBy_64 : decode cX6_comesBy 64 = .ok (.iload 8, 2) := by decide +kernel
theorem dX6_comesBy_66 : decode cX6_comesBy 66 = .ok (.ishr, 1) := by decide +kernel
theorem dX6_comesBy_67 : decode cX6_comesBy 67 = .ok (.iconst 1, 1) := by decide +kernel
theorem dX6_comesBy_68 : decode cX6_comesBy 68 = .ok (.iand, 1) := by decide +kernel
theorem dX6_comesBy_69 : decode cX6_comesBy 69 = .ok (.ifCond .eq 15, 3) := by decide +kernel
theorem dX6_comesBy_72 : decode cX6_comesBy 72 = .ok (.iload 7, 2) := by decide +kernel
theorem dX6_comesBy_74 : decode cX6_comesBy 74 = .ok (.aload_n 0, 1) := by decide +kernel
theorem dX6_comesBy_75 : decode cX6_comesBy 75 = .ok (.getfield 22, 3) := by decide +kernel
theorem dX6_comesBy_78 : decode cX6_comesBy 78 = .ok (.iload 8, 2) := by decide +kernel
theorem dX6_comesBy_80 : decode cX6_comesBy 80 = .ok (.iaload, 1) := by decide +kernel
theorem dX6_comesBy_81 : decode cX6_comesBy 81 = .ok (.if_icmp .lt 34, 3) := by decide +kernel
theorem dX6_comesBy_84 : decode cX6_comesBy 84 = .ok (.iload 7, 2) := by decide +kernel
theorem dX6_comesBy_86 : decode cX6_comesBy 86 = .ok (.iload_n 3, 1) := by decide +kernel
theorem dX6_comesBy_87 : decode cX6_comesBy 87 = .ok (.iload 8, 2) := by decide +kernel
theorem dX6_comesBy_89 : decode cX6_comesBy 89 = .ok (.ishr, 1) := by decide +kernel
theorem dX6_comesBy_90 : decode cX6_comesBy 90 = .ok (.iconst 1, 1) := by decide +kernel
theorem dX6_comesBy_91 : decode cX6_comesBy 91 = .ok (.iand, 1) := by decide +kernel
theorem dX6_comesBy_92 : decode cX6_comesBy 92 = .ok (.ifCond .ne 7, 3) := by decide +kernel
theorem dX6_comesBy_95 : decode cX6_comesBy 95 = .ok (.iconst 0, 1) := by decide +kernel
theorem dX6_comesBy_96 : decode cX6_comesBy 96 = .ok (.goto 10, 3) := by decide +kernel
theorem dX6_comesBy_99 : decode cX6_comesBy 99 = .ok (.aload_n 0, 1) := by decide +kernel
theorem dX6_comesBy_100 : decode cX6_comesBy 100 = .ok (.getfield 22, 3) := by decide +kernel
theorem dX6_comesBy_103 : decode cX6_comesBy 103 = .ok (.iload 8, 2) := by decide +kernel
theorem dX6_comesBy_105 : decode cX6_comesBy 105 = .ok (.iaload, 1) := by decide +kernel
theorem dX6_comesBy_106 : decode cX6_comesBy 106 = .ok (.isub, 1) := by decide +kernel
theorem dX6_comesBy_107 : decode cX6_comesBy 107 = .ok (.istore 7, 2) := by decide +kernel
theorem dX6_comesBy_109 : decode cX6_comesBy 109 = .ok (.iinc 8 1, 3) := by decide +kernel
theorem dX6_comesBy_112 : decode cX6_comesBy 112 = .ok (.goto (-49), 3) := by decide +kernel
theorem dX6_comesBy_115 : decode cX6_comesBy 115 = .ok (.iload 8, 2) := by decide +kernel
theorem dX6_comesBy_117 : decode cX6_comesBy 117 = .ok (.ireturn, 1) := by decide +kernel
set_option maxRecDepth 20000 in
theorem ggX6_goes_X6_comesBy : GoodIn wsX6_goes wsX6_comesBy := goodIn_r _ [5, 6, 7, 8, 9, 10, 11, 12, 13, 4, 14, 15, 16, 17, 18, 19, 20, 21, 22, 23, 24, 25, 26, 27, 28, 29, 30, 31, 32, 33, 34, 35, 36, 37, 38, 39, 40, 41, 42, 43, 44, 45, 46, 47, 48, 49, 50, 51, 52, 53, 54] (by decide +kernel) (by decide +kernel)
set_option maxRecDepth 20000 in
theorem gX6_goes_X6_comesBy : GoodIn wsX6_goes (wsV RX6 160 RX6 yX6_comesBy wsX6_comesBy) := goodIn_app (goodIn_of _ (by decide +kernel)) ggX6_goes_X6_comesBy
set_option maxRecDepth 20000 in
theorem ggX6_goes_X6_covered : GoodIn wsX6_goes wsX6_covered := goodIn_r _ [19, 15, 20, 21, 22, 4, 23, 24, 29, 30, 31, 32, 33, 34, 35, 36, 37, 38, 39, 40, 41, 42, 43, 44, 45, 46, 47, 48, 49, 50, 51, 52, 53, 54] (by decide +kernel) (by decide +kernel)
set_option maxRecDepth 20000 in
theorem gX6_goes_X6_covered : GoodIn wsX6_goes (wsV RX6 118 RX6 yX6_covered wsX6_covered) := goodIn_app (goodIn_of _ (by decide +kernel)) ggX6_goes_X6_covered
theorem dX6_goes_0 : decode cX6_goes 0 = .ok (.aload_n 0, 1) := by decide +kernel
theorem dX6_goes_1 : decode cX6_goes 1 = .ok (.aload_n 1, 1) := by decide +kernel
theorem dX6_goes_2 : decode cX6_goes 2 = .ok (.iload_n 2, 1) := by decide +kernel
theorem dX6_goes_3 : decode cX6_goes 3 = .ok (.invokevirtual 160, 3) := by decide +kernel
theorem dX6_goes_6 : decode cX6_goes 6 = .ok (.istore_n 3, 1) := by decide +kernel
theorem dX6_goes_7 : decode cX6_goes 7 = .ok (.aload_n 1, 1) := by decide +kernel
theorem dX6_goes_8 : decode cX6_goes 8 = .ok (.iconst 4, 1) := by decide +kernel
theorem dX6_goes_9 : decode cX6_goes 9 = .ok (.dup2, 1) := by decide +kernel
theorem dX6_goes_10 : decode cX6_goes 10 = .ok (.iaload, 1) := by decide +kernel
theorem dX6_goes_11 : decode cX6_goes 11 = .ok (.iload_n 3, 1) := by decide +kernel
theorem dX6_goes_12 : decode cX6_goes 12 = .ok (.bipush (-9), 2) := by decide +kernel
theorem dX6_goes_14 : decode cX6_goes 14 = .ok (.if_icmp .ne 7, 3) := by decide +kernel
theorem dX6_goes_17 : decode cX6_goes 17 = .ok (.iconst 0, 1) := by decide +kernel
theorem dX6_goes_18 : decode cX6_goes 18 = .ok (.goto 12, 3) := by decide +kernel
theorem dX6_goes_21 : decode cX6_goes 21 = .ok (.aload_n 0, 1) := by decide +kernel
theorem dX6_goes_22 : decode cX6_goes 22 = .ok (.aload_n 1, 1) := by decide +kernel
theorem dX6_goes_23 : decode cX6_goes 23 = .ok (.invokevirtual 118, 3) := by decide +kernel
theorem dX6_goes_26 : decode cX6_goes 26 = .ok (.iconst 1, 1) := by decide +kernel
theorem dX6_goes_27 : decode cX6_goes 27 = .ok (.iload_n 3, 1) := by decide +kernel
theorem dX6_goes_28 : decode cX6_goes 28 = .ok (.ishl, 1) := by decide +kernel
theorem dX6_goes_29 : decode cX6_goes 29 = .ok (.iand, 1) := by decide +kernel
theorem dX6_goes_30 : decode cX6_goes 30 = .ok (.ior, 1) := by decide +kernel
theorem dX6_goes_31 : decode cX6_goes 31 = .ok (.iastore, 1) := by decide +kernel
theorem dX6_goes_32 : decode cX6_goes 32 = .ok (.aload_n 1, 1) := by decide +kernel
theorem dX6_goes_33 : decode cX6_goes 33 = .ok (.iconst 0, 1) := by decide +kernel
theorem dX6_goes_34 : decode cX6_goes 34 = .ok (.dup2, 1) := by decide +kernel
theorem dX6_goes_35 : decode cX6_goes 35 = .ok (.iaload, 1) := by decide +kernel
theorem dX6_goes_36 : decode cX6_goes 36 = .ok (.iconst 1, 1) := by decide +kernel
theorem dX6_goes_37 : decode cX6_goes 37 = .ok (.iadd, 1) := by decide +kernel
theorem dX6_goes_38 : decode cX6_goes 38 = .ok (.iastore, 1) := by decide +kernel
theorem dX6_goes_39 : decode cX6_goes 39 = .ok (.iload_n 3, 1) := by decide +kernel
theorem dX6_goes_40 : decode cX6_goes 40 = .ok (.ireturn, 1) := by decide +kernel
set_option maxRecDepth 20000 in
theorem ggX6_day_X6_in : GoodIn wsX6_day wsX6_in := goodIn_r _ [6] (by decide +kernel) (by decide +kernel)
set_option maxRecDepth 20000 in
theorem gX6_day_X6_in : GoodIn wsX6_day (va_wsS RX6 57 yX6_in wsX6_in) := goodIn_app (goodIn_of _ (by decide +kernel)) ggX6_day_X6_in
set_option maxRecDepth 20000 in
theorem ggX6_day_X6_notes : GoodIn wsX6_day wsX6_notes := goodIn_r _ [10, 11, 12, 2, 44, 45, 46, 47, 48, 49, 50, 51, 52, 53, 54, 55, 56, 57, 58, 59, 60, 61, 62, 63, 64, 65, 66, 67, 68, 69] (by decide +kernel) (by decide +kernel)
set_option maxRecDepth 20000 in
theorem gX6_day_X6_notes : GoodIn wsX6_day (wsV RX6 142 RX6 yX6_notes wsX6_notes) := goodIn_app (goodIn_of _ (by decide +kernel)) ggX6_day_X6_notes
set_option maxRecDepth 20000 in
theorem ggX6_day_X6_goes : GoodIn wsX6_day wsX6_goes := goodIn_r _ [16, 17, 18, 19, 5, 20, 21, 22, 23, 24, 25, 26, 27, 28, 29, 30, 31, 32, 33, 34, 35, 36, 37, 38, 39, 40, 41, 42, 43, 44, 45, 46, 47, 48, 49, 50, 51, 52, 53, 54, 55, 56, 57, 58, 59, 60, 61, 62, 63, 64, 65, 66, 67, 68, 69] (by decide +kernel) (by decide +kernel)
set_option maxRecDepth 20000 in
theorem gX6_day_X6_goes : GoodIn wsX6_day (wsV RX6 164 RX6 yX6_goes wsX6_goes) := goodIn_app (goodIn_of _ (by decide +kernel)) ggX6_day_X6_goes
theorem dX6_day_0 : decode cX6_day 0 = .ok (.aload_n 0, 1) := by decide +kernel
theorem dX6_day_1 : decode cX6_day 1 = .ok (.iconst 0, 1) := by decide +kernel
theorem dX6_day_2 : decode cX6_day 2 = .ok (.putfield 53, 3) := by decide +kernel
theorem dX6_day_5 : decode cX6_day 5 = .ok (.iload_n 1, 1) := by decide +kernel
theorem dX6_day_6 : decode cX6_day 6 = .ok (.iconst 0, 1) := by decide +kernel
theorem dX6_day_7 : decode cX6_day 7 = .ok (.sipush 9999, 3) := by decide +kernel
theorem dX6_day_10 : decode cX6_day 10 = .ok (.invokestatic 57, 3) := by decide +kernel
theorem dX6_day_13 : decode cX6_day 13 = .ok (.ifCond .ne 5, 3) := by decide +kernel
theorem dX6_day_16 : decode cX6_day 16 = .ok (.iconst (-1), 1) := by decide +kernel
theorem dX6_day_17 : decode cX6_day 17 = .ok (.ireturn, 1) := by decide +kernel
theorem dX6_day_18 : decode cX6_day 18 = .ok (.aload_n 0, 1) := by decide +kernel
theorem dX6_day_19 : decode cX6_day 19 = .ok (.getfield 25, 3) := by decide +kernel
theorem dX6_day_22 : decode cX6_day 22 = .ok (.iconst 0, 1) := by decide +kernel
theorem dX6_day_23 : decode cX6_day 23 = .ok (.iaload, 1) := by decide +kernel
theorem dX6_day_24 : decode cX6_day 24 = .ok (.sipush 999, 3) := by decide +kernel
theorem dX6_day_27 : decode cX6_day 27 = .ok (.if_icmp .ne 6, 3) := by decide +kernel
theorem dX6_day_30 : decode cX6_day 30 = .ok (.bipush (-2), 2) := by decide +kernel
theorem dX6_day_32 : decode cX6_day 32 = .ok (.ireturn, 1) := by decide +kernel
theorem dX6_day_33 : decode cX6_day 33 = .ok (.aload_n 0, 1) := by decide +kernel
theorem dX6_day_34 : decode cX6_day 34 = .ok (.invokevirtual 142, 3) := by decide +kernel
theorem dX6_day_37 : decode cX6_day 37 = .ok (.aload_n 0, 1) := by decide +kernel
theorem dX6_day_38 : decode cX6_day 38 = .ok (.aload_n 0, 1) := by decide +kernel
theorem dX6_day_39 : decode cX6_day 39 = .ok (.getfield 25, 3) := by decide +kernel
theorem dX6_day_42 : decode cX6_day 42 = .ok (.iload_n 1, 1) := by decide +kernel
theorem dX6_day_43 : decode cX6_day 43 = .ok (.invokevirtual 164, 3) := by decide +kernel
theorem dX6_day_46 : decode cX6_day 46 = .ok (.ireturn, 1) := by decide +kernel
theorem dX6_undo_0 : decode cX6_undo 0 = .ok (.aload_n 0, 1) := by decide +kernel
theorem dX6_undo_1 : decode cX6_undo 1 = .ok (.iconst 0, 1) := by decide +kernel
theorem dX6_undo_2 : decode cX6_undo 2 = .ok (.putfield 53, 3) := by decide +kernel
theorem dX6_undo_5 : decode cX6_undo 5 = .ok (.aload_n 0, 1) := by decide +kernel
theorem dX6_undo_6 : decode cX6_undo 6 = .ok (.getfield 111, 3) := by decide +kernel
theorem dX6_undo_9 : decode cX6_undo 9 = .ok (.ifCond .ne 6, 3) := by decide +kernel
theorem dX6_undo_12 : decode cX6_undo 12 = .ok (.bipush (-2), 2) := by decide +kernel
theorem dX6_undo_14 : decode cX6_undo 14 = .ok (.ireturn, 1) := by decide +kernel
theorem dX6_undo_15 : decode cX6_undo 15 = .ok (.aload_n 0, 1) := by decide +kernel
theorem dX6_undo_16 : decode cX6_undo 16 = .ok (.dup, 1) := by decide +kernel
theorem dX6_undo_17 : decode cX6_undo 17 = .ok (.getfield 111, 3) := by decide +kernel
theorem dX6_undo_20 : decode cX6_undo 20 = .ok (.iconst 1, 1) := by decide +kernel
theorem dX6_undo_21 : decode cX6_undo 21 = .ok (.isub, 1) := by decide +kernel
theorem dX6_undo_22 : decode cX6_undo 22 = .ok (.putfield 111, 3) := by decide +kernel
theorem dX6_undo_25 : decode cX6_undo 25 = .ok (.iconst 0, 1) := by decide +kernel
theorem dX6_undo_26 : decode cX6_undo 26 = .ok (.istore_n 1, 1) := by decide +kernel
theorem dX6_undo_27 : decode cX6_undo 27 = .ok (.iload_n 1, 1) := by decide +kernel
theorem dX6_undo_28 : decode cX6_undo 28 = .ok (.iconst 5, 1) := by decide +kernel
theorem dX6_undo_29 : decode cX6_undo 29 = .ok (.if_icmp .ge 28, 3) := by decide +kernel
theorem dX6_undo_32 : decode cX6_undo 32 = .ok (.aload_n 0, 1) := by decide +kernel
theorem dX6_undo_33 : decode cX6_undo 33 = .ok (.getfield 25, 3) := by decide +kernel
theorem dX6_undo_36 : decode cX6_undo 36 = .ok (.iload_n 1, 1) := by decide +kernel
theorem dX6_undo_37 : decode cX6_undo 37 = .ok (.aload_n 0, 1) := by decide +kernel
theorem dX6_undo_38 : decode cX6_undo 38 = .ok (.getfield 38, 3) := by decide +kernel
theorem dX6_undo_41 : decode cX6_undo 41 = .ok (.iconst 5, 1) := by decide +kernel
theorem dX6_undo_42 : decode cX6_undo 42 = .ok (.aload_n 0, 1) := by decide +kernel
theorem dX6_undo_43 : decode cX6_undo 43 = .ok (.getfield 111, 3) := by decide +kernel
theorem dX6_undo_46 : decode cX6_undo 46 = .ok (.imul, 1) := by decide +kernel
theorem dX6_undo_47 : decode cX6_undo 47 = .ok (.iload_n 1, 1) := by decide +kernel
theorem dX6_undo_48 : decode cX6_undo 48 = .ok (.iadd, 1) := by decide +kernel
theorem dX6_undo_49 : decode cX6_undo 49 = .ok (.iaload, 1) := by decide +kernel
theorem dX6_undo_50 : decode cX6_undo 50 = .ok (.iastore, 1) := by decide +kernel
theorem dX6_undo_51 : decode cX6_undo 51 = .ok (.iinc 1 1, 3) := by decide +kernel
theorem dX6_undo_54 : decode cX6_undo 54 = .ok (.goto (-27), 3) := by decide +kernel
theorem dX6_undo_57 : decode cX6_undo 57 = .ok (.aload_n 0, 1) := by decide +kernel
theorem dX6_undo_58 : decode cX6_undo 58 = .ok (.getfield 111, 3) := by decide +kernel
theorem dX6_undo_61 : decode cX6_undo 61 = .ok (.ireturn, 1) := by decide +kernel
theorem dX6_gcd_0 : decode cX6_gcd 0 = .ok (.iload_n 0, 1) := by decide +kernel
theorem dX6_gcd_1 : decode cX6_gcd 1 = .ok (.ifCond .ge 8, 3) := by decide +kernel
theorem dX6_gcd_4 : decode cX6_gcd 4 = .ok (.iload_n 0, 1) := by decide +kernel
theorem dX6_gcd_5 : decode cX6_gcd 5 = .ok (.ineg, 1) := by decide +kernel
theorem dX6_gcd_6 : decode cX6_gcd 6 = .ok (.goto 4, 3) := by decide +kernel
theorem dX6_gcd_9 : decode cX6_gcd 9 = .ok (.iload_n 0, 1) := by decide +kernel
theorem dX6_gcd_10 : decode cX6_gcd 10 = .ok (.istore_n 2, 1) := by decide +kernel
theorem dX6_gcd_11 : decode cX6_gcd 11 = .ok (.iload_n 1, 1) := by decide +kernel
theorem dX6_gcd_12 : decode cX6_gcd 12 = .ok (.istore_n 3, 1) := by decide +kernel
theorem dX6_gcd_13 : decode cX6_gcd 13 = .ok (.iload_n 3, 1) := by decide +kernel
theorem dX6_gcd_14 : decode cX6_gcd 14 = .ok (.ifCond .eq 16, 3) := by decide +kernel
theorem dX6_gcd_17 : decode cX6_gcd 17 = .ok (.iload_n 2, 1) := by decide +kernel
theorem dX6_gcd_18 : decode cX6_gcd 18 = .ok (.iload_n 3, 1) := by decide +kernel
theorem dX6_gcd_19 : decode cX6_gcd 19 = .ok (.irem, 1) := by decide +kernel
theorem dX6_gcd_20 : decode cX6_gcd 20 = .ok (.istore 4, 2) := by decide +kernel
theorem dX6_gcd_22 : decode cX6_gcd 22 = .ok (.iload_n 3, 1) := by decide +kernel
theorem dX6_gcd_23 : decode cX6_gcd 23 = .ok (.istore_n 2, 1) := by decide +kernel
theorem dX6_gcd_24 : decode cX6_gcd 24 = .ok (.iload 4, 2) := by decide +kernel
theorem dX6_gcd_26 : decode cX6_gcd 26 = .ok (.istore_n 3, 1) := by decide +kernel
theorem dX6_gcd_27 : decode cX6_gcd 27 = .ok (.goto (-14), 3) := by decide +kernel
theorem dX6_gcd_30 : decode cX6_gcd 30 = .ok (.iload_n 2, 1) := by decide +kernel
theorem dX6_gcd_31 : decode cX6_gcd 31 = .ok (.ireturn, 1) := by decide +kernel
set_option maxRecDepth 20000 in
theorem ggX6_part_X6_gcd : GoodIn wsX6_part wsX6_gcd := goodIn_r _ [4] (by decide +kernel) (by decide +kernel)
set_option maxRecDepth 20000 in
theorem gX6_part_X6_gcd : GoodIn wsX6_part (va_wsS RX6 167 yX6_gcd wsX6_gcd) := goodIn_app (goodIn_of _ (by decide +kernel)) ggX6_part_X6_gcd
theorem dX6_part_0 : decode cX6_part 0 = .ok (.iload_n 0, 1) := by decide +kernel
theorem dX6_part_1 : decode cX6_part 1 = .ok (.iload_n 1, 1) := by decide +kernel
theorem dX6_part_2 : decode cX6_part 2 = .ok (.invokestatic 167, 3) := by decide +kernel
theorem dX6_part_5 : decode cX6_part 5 = .ok (.istore_n 3, 1) := by decide +kernel
theorem dX6_part_6 : decode cX6_part 6 = .ok (.iload_n 2, 1) := by decide +kernel
theorem dX6_part_7 : decode cX6_part 7 = .ok (.ifCond .ne 9, 3) := by decide +kernel
theorem dX6_part_10 : decode cX6_part 10 = .ok (.iload_n 0, 1) := by decide +kernel
theorem dX6_part_11 : decode cX6_part 11 = .ok (.iload_n 3, 1) := by decide +kernel
theorem dX6_part_12 : decode cX6_part 12 = .ok (.idiv, 1) := by decide +kernel
theorem dX6_part_13 : decode cX6_part 13 = .ok (.goto 6, 3) := by decide +kernel
theorem dX6_part_16 : decode cX6_part 16 = .ok (.iload_n 1, 1) := by decide +kernel
theorem dX6_part_17 : decode cX6_part 17 = .ok (.iload_n 3, 1) := by decide +kernel
theorem dX6_part_18 : decode cX6_part 18 = .ok (.idiv, 1) := by decide +kernel
theorem dX6_part_19 : decode cX6_part 19 = .ok (.ireturn, 1) := by decide +kernel
set_option maxRecDepth 20000 in
theorem ggX6_harm_X6_in : GoodIn wsX6_harm wsX6_in := goodIn_r _ [8] (by decide +kernel) (by decide +kernel)
set_option maxRecDepth 20000 in
theorem gX6_harm_X6_in : GoodIn wsX6_harm (va_wsS RX6 57 yX6_in wsX6_in) := goodIn_app (goodIn_of _ (by decide +kernel)) ggX6_harm_X6_in
set_option maxRecDepth 20000 in
theorem ggX6_harm_X6_harms : GoodIn wsX6_harm wsX6_harms := goodIn_r _ [12, 3, 4, 13, 14, 15, 7, 16, 17, 18, 19, 20, 21, 22, 23, 24, 25, 26, 27, 28, 29, 30, 31, 32, 33, 34, 35, 36, 43, 44, 45, 46, 47, 48, 49, 50, 51, 52, 53, 54, 55, 56, 57, 58, 59, 60, 61, 62, 63, 64, 65, 66, 67, 68] (by decide +kernel) (by decide +kernel)
set_option maxRecDepth 20000 in
theorem gX6_harm_X6_harms : GoodIn wsX6_harm (wsV RX6 170 RX6 yX6_harms wsX6_harms) := goodIn_app (goodIn_of _ (by decide +kernel)) ggX6_harm_X6_harms
set_option maxRecDepth 20000 in
theorem ggX6_harm_X6_part : GoodIn wsX6_harm wsX6_part := goodIn_r _ [39, 40, 41, 7, 42] (by decide +kernel) (by decide +kernel)
set_option maxRecDepth 20000 in
theorem gX6_harm_X6_part : GoodIn wsX6_harm (va_wsS RX6 174 yX6_part wsX6_part) := goodIn_app (goodIn_of _ (by decide +kernel)) ggX6_harm_X6_part
theorem dX6_harm_0 : decode cX6_harm 0 = .ok (.aload_n 0, 1) := by decide +kernel
theorem dX6_harm_1 : decode cX6_harm 1 = .ok (.iconst 0, 1) := by decide +kernel
theorem dX6_harm_2 : decode cX6_harm 2 = .ok (.putfield 53, 3) := by decide +kernel
theorem dX6_harm_5 : decode cX6_harm 5 = .ok (.iload_n 1, 1) := by decide +kernel
theorem dX6_harm_6 : decode cX6_harm 6 = .ok (.iconst 0, 1) := by decide +kernel
theorem dX6_harm_7 : decode cX6_harm 7 = .ok (.iconst 1, 1) := by decide +kernel
theorem dX6_harm_8 : decode cX6_harm 8 = .ok (.invokestatic 57, 3) := by decide +kernel
theorem dX6_harm_11 : decode cX6_harm 11 = .ok (.ifCond .ne 5, 3) := by decide +kernel
theorem dX6_harm_14 : decode cX6_harm 14 = .ok (.iconst (-1), 1) := by decide +kernel
theorem dX6_harm_15 : decode cX6_harm 15 = .ok (.ireturn, 1) := by decide +kernel
theorem dX6_harm_16 : decode cX6_harm 16 = .ok (.aload_n 0, 1) := by decide +kernel
theorem dX6_harm_17 : decode cX6_harm 17 = .ok (.aload_n 0, 1) := by decide +kernel
theorem dX6_harm_18 : decode cX6_harm 18 = .ok (.getfield 25, 3) := by decide +kernel
theorem dX6_harm_21 : decode cX6_harm 21 = .ok (.invokevirtual 170, 3) := by decide +kernel
theorem dX6_harm_24 : decode cX6_harm 24 = .ok (.aload_n 0, 1) := by decide +kernel
theorem dX6_harm_25 : decode cX6_harm 25 = .ok (.getfield 129, 3) := by decide +kernel
theorem dX6_harm_28 : decode cX6_harm 28 = .ok (.aload_n 0, 1) := by decide +kernel
theorem dX6_harm_29 : decode cX6_harm 29 = .ok (.getfield 135, 3) := by decide +kernel
theorem dX6_harm_32 : decode cX6_harm 32 = .ok (.iload_n 1, 1) := by decide +kernel
theorem dX6_harm_33 : decode cX6_harm 33 = .ok (.invokestatic 174, 3) := by decide +kernel
theorem dX6_harm_36 : decode cX6_harm 36 = .ok (.ireturn, 1) := by decide +kernel
set_option maxRecDepth 20000 in
theorem ggX6_odds_X6_isThing : GoodIn wsX6_odds wsX6_isThing := goodIn_r _ [8, 9, 10, 11, 7, 12, 36, 37, 38, 39, 40, 41, 42, 43, 44, 45, 46, 47, 48, 49, 50, 51, 52, 53, 54, 55, 56, 57, 58, 59, 60, 61] (by decide +kernel) (by decide +kernel)
set_option maxRecDepth 20000 in
theorem gX6_odds_X6_isThing : GoodIn wsX6_odds (wsV RX6 138 RX6 yX6_isThing wsX6_isThing) := goodIn_app (goodIn_of _ (by decide +kernel)) ggX6_odds_X6_isThing
set_option maxRecDepth 20000 in
theorem ggX6_odds_X6_in : GoodIn wsX6_odds wsX6_in := goodIn_r _ [12] (by decide +kernel) (by decide +kernel)
set_option maxRecDepth 20000 in
theorem gX6_odds_X6_in : GoodIn wsX6_odds (va_wsS RX6 57 yX6_in wsX6_in) := goodIn_app (goodIn_of _ (by decide +kernel)) ggX6_odds_X6_in
set_option maxRecDepth 20000 in
theorem ggX6_odds_X6_comers : GoodIn wsX6_odds wsX6_comers := goodIn_r _ [16, 9, 3, 17, 18, 19, 7, 20, 21, 22, 23, 24, 25, 36, 37, 38, 39, 40, 41, 42, 43, 44, 45, 46, 47, 48, 49, 50, 51, 52, 53, 54, 55, 56, 57, 58, 59, 60, 61] (by decide +kernel) (by decide +kernel)
set_option maxRecDepth 20000 in
theorem gX6_odds_X6_comers : GoodIn wsX6_odds (wsV RX6 122 RX6 yX6_comers wsX6_comers) := goodIn_app (goodIn_of _ (by decide +kernel)) ggX6_odds_X6_comers
set_option maxRecDepth 20000 in
theorem ggX6_odds_X6_eagerOf : GoodIn wsX6_odds wsX6_eagerOf := goodIn_r _ [29, 9, 3, 36, 37, 38, 39, 40, 41, 42, 43, 44, 45, 46, 47, 48, 49, 50, 51, 52, 53, 54, 55, 56, 57, 58, 59, 60, 61] (by decide +kernel) (by decide +kernel)
set_option maxRecDepth 20000 in
theorem gX6_odds_X6_eagerOf : GoodIn wsX6_odds (wsV RX6 132 RX6 yX6_eagerOf wsX6_eagerOf) := goodIn_app (goodIn_of _ (by decide +kernel)) ggX6_odds_X6_eagerOf
set_option maxRecDepth 20000 in
theorem ggX6_odds_X6_part : GoodIn wsX6_odds wsX6_part := goodIn_r _ [32, 33, 34, 7, 35] (by decide +kernel) (by decide +kernel)
set_option maxRecDepth 20000 in
theorem gX6_odds_X6_part : GoodIn wsX6_odds (va_wsS RX6 174 yX6_part wsX6_part) := goodIn_app (goodIn_of _ (by decide +kernel)) ggX6_odds_X6_part
theorem dX6_odds_0 : decode cX6_odds 0 = .ok (.aload_n 0, 1) := by decide +kernel
theorem dX6_odds_1 : decode cX6_odds 1 = .ok (.iconst 0, 1) := by decide +kernel
theorem dX6_odds_2 : decode cX6_odds 2 = .ok (.putfield 53, 3) := by decide +kernel
theorem dX6_odds_5 : decode cX6_odds 5 = .ok (.aload_n 0, 1) := by decide +kernel
theorem dX6_odds_6 : decode cX6_odds 6 = .ok (.iload_n 1, 1) := by decide +kernel
theorem dX6_odds_7 : decode cX6_odds 7 = .ok (.invokevirtual 138, 3) := by decide +kernel
theorem dX6_odds_10 : decode cX6_odds 10 = .ok (.ifCond .eq 12, 3) := by decide +kernel
theorem dX6_odds_13 : decode cX6_odds 13 = .ok (.iload_n 2, 1) := by decide +kernel
theorem dX6_odds_14 : decode cX6_odds 14 = .ok (.iconst 0, 1) := by decide +kernel
theorem dX6_odds_15 : decode cX6_odds 15 = .ok (.iconst 1, 1) := by decide +kernel
theorem dX6_odds_16 : decode cX6_odds 16 = .ok (.invokestatic 57, 3) := by decide +kernel
theorem dX6_odds_19 : decode cX6_odds 19 = .ok (.ifCond .ne 5, 3) := by decide +kernel
theorem dX6_odds_22 : decode cX6_odds 22 = .ok (.iconst (-1), 1) := by decide +kernel
theorem dX6_odds_23 : decode cX6_odds 23 = .ok (.ireturn, 1) := by decide +kernel
theorem dX6_odds_24 : decode cX6_odds 24 = .ok (.aload_n 0, 1) := by decide +kernel
theorem dX6_odds_25 : decode cX6_odds 25 = .ok (.aload_n 0, 1) := by decide +kernel
theorem dX6_odds_26 : decode cX6_odds 26 = .ok (.getfield 25, 3) := by decide +kernel
theorem dX6_odds_29 : decode cX6_odds 29 = .ok (.invokevirtual 122, 3) := by decide +kernel
theorem dX6_odds_32 : decode cX6_odds 32 = .ok (.iload_n 1, 1) := by decide +kernel
theorem dX6_odds_33 : decode cX6_odds 33 = .ok (.ishr, 1) := by decide +kernel
theorem dX6_odds_34 : decode cX6_odds 34 = .ok (.iconst 1, 1) := by decide +kernel
theorem dX6_odds_35 : decode cX6_odds 35 = .ok (.iand, 1) := by decide +kernel
theorem dX6_odds_36 : decode cX6_odds 36 = .ok (.iconst 1, 1) := by decide +kernel
theorem dX6_odds_37 : decode cX6_odds 37 = .ok (.if_icmp .ne 7, 3) := by decide +kernel
theorem dX6_odds_40 : decode cX6_odds 40 = .ok (.iconst 1, 1) := by decide +kernel
theorem dX6_odds_41 : decode cX6_odds 41 = .ok (.goto 4, 3) := by decide +kernel
theorem dX6_odds_44 : decode cX6_odds 44 = .ok (.iconst 0, 1) := by decide +kernel
theorem dX6_odds_45 : decode cX6_odds 45 = .ok (.istore_n 3, 1) := by decide +kernel
theorem dX6_odds_46 : decode cX6_odds 46 = .ok (.iload_n 3, 1) := by decide +kernel
theorem dX6_odds_47 : decode cX6_odds 47 = .ok (.ifCond .eq 28, 3) := by decide +kernel
theorem dX6_odds_50 : decode cX6_odds 50 = .ok (.aload_n 0, 1) := by decide +kernel
theorem dX6_odds_51 : decode cX6_odds 51 = .ok (.getfield 22, 3) := by decide +kernel
theorem dX6_odds_54 : decode cX6_odds 54 = .ok (.iload_n 1, 1) := by decide +kernel
theorem dX6_odds_55 : decode cX6_odds 55 = .ok (.iaload, 1) := by decide +kernel
theorem dX6_odds_56 : decode cX6_odds 56 = .ok (.aload_n 0, 1) := by decide +kernel
theorem dX6_odds_57 : decode cX6_odds 57 = .ok (.aload_n 0, 1) := by decide +kernel
theorem dX6_odds_58 : decode cX6_odds 58 = .ok (.aload_n 0, 1) := by decide +kernel
theorem dX6_odds_59 : decode cX6_odds 59 = .ok (.getfield 25, 3) := by decide +kernel
theorem dX6_odds_62 : decode cX6_odds 62 = .ok (.invokevirtual 122, 3) := by decide +kernel
theorem dX6_odds_65 : decode cX6_odds 65 = .ok (.invokevirtual 132, 3) := by decide +kernel
theorem dX6_odds_68 : decode cX6_odds 68 = .ok (.iload_n 2, 1) := by decide +kernel
theorem dX6_odds_69 : decode cX6_odds 69 = .ok (.invokestatic 174, 3) := by decide +kernel
theorem dX6_odds_72 : decode cX6_odds 72 = .ok (.goto 4, 3) := by decide +kernel
theorem dX6_odds_75 : decode cX6_odds 75 = .ok (.iload_n 2, 1) := by decide +kernel
theorem dX6_odds_76 : decode cX6_odds 76 = .ok (.ireturn, 1) := by decide +kernel
set_option maxRecDepth 20000 in
theorem ggX6_swear_X6_in : GoodIn wsX6_swear wsX6_in := goodIn_r _ [10] (by decide +kernel) (by decide +kernel)
set_option maxRecDepth 20000 in
theorem gX6_swear_X6_in : GoodIn wsX6_swear (va_wsS RX6 57 yX6_in wsX6_in) := goodIn_app (goodIn_of _ (by decide +kernel)) ggX6_swear_X6_in
set_option maxRecDepth 20000 in
theorem ggX6_swear_X6_harms : GoodIn wsX6_swear wsX6_harms := goodIn_r _ [14, 6, 5, 15, 16, 17, 9, 18, 4, 19, 20, 21, 22, 23, 24, 25, 26, 27, 28, 29, 30, 31, 32, 33, 34, 35, 36, 37, 44, 45, 46, 47, 48, 49, 50, 51, 52, 53, 54, 55, 56, 57, 58, 59, 60, 61, 62, 63, 64, 65, 66, 67, 68, 69] (by decide +kernel) (by decide +kernel)
set_option maxRecDepth 20000 in
theorem gX6_swear_X6_harms : GoodIn wsX6_swear (wsV RX6 170 RX6 yX6_harms wsX6_harms) := goodIn_app (goodIn_of _ (by decide +kernel)) ggX6_swear_X6_harms
set_option maxRecDepth 20000 in
theorem ggX6_swear_X6_part : GoodIn wsX6_swear wsX6_part := goodIn_r _ [40, 41, 42, 9, 43] (by decide +kernel) (by decide +kernel)
set_option maxRecDepth 20000 in
theorem gX6_swear_X6_part : GoodIn wsX6_swear (va_wsS RX6 174 yX6_part wsX6_part) := goodIn_app (goodIn_of _ (by decide +kernel)) ggX6_swear_X6_part
theorem dX6_swear_0 : decode cX6_swear 0 = .ok (.aload_n 0, 1) := by decide +kernel
theorem dX6_swear_1 : decode cX6_swear 1 = .ok (.iconst 0, 1) := by decide +kernel
theorem dX6_swear_2 : decode cX6_swear 2 = .ok (.putfield 53, 3) := by decide +kernel
theorem dX6_swear_5 : decode cX6_swear 5 = .ok (.iload_n 1, 1) := by decide +kernel
theorem dX6_swear_6 : decode cX6_swear 6 = .ok (.iconst 0, 1) := by decide +kernel
theorem dX6_swear_7 : decode cX6_swear 7 = .ok (.iconst 1, 1) := by decide +kernel
theorem dX6_swear_8 : decode cX6_swear 8 = .ok (.invokestatic 57, 3) := by decide +kernel
theorem dX6_swear_11 : decode cX6_swear 11 = .ok (.ifCond .ne 6, 3) := by decide +kernel
theorem dX6_swear_14 : decode cX6_swear 14 = .ok (.ldc 177, 2) := by decide +kernel
theorem dX6_swear_16 : decode cX6_swear 16 = .ok (.ireturn, 1) := by decide +kernel
theorem dX6_swear_17 : decode cX6_swear 17 = .ok (.aload_n 0, 1) := by decide +kernel
theorem dX6_swear_18 : decode cX6_swear 18 = .ok (.aload_n 0, 1) := by decide +kernel
theorem dX6_swear_19 : decode cX6_swear 19 = .ok (.getfield 25, 3) := by decide +kernel
theorem dX6_swear_22 : decode cX6_swear 22 = .ok (.invokevirtual 170, 3) := by decide +kernel
theorem dX6_swear_25 : decode cX6_swear 25 = .ok (.aload_n 0, 1) := by decide +kernel
theorem dX6_swear_26 : decode cX6_swear 26 = .ok (.getfield 13, 3) := by decide +kernel
theorem dX6_swear_29 : decode cX6_swear 29 = .ok (.iconst 2, 1) := by decide +kernel
theorem dX6_swear_30 : decode cX6_swear 30 = .ok (.iaload, 1) := by decide +kernel
theorem dX6_swear_31 : decode cX6_swear 31 = .ok (.aload_n 0, 1) := by decide +kernel
theorem dX6_swear_32 : decode cX6_swear 32 = .ok (.getfield 13, 3) := by decide +kernel
theorem dX6_swear_35 : decode cX6_swear 35 = .ok (.iconst 3, 1) := by decide +kernel
theorem dX6_swear_36 : decode cX6_swear 36 = .ok (.iaload, 1) := by decide +kernel
theorem dX6_swear_37 : decode cX6_swear 37 = .ok (.imul, 1) := by decide +kernel
theorem dX6_swear_38 : decode cX6_swear 38 = .ok (.aload_n 0, 1) := by decide +kernel
theorem dX6_swear_39 : decode cX6_swear 39 = .ok (.getfield 135, 3) := by decide +kernel
theorem dX6_swear_42 : decode cX6_swear 42 = .ok (.imul, 1) := by decide +kernel
theorem dX6_swear_43 : decode cX6_swear 43 = .ok (.aload_n 0, 1) := by decide +kernel
theorem dX6_swear_44 : decode cX6_swear 44 = .ok (.getfield 13, 3) := by decide +kernel
theorem dX6_swear_47 : decode cX6_swear 47 = .ok (.iconst 1, 1) := by decide +kernel
theorem dX6_swear_48 : decode cX6_swear 48 = .ok (.iaload, 1) := by decide +kernel
theorem dX6_swear_49 : decode cX6_swear 49 = .ok (.aload_n 0, 1) := by decide +kernel
theorem dX6_swear_50 : decode cX6_swear 50 = .ok (.getfield 13, 3) := by decide +kernel
theorem dX6_swear_53 : decode cX6_swear 53 = .ok (.iconst 2, 1) := by decide +kernel
theorem dX6_swear_54 : decode cX6_swear 54 = .ok (.iaload, 1) := by decide +kernel
theorem dX6_swear_55 : decode cX6_swear 55 = .ok (.iadd, 1) := by decide +kernel
theorem dX6_swear_56 : decode cX6_swear 56 = .ok (.aload_n 0, 1) := by decide +kernel
theorem dX6_swear_57 : decode cX6_swear 57 = .ok (.getfield 129, 3) := by decide +kernel
theorem dX6_swear_60 : decode cX6_swear 60 = .ok (.imul, 1) := by decide +kernel
theorem dX6_swear_61 : decode cX6_swear 61 = .ok (.isub, 1) := by decide +kernel
theorem dX6_swear_62 : decode cX6_swear 62 = .ok (.istore_n 2, 1) := by decide +kernel
theorem dX6_swear_63 : decode cX6_swear 63 = .ok (.iload_n 2, 1) := by decide +kernel
theorem dX6_swear_64 : decode cX6_swear 64 = .ok (.bipush 10, 2) := by decide +kernel
theorem dX6_swear_66 : decode cX6_swear 66 = .ok (.aload_n 0, 1) := by decide +kernel
theorem dX6_swear_67 : decode cX6_swear 67 = .ok (.getfield 135, 3) := by decide +kernel
theorem dX6_swear_70 : decode cX6_swear 70 = .ok (.imul, 1) := by decide +kernel
theorem dX6_swear_71 : decode cX6_swear 71 = .ok (.iload_n 1, 1) := by decide +kernel
theorem dX6_swear_72 : decode cX6_swear 72 = .ok (.invokestatic 174, 3) := by decide +kernel
theorem dX6_swear_75 : decode cX6_swear 75 = .ok (.ireturn, 1) := by decide +kernel
set_option maxRecDepth 20000 in
theorem ggX6_sense_X6_in : GoodIn wsX6_sense wsX6_in := goodIn_r _ [8] (by decide +kernel) (by decide +kernel)
set_option maxRecDepth 20000 in
theorem gX6_sense_X6_in : GoodIn wsX6_sense (va_wsS RX6 57 yX6_in wsX6_in) := goodIn_app (goodIn_of _ (by decide +kernel)) ggX6_sense_X6_in
set_option maxRecDepth 20000 in
theorem ggX6_sense_X6_ones : GoodIn wsX6_sense wsX6_ones := goodIn_r _ [11] (by decide +kernel) (by decide +kernel)
set_option maxRecDepth 20000 in
theorem gX6_sense_X6_ones : GoodIn wsX6_sense (va_wsS RX6 145 yX6_ones wsX6_ones) := goodIn_app (goodIn_of _ (by decide +kernel)) ggX6_sense_X6_ones
theorem dX6_sense_0 : decode cX6_sense 0 = .ok (.aload_n 0, 1) := by decide +kernel
theorem dX6_sense_1 : decode cX6_sense 1 = .ok (.iconst 0, 1) := by decide +kernel
theorem dX6_sense_2 : decode cX6_sense 2 = .ok (.putfield 53, 3) := by decide +kernel
theorem dX6_sense_5 : decode cX6_sense 5 = .ok (.iload_n 1, 1) := by decide +kernel
theorem dX6_sense_6 : decode cX6_sense 6 = .ok (.iconst 0, 1) := by decide +kernel
theorem dX6_sense_7 : decode cX6_sense 7 = .ok (.iconst 5, 1) := by decide +kernel
theorem dX6_sense_8 : decode cX6_sense 8 = .ok (.invokestatic 57, 3) := by decide +kernel
theorem dX6_sense_11 : decode cX6_sense 11 = .ok (.ifCond .ne 5, 3) := by decide +kernel
theorem dX6_sense_14 : decode cX6_sense 14 = .ok (.iconst (-1), 1) := by decide +kernel
theorem dX6_sense_15 : decode cX6_sense 15 = .ok (.ireturn, 1) := by decide +kernel
theorem dX6_sense_16 : decode cX6_sense 16 = .ok (.iconst 0, 1) := by decide +kernel
theorem dX6_sense_17 : decode cX6_sense 17 = .ok (.istore_n 2, 1) := by decide +kernel
theorem dX6_sense_18 : decode cX6_sense 18 = .ok (.iconst 0, 1) := by decide +kernel
theorem dX6_sense_19 : decode cX6_sense 19 = .ok (.istore_n 3, 1) := by decide +kernel
theorem dX6_sense_20 : decode cX6_sense 20 = .ok (.iload_n 3, 1) := by decide +kernel
theorem dX6_sense_21 : decode cX6_sense 21 = .ok (.aload_n 0, 1) := by decide +kernel
theorem dX6_sense_22 : decode cX6_sense 22 = .ok (.getfield 13, 3) := by decide +kernel
theorem dX6_sense_25 : decode cX6_sense 25 = .ok (.iconst 0, 1) := by decide +kernel
theorem dX6_sense_26 : decode cX6_sense 26 = .ok (.iaload, 1) := by decide +kernel
theorem dX6_sense_27 : decode cX6_sense 27 = .ok (.if_icmp .ge 39, 3) := by decide +kernel
theorem dX6_sense_30 : decode cX6_sense 30 = .ok (.iload_n 2, 1) := by decide +kernel
theorem dX6_sense_31 : decode cX6_sense 31 = .ok (.aload_n 0, 1) := by decide +kernel
theorem dX6_sense_32 : decode cX6_sense 32 = .ok (.getfield 16, 3) := by decide +kernel
theorem dX6_sense_35 : decode cX6_sense 35 = .ok (.iload_n 3, 1) := by decide +kernel
theorem dX6_sense_36 : decode cX6_sense 36 = .ok (.iaload, 1) := by decide +kernel
theorem dX6_sense_37 : decode cX6_sense 37 = .ok (.aload_n 0, 1) := by decide +kernel
theorem dX6_sense_38 : decode cX6_sense 38 = .ok (.getfield 25, 3) := by decide +kernel
theorem dX6_sense_41 : decode cX6_sense 41 = .ok (.iconst 1, 1) := by decide +kernel
theorem dX6_sense_42 : decode cX6_sense 42 = .ok (.iaload, 1) := by decide +kernel
theorem dX6_sense_43 : decode cX6_sense 43 = .ok (.iand, 1) := by decide +kernel
theorem dX6_sense_44 : decode cX6_sense 44 = .ok (.invokestatic 145, 3) := by decide +kernel
theorem dX6_sense_47 : decode cX6_sense 47 = .ok (.iload_n 1, 1) := by decide +kernel
theorem dX6_sense_48 : decode cX6_sense 48 = .ok (.if_icmp .lt 9, 3) := by decide +kernel
theorem dX6_sense_51 : decode cX6_sense 51 = .ok (.iconst 1, 1) := by decide +kernel
theorem dX6_sense_52 : decode cX6_sense 52 = .ok (.iload_n 3, 1) := by decide +kernel
theorem dX6_sense_53 : decode cX6_sense 53 = .ok (.ishl, 1) := by decide +kernel
theorem dX6_sense_54 : decode cX6_sense 54 = .ok (.goto 4, 3) := by decide +kernel
theorem dX6_sense_57 : decode cX6_sense 57 = .ok (.iconst 0, 1) := by decide +kernel
theorem dX6_sense_58 : decode cX6_sense 58 = .ok (.ior, 1) := by decide +kernel
theorem dX6_sense_59 : decode cX6_sense 59 = .ok (.istore_n 2, 1) := by decide +kernel
theorem dX6_sense_60 : decode cX6_sense 60 = .ok (.iinc 3 1, 3) := by decide +kernel
theorem dX6_sense_63 : decode cX6_sense 63 = .ok (.goto (-43), 3) := by decide +kernel
theorem dX6_sense_66 : decode cX6_sense 66 = .ok (.iload_n 2, 1) := by decide +kernel
theorem dX6_sense_67 : decode cX6_sense 67 = .ok (.aload_n 0, 1) := by decide +kernel
theorem dX6_sense_68 : decode cX6_sense 68 = .ok (.getfield 25, 3) := by decide +kernel
theorem dX6_sense_71 : decode cX6_sense 71 = .ok (.iconst 4, 1) := by decide +kernel
theorem dX6_sense_72 : decode cX6_sense 72 = .ok (.iaload, 1) := by decide +kernel
theorem dX6_sense_73 : decode cX6_sense 73 = .ok (.iconst (-1), 1) := by decide +kernel
theorem dX6_sense_74 : decode cX6_sense 74 = .ok (.ixor, 1) := by decide +kernel
theorem dX6_sense_75 : decode cX6_sense 75 = .ok (.iand, 1) := by decide +kernel
theorem dX6_sense_76 : decode cX6_sense 76 = .ok (.ireturn, 1) := by decide +kernel
theorem dX6_asNow_0 : decode cX6_asNow 0 = .ok (.iconst 0, 1) := by decide +kernel
theorem dX6_asNow_1 : decode cX6_asNow 1 = .ok (.istore_n 1, 1) := by decide +kernel
theorem dX6_asNow_2 : decode cX6_asNow 2 = .ok (.iload_n 1, 1) := by decide +kernel
theorem dX6_asNow_3 : decode cX6_asNow 3 = .ok (.iconst 5, 1) := by decide +kernel
theorem dX6_asNow_4 : decode cX6_asNow 4 = .ok (.if_icmp .ge 21, 3) := by decide +kernel
theorem dX6_asNow_7 : decode cX6_asNow 7 = .ok (.aload_n 0, 1) := by decide +kernel
theorem dX6_asNow_8 : decode cX6_asNow 8 = .ok (.getfield 28, 3) := by decide +kernel
theorem dX6_asNow_11 : decode cX6_asNow 11 = .ok (.iload_n 1, 1) := by decide +kernel
theorem dX6_asNow_12 : decode cX6_asNow 12 = .ok (.aload_n 0, 1) := by decide +kernel
theorem dX6_asNow_13 : decode cX6_asNow 13 = .ok (.getfield 25, 3) := by decide +kernel
theorem dX6_asNow_16 : decode cX6_asNow 16 = .ok (.iload_n 1, 1) := by decide +kernel
theorem dX6_asNow_17 : decode cX6_asNow 17 = .ok (.iaload, 1) := by decide +kernel
theorem dX6_asNow_18 : decode cX6_asNow 18 = .ok (.iastore, 1) := by decide +kernel
theorem dX6_asNow_19 : decode cX6_asNow 19 = .ok (.iinc 1 1, 3) := by decide +kernel
theorem dX6_asNow_22 : decode cX6_asNow 22 = .ok (.goto (-20), 3) := by decide +kernel
theorem dX6_asNow_25 : decode cX6_asNow 25 = .ok (.return_, 1) := by decide +kernel
set_option maxRecDepth 20000 in
theorem ggX6_both_X6_in : GoodIn wsX6_both wsX6_in := goodIn_r _ [7] (by decide +kernel) (by decide +kernel)
set_option maxRecDepth 20000 in
theorem gX6_both_X6_in : GoodIn wsX6_both (va_wsS RX6 57 yX6_in wsX6_in) := goodIn_app (goodIn_of _ (by decide +kernel)) ggX6_both_X6_in
set_option maxRecDepth 20000 in
theorem ggX6_both_X6_asNow : GoodIn wsX6_both wsX6_asNow := goodIn_r _ [11, 2, 3, 22, 23, 24, 25, 26, 27, 28, 29, 30, 31, 32, 33, 34, 35, 36, 37, 38, 39, 40, 41, 42, 43, 44, 45, 46, 47] (by decide +kernel) (by decide +kernel)
set_option maxRecDepth 20000 in
theorem gX6_both_X6_asNow : GoodIn wsX6_both (wsV RX6 178 RX6 yX6_asNow wsX6_asNow) := goodIn_app (goodIn_of _ (by decide +kernel)) ggX6_both_X6_asNow
set_option maxRecDepth 20000 in
theorem ggX6_both_X6_covered : GoodIn wsX6_both wsX6_covered := goodIn_r _ [15, 16, 17, 18, 19, 6, 20, 21, 22, 23, 24, 25, 26, 27, 28, 29, 30, 31, 32, 33, 34, 35, 36, 37, 38, 39, 40, 41, 42, 43, 44, 45, 46, 47] (by decide +kernel) (by decide +kernel)
set_option maxRecDepth 20000 in
theorem gX6_both_X6_covered : GoodIn wsX6_both (wsV RX6 118 RX6 yX6_covered wsX6_covered) := goodIn_app (goodIn_of _ (by decide +kernel)) ggX6_both_X6_covered
theorem dX6_both_0 : decode cX6_both 0 = .ok (.aload_n 0, 1) := by decide +kernel
theorem dX6_both_1 : decode cX6_both 1 = .ok (.iconst 0, 1) := by decide +kernel
theorem dX6_both_2 : decode cX6_both 2 = .ok (.putfield 53, 3) := by decide +kernel
theorem dX6_both_5 : decode cX6_both 5 = .ok (.iload_n 1, 1) := by decide +kernel
theorem dX6_both_6 : decode cX6_both 6 = .ok (.iconst 0, 1) := by decide +kernel
theorem dX6_both_7 : decode cX6_both 7 = .ok (.bipush 31, 2) := by decide +kernel
theorem dX6_both_9 : decode cX6_both 9 = .ok (.invokestatic 57, 3) := by decide +kernel
theorem dX6_both_12 : decode cX6_both 12 = .ok (.ifCond .ne 5, 3) := by decide +kernel
theorem dX6_both_15 : decode cX6_both 15 = .ok (.iconst (-1), 1) := by decide +kernel
theorem dX6_both_16 : decode cX6_both 16 = .ok (.ireturn, 1) := by decide +kernel
theorem dX6_both_17 : decode cX6_both 17 = .ok (.aload_n 0, 1) := by decide +kernel
theorem dX6_both_18 : decode cX6_both 18 = .ok (.invokevirtual 178, 3) := by decide +kernel
theorem dX6_both_21 : decode cX6_both 21 = .ok (.aload_n 0, 1) := by decide +kernel
theorem dX6_both_22 : decode cX6_both 22 = .ok (.getfield 28, 3) := by decide +kernel
theorem dX6_both_25 : decode cX6_both 25 = .ok (.iconst 1, 1) := by decide +kernel
theorem dX6_both_26 : decode cX6_both 26 = .ok (.iload_n 1, 1) := by decide +kernel
theorem dX6_both_27 : decode cX6_both 27 = .ok (.iastore, 1) := by decide +kernel
theorem dX6_both_28 : decode cX6_both 28 = .ok (.aload_n 0, 1) := by decide +kernel
theorem dX6_both_29 : decode cX6_both 29 = .ok (.aload_n 0, 1) := by decide +kernel
theorem dX6_both_30 : decode cX6_both 30 = .ok (.getfield 25, 3) := by decide +kernel
theorem dX6_both_33 : decode cX6_both 33 = .ok (.invokevirtual 118, 3) := by decide +kernel
theorem dX6_both_36 : decode cX6_both 36 = .ok (.aload_n 0, 1) := by decide +kernel
theorem dX6_both_37 : decode cX6_both 37 = .ok (.aload_n 0, 1) := by decide +kernel
theorem dX6_both_38 : decode cX6_both 38 = .ok (.getfield 28, 3) := by decide +kernel
theorem dX6_both_41 : decode cX6_both 41 = .ok (.invokevirtual 118, 3) := by decide +kernel
theorem dX6_both_44 : decode cX6_both 44 = .ok (.iand, 1) := by decide +kernel
theorem dX6_both_45 : decode cX6_both 45 = .ok (.ireturn, 1) := by decide +kernel
set_option maxRecDepth 20000 in
theorem ggX6_means_X6_everything : GoodIn wsX6_means wsX6_everything := goodIn_r _ [7, 8, 34, 35, 36, 37, 38, 39, 40, 41, 42, 43, 44, 45, 46, 47, 48, 49, 50, 51, 52, 53, 54, 55, 56, 57, 58, 59] (by decide +kernel) (by decide +kernel)
set_option maxRecDepth 20000 in
theorem gX6_means_X6_everything : GoodIn wsX6_means (wsV RX6 181 RX6 yX6_everything wsX6_everything) := goodIn_app (goodIn_of _ (by decide +kernel)) ggX6_means_X6_everything
set_option maxRecDepth 20000 in
theorem ggX6_means_X6_in : GoodIn wsX6_means wsX6_in := goodIn_r _ [11] (by decide +kernel) (by decide +kernel)
set_option maxRecDepth 20000 in
theorem gX6_means_X6_in : GoodIn wsX6_means (va_wsS RX6 57 yX6_in wsX6_in) := goodIn_app (goodIn_of _ (by decide +kernel)) ggX6_means_X6_in
set_option maxRecDepth 20000 in
theorem ggX6_means_X6_asNow : GoodIn wsX6_means wsX6_asNow := goodIn_r _ [15, 2, 16, 34, 35, 36, 37, 38, 39, 40, 41, 42, 43, 44, 45, 46, 47, 48, 49, 50, 51, 52, 53, 54, 55, 56, 57, 58, 59] (by decide +kernel) (by decide +kernel)
set_option maxRecDepth 20000 in
theorem gX6_means_X6_asNow : GoodIn wsX6_means (wsV RX6 178 RX6 yX6_asNow wsX6_asNow) := goodIn_app (goodIn_of _ (by decide +kernel)) ggX6_means_X6_asNow
set_option maxRecDepth 20000 in
theorem ggX6_means_X6_comers : GoodIn wsX6_means wsX6_comers := goodIn_r _ [20, 8, 21, 22, 23, 24, 6, 25, 26, 27, 28, 29, 30, 34, 35, 36, 37, 38, 39, 40, 41, 42, 43, 44, 45, 46, 47, 48, 49, 50, 51, 52, 53, 54, 55, 56, 57, 58, 59] (by decide +kernel) (by decide +kernel)
set_option maxRecDepth 20000 in
theorem gX6_means_X6_comers : GoodIn wsX6_means (wsV RX6 122 RX6 yX6_comers wsX6_comers) := goodIn_app (goodIn_of _ (by decide +kernel)) ggX6_means_X6_comers
set_option maxRecDepth 20000 in
theorem ggX6_means_X6_covered : GoodIn wsX6_means wsX6_covered := goodIn_r _ [25, 8, 26, 27, 28, 6, 29, 30, 34, 35, 36, 37, 38, 39, 40, 41, 42, 43, 44, 45, 46, 47, 48, 49, 50, 51, 52, 53, 54, 55, 56, 57, 58, 59] (by decide +kernel) (by decide +kernel)
set_option maxRecDepth 20000 in
theorem gX6_means_X6_covered : GoodIn wsX6_means (wsV RX6 118 RX6 yX6_covered wsX6_covered) := goodIn_app (goodIn_of _ (by decide +kernel)) ggX6_means_X6_covered
set_option maxRecDepth 20000 in
theorem ggX6_means_X6_ones : GoodIn wsX6_means wsX6_ones := goodIn_r _ [33] (by decide +kernel) (by decide +kernel)
set_option maxRecDepth 20000 in
theorem gX6_means_X6_ones : GoodIn wsX6_means (va_wsS RX6 145 yX6_ones wsX6_ones) := goodIn_app (goodIn_of _ (by decide +kernel)) ggX6_means_X6_ones
theorem dX6_means_0 : decode cX6_means 0 = .ok (.aload_n 0, 1) := by decide +kernel
theorem dX6_means_1 : decode cX6_means 1 = .ok (.iconst 0, 1) := by decide +kernel
theorem dX6_means_2 : decode cX6_means 2 = .ok (.putfield 53, 3) := by decide +kernel
theorem dX6_means_5 : decode cX6_means 5 = .ok (.iload_n 1, 1) := by decide +kernel
theorem dX6_means_6 : decode cX6_means 6 = .ok (.iconst 0, 1) := by decide +kernel
theorem dX6_means_7 : decode cX6_means 7 = .ok (.aload_n 0, 1) := by decide +kernel
theorem dX6_means_8 : decode cX6_means 8 = .ok (.invokevirtual 181, 3) := by decide +kernel
theorem dX6_means_11 : decode cX6_means 11 = .ok (.invokestatic 57, 3) := by decide +kernel
theorem dX6_means_14 : decode cX6_means 14 = .ok (.ifCond .ne 5, 3) := by decide +kernel
theorem dX6_means_17 : decode cX6_means 17 = .ok (.iconst (-1), 1) := by decide +kernel
theorem dX6_means_18 : decode cX6_means 18 = .ok (.ireturn, 1) := by decide +kernel
theorem dX6_means_19 : decode cX6_means 19 = .ok (.aload_n 0, 1) := by decide +kernel
theorem dX6_means_20 : decode cX6_means 20 = .ok (.invokevirtual 178, 3) := by decide +kernel
theorem dX6_means_23 : decode cX6_means 23 = .ok (.bipush (-9), 2) := by decide +kernel
theorem dX6_means_25 : decode cX6_means 25 = .ok (.istore_n 2, 1) := by decide +kernel
theorem dX6_means_26 : decode cX6_means 26 = .ok (.iconst 0, 1) := by decide +kernel
theorem dX6_means_27 : decode cX6_means 27 = .ok (.istore_n 3, 1) := by decide +kernel
theorem dX6_means_28 : decode cX6_means 28 = .ok (.iload_n 3, 1) := by decide +kernel
theorem dX6_means_29 : decode cX6_means 29 = .ok (.bipush 32, 2) := by decide +kernel
theorem dX6_means_31 : decode cX6_means 31 = .ok (.if_icmp .ge 84, 3) := by decide +kernel
theorem dX6_means_34 : decode cX6_means 34 = .ok (.aload_n 0, 1) := by decide +kernel
theorem dX6_means_35 : decode cX6_means 35 = .ok (.getfield 28, 3) := by decide +kernel
theorem dX6_means_38 : decode cX6_means 38 = .ok (.iconst 1, 1) := by decide +kernel
theorem dX6_means_39 : decode cX6_means 39 = .ok (.iload_n 3, 1) := by decide +kernel
theorem dX6_means_40 : decode cX6_means 40 = .ok (.iastore, 1) := by decide +kernel
theorem dX6_means_41 : decode cX6_means 41 = .ok (.aload_n 0, 1) := by decide +kernel
theorem dX6_means_42 : decode cX6_means 42 = .ok (.aload_n 0, 1) := by decide +kernel
theorem dX6_means_43 : decode cX6_means 43 = .ok (.getfield 28, 3) := by decide +kernel
theorem dX6_means_46 : decode cX6_means 46 = .ok (.invokevirtual 122, 3) := by decide +kernel
theorem dX6_means_49 : decode cX6_means 49 = .ok (.aload_n 0, 1) := by decide +kernel
theorem dX6_means_50 : decode cX6_means 50 = .ok (.aload_n 0, 1) := by decide +kernel
theorem dX6_means_51 : decode cX6_means 51 = .ok (.getfield 28, 3) := by decide +kernel
theorem dX6_means_54 : decode cX6_means 54 = .ok (.invokevirtual 118, 3) := by decide +kernel
theorem dX6_means_57 : decode cX6_means 57 = .ok (.iand, 1) := by decide +kernel
theorem dX6_means_58 : decode cX6_means 58 = .ok (.istore 4, 2) := by decide +kernel
theorem dX6_means_60 : decode cX6_means 60 = .ok (.iload 4, 2) := by decide +kernel
theorem dX6_means_62 : decode cX6_means 62 = .ok (.ifCond .eq 16, 3) := by decide +kernel
theorem dX6_means_65 : decode cX6_means 65 = .ok (.iload 4, 2) := by decide +kernel
theorem dX6_means_67 : decode cX6_means 67 = .ok (.iload_n 1, 1) := by decide +kernel
theorem dX6_means_68 : decode cX6_means 68 = .ok (.iconst (-1), 1) := by decide +kernel
theorem dX6_means_69 : decode cX6_means 69 = .ok (.ixor, 1) := by decide +kernel
theorem dX6_means_70 : decode cX6_means 70 = .ok (.iand, 1) := by decide +kernel
theorem dX6_means_71 : decode cX6_means 71 = .ok (.ifCond .ne 7, 3) := by decide +kernel
theorem dX6_means_74 : decode cX6_means 74 = .ok (.iconst 1, 1) := by decide +kernel
theorem dX6_means_75 : decode cX6_means 75 = .ok (.goto 4, 3) := by decide +kernel
theorem dX6_means_78 : decode cX6_means 78 = .ok (.iconst 0, 1) := by decide +kernel
theorem dX6_means_79 : decode cX6_means 79 = .ok (.istore 5, 2) := by decide +kernel
theorem dX6_means_81 : decode cX6_means 81 = .ok (.iload 5, 2) := by decide +kernel
theorem dX6_means_83 : decode cX6_means 83 = .ok (.ifCond .eq 24, 3) := by decide +kernel
theorem dX6_means_86 : decode cX6_means 86 = .ok (.iload_n 2, 1) := by decide +kernel
theorem dX6_means_87 : decode cX6_means 87 = .ok (.bipush (-9), 2) := by decide +kernel
theorem dX6_means_89 : decode cX6_means 89 = .ok (.if_icmp .eq 14, 3) := by decide +kernel
theorem dX6_means_92 : decode cX6_means 92 = .ok (.iload_n 3, 1) := by decide +kernel
theorem dX6_means_93 : decode cX6_means 93 = .ok (.invokestatic 145, 3) := by decide +kernel
theorem dX6_means_96 : decode cX6_means 96 = .ok (.iload_n 2, 1) := by decide +kernel
theorem dX6_means_97 : decode cX6_means 97 = .ok (.invokestatic 145, 3) := by decide +kernel
theorem dX6_means_100 : decode cX6_means 100 = .ok (.if_icmp .ge 7, 3) := by decide +kernel
theorem dX6_means_103 : decode cX6_means 103 = .ok (.iload_n 3, 1) := by decide +kernel
theorem dX6_means_104 : decode cX6_means 104 = .ok (.goto 4, 3) := by decide +kernel
theorem dX6_means_107 : decode cX6_means 107 = .ok (.iload_n 2, 1) := by decide +kernel
theorem dX6_means_108 : decode cX6_means 108 = .ok (.istore_n 2, 1) := by decide +kernel
theorem dX6_means_109 : decode cX6_means 109 = .ok (.iinc 3 1, 3) := by decide +kernel
theorem dX6_means_112 : decode cX6_means 112 = .ok (.goto (-84), 3) := by decide +kernel
theorem dX6_means_115 : decode cX6_means 115 = .ok (.iload_n 2, 1) := by decide +kernel
theorem dX6_means_116 : decode cX6_means 116 = .ok (.ireturn, 1) := by decide +kernel
set_option maxRecDepth 20000 in
theorem ggX6_span_X6_asNow : GoodIn wsX6_span wsX6_asNow := goodIn_r _ [7, 2, 8, 22, 23, 24, 25, 26, 27, 28, 29, 30, 31, 32, 33, 34, 35, 36, 37, 38, 39, 40, 41, 42, 43, 44, 45, 46, 47] (by decide +kernel) (by decide +kernel)
set_option maxRecDepth 20000 in
theorem gX6_span_X6_asNow : GoodIn wsX6_span (wsV RX6 178 RX6 yX6_asNow wsX6_asNow) := goodIn_app (goodIn_of _ (by decide +kernel)) ggX6_span_X6_asNow
set_option maxRecDepth 20000 in
theorem ggX6_span_X6_covered : GoodIn wsX6_span wsX6_covered := goodIn_r _ [12, 13, 14, 15, 16, 6, 17, 18, 22, 23, 24, 25, 26, 27, 28, 29, 30, 31, 32, 33, 34, 35, 36, 37, 38, 39, 40, 41, 42, 43, 44, 45, 46, 47] (by decide +kernel) (by decide +kernel)
set_option maxRecDepth 20000 in
theorem gX6_span_X6_covered : GoodIn wsX6_span (wsV RX6 118 RX6 yX6_covered wsX6_covered) := goodIn_app (goodIn_of _ (by decide +kernel)) ggX6_span_X6_covered
set_option maxRecDepth 20000 in
theorem ggX6_span_X6_ones : GoodIn wsX6_span wsX6_ones := goodIn_r _ [21] (by decide +kernel) (by decide +kernel)
set_option maxRecDepth 20000 in
theorem gX6_span_X6_ones : GoodIn wsX6_span (va_wsS RX6 145 yX6_ones wsX6_ones) := goodIn_app (goodIn_of _ (by decide +kernel)) ggX6_span_X6_ones
theorem dX6_span_0 : decode cX6_span 0 = .ok (.aload_n 0, 1) := by decide +kernel
theorem dX6_span_1 : decode cX6_span 1 = .ok (.iconst 0, 1) := by decide +kernel
theorem dX6_span_2 : decode cX6_span 2 = .ok (.putfield 53, 3) := by decide +kernel
theorem dX6_span_5 : decode cX6_span 5 = .ok (.aload_n 0, 1) := by decide +kernel
theorem dX6_span_6 : decode cX6_span 6 = .ok (.invokevirtual 178, 3) := by decide +kernel
theorem dX6_span_9 : decode cX6_span 9 = .ok (.bipush (-9), 2) := by decide +kernel
theorem dX6_span_11 : decode cX6_span 11 = .ok (.istore_n 1, 1) := by decide +kernel
theorem dX6_span_12 : decode cX6_span 12 = .ok (.iconst 0, 1) := by decide +kernel
theorem dX6_span_13 : decode cX6_span 13 = .ok (.istore_n 2, 1) := by decide +kernel
theorem dX6_span_14 : decode cX6_span 14 = .ok (.iload_n 2, 1) := by decide +kernel
theorem dX6_span_15 : decode cX6_span 15 = .ok (.bipush 32, 2) := by decide +kernel
theorem dX6_span_17 : decode cX6_span 17 = .ok (.if_icmp .ge 54, 3) := by decide +kernel
theorem dX6_span_20 : decode cX6_span 20 = .ok (.aload_n 0, 1) := by decide +kernel
theorem dX6_span_21 : decode cX6_span 21 = .ok (.getfield 28, 3) := by decide +kernel
theorem dX6_span_24 : decode cX6_span 24 = .ok (.iconst 1, 1) := by decide +kernel
theorem dX6_span_25 : decode cX6_span 25 = .ok (.iload_n 2, 1) := by decide +kernel
theorem dX6_span_26 : decode cX6_span 26 = .ok (.iastore, 1) := by decide +kernel
theorem dX6_span_27 : decode cX6_span 27 = .ok (.aload_n 0, 1) := by decide +kernel
theorem dX6_span_28 : decode cX6_span 28 = .ok (.aload_n 0, 1) := by decide +kernel
theorem dX6_span_29 : decode cX6_span 29 = .ok (.getfield 28, 3) := by decide +kernel
theorem dX6_span_32 : decode cX6_span 32 = .ok (.invokevirtual 118, 3) := by decide +kernel
theorem dX6_span_35 : decode cX6_span 35 = .ok (.invokestatic 145, 3) := by decide +kernel
theorem dX6_span_38 : decode cX6_span 38 = .ok (.iconst 1, 1) := by decide +kernel
theorem dX6_span_39 : decode cX6_span 39 = .ok (.if_icmp .ne 24, 3) := by decide +kernel
theorem dX6_span_42 : decode cX6_span 42 = .ok (.iload_n 1, 1) := by decide +kernel
theorem dX6_span_43 : decode cX6_span 43 = .ok (.bipush (-9), 2) := by decide +kernel
theorem dX6_span_45 : decode cX6_span 45 = .ok (.if_icmp .eq 14, 3) := by decide +kernel
theorem dX6_span_48 : decode cX6_span 48 = .ok (.iload_n 2, 1) := by decide +kernel
theorem dX6_span_49 : decode cX6_span 49 = .ok (.invokestatic 145, 3) := by decide +kernel
theorem dX6_span_52 : decode cX6_span 52 = .ok (.iload_n 1, 1) := by decide +kernel
theorem dX6_span_53 : decode cX6_span 53 = .ok (.invokestatic 145, 3) := by decide +kernel
theorem dX6_span_56 : decode cX6_span 56 = .ok (.if_icmp .ge 7, 3) := by decide +kernel
theorem dX6_span_59 : decode cX6_span 59 = .ok (.iload_n 2, 1) := by decide +kernel
theorem dX6_span_60 : decode cX6_span 60 = .ok (.goto 4, 3) := by decide +kernel
theorem dX6_span_63 : decode cX6_span 63 = .ok (.iload_n 1, 1) := by decide +kernel
theorem dX6_span_64 : decode cX6_span 64 = .ok (.istore_n 1, 1) := by decide +kernel
theorem dX6_span_65 : decode cX6_span 65 = .ok (.iinc 2 1, 3) := by decide +kernel
theorem dX6_span_68 : decode cX6_span 68 = .ok (.goto (-54), 3) := by decide +kernel
theorem dX6_span_71 : decode cX6_span 71 = .ok (.iload_n 1, 1) := by decide +kernel
theorem dX6_span_72 : decode cX6_span 72 = .ok (.ireturn, 1) := by decide +kernel
set_option maxRecDepth 20000 in
theorem ggX6_shut_X6_in : GoodIn wsX6_shut wsX6_in := goodIn_r _ [9] (by decide +kernel) (by decide +kernel)
set_option maxRecDepth 20000 in
theorem gX6_shut_X6_in : GoodIn wsX6_shut (va_wsS RX6 57 yX6_in wsX6_in) := goodIn_app (goodIn_of _ (by decide +kernel)) ggX6_shut_X6_in
set_option maxRecDepth 20000 in
theorem ggX6_shut_X6_asNow : GoodIn wsX6_shut wsX6_asNow := goodIn_r _ [13, 5, 2, 51, 52, 53, 54, 55, 56, 57, 58, 59, 60, 61, 62, 63, 64, 65, 66, 67, 68, 69, 70, 71, 72, 73, 74, 75, 76] (by decide +kernel) (by decide +kernel)
set_option maxRecDepth 20000 in
theorem gX6_shut_X6_asNow : GoodIn wsX6_shut (wsV RX6 178 RX6 yX6_asNow wsX6_asNow) := goodIn_app (goodIn_of _ (by decide +kernel)) ggX6_shut_X6_asNow
set_option maxRecDepth 20000 in
theorem ggX6_shut_X6_comers : GoodIn wsX6_shut wsX6_comers := goodIn_r _ [17, 18, 19, 20, 21, 22, 8, 23, 24, 25, 26, 27, 28, 51, 52, 53, 54, 55, 56, 57, 58, 59, 60, 61, 62, 63, 64, 65, 66, 67, 68, 69, 70, 71, 72, 73, 74, 75, 76] (by decide +kernel) (by decide +kernel)
set_option maxRecDepth 20000 in
theorem gX6_shut_X6_comers : GoodIn wsX6_shut (wsV RX6 122 RX6 yX6_comers wsX6_comers) := goodIn_app (goodIn_of _ (by decide +kernel)) ggX6_shut_X6_comers
set_option maxRecDepth 20000 in
theorem ggX6_shut_X6_harms : GoodIn wsX6_shut wsX6_harms := goodIn_r _ [32, 3, 4, 14, 15, 16, 8, 17, 18, 19, 20, 21, 22, 23, 24, 25, 26, 27, 28, 33, 34, 35, 36, 37, 38, 39, 40, 41, 51, 52, 53, 54, 55, 56, 57, 58, 59, 60, 61, 62, 63, 64, 65, 66, 67, 68, 69, 70, 71, 72, 73, 74, 75, 76] (by decide +kernel) (by decide +kernel)
set_option maxRecDepth 20000 in
theorem gX6_shut_X6_harms : GoodIn wsX6_shut (wsV RX6 170 RX6 yX6_harms wsX6_harms) := goodIn_app (goodIn_of _ (by decide +kernel)) ggX6_shut_X6_harms
set_option maxRecDepth 20000 in
theorem ggX6_shut_X6_ones : GoodIn wsX6_shut wsX6_ones := goodIn_r _ [44] (by decide +kernel) (by decide +kernel)
set_option maxRecDepth 20000 in
theorem gX6_shut_X6_ones : GoodIn wsX6_shut (va_wsS RX6 145 yX6_ones wsX6_ones) := goodIn_app (goodIn_of _ (by decide +kernel)) ggX6_shut_X6_ones
set_option maxRecDepth 20000 in
theorem ggX6_shut_X6_part : GoodIn wsX6_shut wsX6_part := goodIn_r _ [47, 48, 49, 8, 50] (by decide +kernel) (by decide +kernel)
set_option maxRecDepth 20000 in
theorem gX6_shut_X6_part : GoodIn wsX6_shut (va_wsS RX6 174 yX6_part wsX6_part) := goodIn_app (goodIn_of _ (by decide +kernel)) ggX6_shut_X6_part
theorem dX6_shut_0 : decode cX6_shut 0 = .ok (.aload_n 0, 1) := by decide +kernel
theorem dX6_shut_1 : decode cX6_shut 1 = .ok (.iconst 0, 1) := by decide +kernel
theorem dX6_shut_2 : decode cX6_shut 2 = .ok (.putfield 53, 3) := by decide +kernel
theorem dX6_shut_5 : decode cX6_shut 5 = .ok (.iload_n 1, 1) := by decide +kernel
theorem dX6_shut_6 : decode cX6_shut 6 = .ok (.iconst 0, 1) := by decide +kernel
theorem dX6_shut_7 : decode cX6_shut 7 = .ok (.bipush 7, 2) := by decide +kernel
theorem dX6_shut_9 : decode cX6_shut 9 = .ok (.invokestatic 57, 3) := by decide +kernel
theorem dX6_shut_12 : decode cX6_shut 12 = .ok (.ifCond .eq 12, 3) := by decide +kernel
theorem dX6_shut_15 : decode cX6_shut 15 = .ok (.iload_n 2, 1) := by decide +kernel
theorem dX6_shut_16 : decode cX6_shut 16 = .ok (.iconst 0, 1) := by decide +kernel
theorem dX6_shut_17 : decode cX6_shut 17 = .ok (.iconst 2, 1) := by decide +kernel
theorem dX6_shut_18 : decode cX6_shut 18 = .ok (.invokestatic 57, 3) := by decide +kernel
theorem dX6_shut_21 : decode cX6_shut 21 = .ok (.ifCond .ne 5, 3) := by decide +kernel
theorem dX6_shut_24 : decode cX6_shut 24 = .ok (.iconst (-1), 1) := by decide +kernel
theorem dX6_shut_25 : decode cX6_shut 25 = .ok (.ireturn, 1) := by decide +kernel
theorem dX6_shut_26 : decode cX6_shut 26 = .ok (.aload_n 0, 1) := by decide +kernel
theorem dX6_shut_27 : decode cX6_shut 27 = .ok (.invokevirtual 178, 3) := by decide +kernel
theorem dX6_shut_30 : decode cX6_shut 30 = .ok (.aload_n 0, 1) := by decide +kernel
theorem dX6_shut_31 : decode cX6_shut 31 = .ok (.aload_n 0, 1) := by decide +kernel
theorem dX6_shut_32 : decode cX6_shut 32 = .ok (.getfield 25, 3) := by decide +kernel
theorem dX6_shut_35 : decode cX6_shut 35 = .ok (.invokevirtual 122, 3) := by decide +kernel
theorem dX6_shut_38 : decode cX6_shut 38 = .ok (.istore_n 3, 1) := by decide +kernel
theorem dX6_shut_39 : decode cX6_shut 39 = .ok (.iconst 0, 1) := by decide +kernel
theorem dX6_shut_40 : decode cX6_shut 40 = .ok (.istore 4, 2) := by decide +kernel
theorem dX6_shut_42 : decode cX6_shut 42 = .ok (.aload_n 0, 1) := by decide +kernel
theorem dX6_shut_43 : decode cX6_shut 43 = .ok (.aload_n 0, 1) := by decide +kernel
theorem dX6_shut_44 : decode cX6_shut 44 = .ok (.getfield 25, 3) := by decide +kernel
theorem dX6_shut_47 : decode cX6_shut 47 = .ok (.invokevirtual 170, 3) := by decide +kernel
theorem dX6_shut_50 : decode cX6_shut 50 = .ok (.aload_n 0, 1) := by decide +kernel
theorem dX6_shut_51 : decode cX6_shut 51 = .ok (.getfield 129, 3) := by decide +kernel
theorem dX6_shut_54 : decode cX6_shut 54 = .ok (.istore 5, 2) := by decide +kernel
theorem dX6_shut_56 : decode cX6_shut 56 = .ok (.aload_n 0, 1) := by decide +kernel
theorem dX6_shut_57 : decode cX6_shut 57 = .ok (.getfield 135, 3) := by decide +kernel
theorem dX6_shut_60 : decode cX6_shut 60 = .ok (.istore 6, 2) := by decide +kernel
theorem dX6_shut_62 : decode cX6_shut 62 = .ok (.iconst 1, 1) := by decide +kernel
theorem dX6_shut_63 : decode cX6_shut 63 = .ok (.istore 7, 2) := by decide +kernel
theorem dX6_shut_65 : decode cX6_shut 65 = .ok (.iload 7, 2) := by decide +kernel
theorem dX6_shut_67 : decode cX6_shut 67 = .ok (.iload_n 3, 1) := by decide +kernel
theorem dX6_shut_68 : decode cX6_shut 68 = .ok (.if_icmp .gt 106, 3) := by decide +kernel
theorem dX6_shut_71 : decode cX6_shut 71 = .ok (.iload 7, 2) := by decide +kernel
theorem dX6_shut_73 : decode cX6_shut 73 = .ok (.iload_n 3, 1) := by decide +kernel
theorem dX6_shut_74 : decode cX6_shut 74 = .ok (.iconst (-1), 1) := by decide +kernel
theorem dX6_shut_75 : decode cX6_shut 75 = .ok (.ixor, 1) := by decide +kernel
theorem dX6_shut_76 : decode cX6_shut 76 = .ok (.iand, 1) := by decide +kernel
theorem dX6_shut_77 : decode cX6_shut 77 = .ok (.ifCond .ne 91, 3) := by decide +kernel
theorem dX6_shut_80 : decode cX6_shut 80 = .ok (.iload 7, 2) := by decide +kernel
theorem dX6_shut_82 : decode cX6_shut 82 = .ok (.invokestatic 145, 3) := by decide +kernel
theorem dX6_shut_85 : decode cX6_shut 85 = .ok (.iload_n 1, 1) := by decide +kernel
theorem dX6_shut_86 : decode cX6_shut 86 = .ok (.if_icmp .gt 82, 3) := by decide +kernel
theorem dX6_shut_89 : decode cX6_shut 89 = .ok (.aload_n 0, 1) := by decide +kernel
theorem dX6_shut_90 : decode cX6_shut 90 = .ok (.getfield 28, 3) := by decide +kernel
theorem dX6_shut_93 : decode cX6_shut 93 = .ok (.iconst 3, 1) := by decide +kernel
theorem dX6_shut_94 : decode cX6_shut 94 = .ok (.aload_n 0, 1) := by decide +kernel
theorem dX6_shut_95 : decode cX6_shut 95 = .ok (.getfield 25, 3) := by decide +kernel
theorem dX6_shut_98 : decode cX6_shut 98 = .ok (.iconst 3, 1) := by decide +kernel
theorem dX6_shut_99 : decode cX6_shut 99 = .ok (.iaload, 1) := by decide +kernel
theorem dX6_shut_100 : decode cX6_shut 100 = .ok (.iload 7, 2) := by decide +kernel
theorem dX6_shut_102 : decode cX6_shut 102 = .ok (.ior, 1) := by decide +kernel
theorem dX6_shut_103 : decode cX6_shut 103 = .ok (.iastore, 1) := by decide +kernel
theorem dX6_shut_104 : decode cX6_shut 104 = .ok (.aload_n 0, 1) := by decide +kernel
theorem dX6_shut_105 : decode cX6_shut 105 = .ok (.aload_n 0, 1) := by decide +kernel
theorem dX6_shut_106 : decode cX6_shut 106 = .ok (.getfield 28, 3) := by decide +kernel
theorem dX6_shut_109 : decode cX6_shut 109 = .ok (.invokevirtual 170, 3) := by decide +kernel
theorem dX6_shut_112 : decode cX6_shut 112 = .ok (.iload 5, 2) := by decide +kernel
theorem dX6_shut_114 : decode cX6_shut 114 = .ok (.aload_n 0, 1) := by decide +kernel
theorem dX6_shut_115 : decode cX6_shut 115 = .ok (.getfield 135, 3) := by decide +kernel
theorem dX6_shut_118 : decode cX6_shut 118 = .ok (.imul, 1) := by decide +kernel
theorem dX6_shut_119 : decode cX6_shut 119 = .ok (.aload_n 0, 1) := by decide +kernel
theorem dX6_shut_120 : decode cX6_shut 120 = .ok (.getfield 129, 3) := by decide +kernel
theorem dX6_shut_123 : decode cX6_shut 123 = .ok (.iload 6, 2) := by decide +kernel
theorem dX6_shut_125 : decode cX6_shut 125 = .ok (.imul, 1) := by decide +kernel
theorem dX6_shut_126 : decode cX6_shut 126 = .ok (.isub, 1) := by decide +kernel
theorem dX6_shut_127 : decode cX6_shut 127 = .ok (.istore 8, 2) := by decide +kernel
theorem dX6_shut_129 : decode cX6_shut 129 = .ok (.iload 8, 2) := by decide +kernel
theorem dX6_shut_131 : decode cX6_shut 131 = .ok (.ifCond .gt 21, 3) := by decide +kernel
theorem dX6_shut_134 : decode cX6_shut 134 = .ok (.iload 8, 2) := by decide +kernel
theorem dX6_shut_136 : decode cX6_shut 136 = .ok (.ifCond .ne 32, 3) := by decide +kernel
theorem dX6_shut_139 : decode cX6_shut 139 = .ok (.iload 7, 2) := by decide +kernel
theorem dX6_shut_141 : decode cX6_shut 141 = .ok (.invokestatic 145, 3) := by decide +kernel
theorem dX6_shut_144 : decode cX6_shut 144 = .ok (.iload 4, 2) := by decide +kernel
theorem dX6_shut_146 : decode cX6_shut 146 = .ok (.invokestatic 145, 3) := by decide +kernel
theorem dX6_shut_149 : decode cX6_shut 149 = .ok (.if_icmp .ge 19, 3) := by decide +kernel
theorem dX6_shut_152 : decode cX6_shut 152 = .ok (.iload 7, 2) := by decide +kernel
theorem dX6_shut_154 : decode cX6_shut 154 = .ok (.istore 4, 2) := by decide +kernel
theorem dX6_shut_156 : decode cX6_shut 156 = .ok (.aload_n 0, 1) := by decide +kernel
theorem dX6_shut_157 : decode cX6_shut 157 = .ok (.getfield 129, 3) := by decide +kernel
theorem dX6_shut_160 : decode cX6_shut 160 = .ok (.istore 5, 2) := by decide +kernel
theorem dX6_shut_162 : decode cX6_shut 162 = .ok (.aload_n 0, 1) := by decide +kernel
theorem dX6_shut_163 : decode cX6_shut 163 = .ok (.getfield 135, 3) := by decide +kernel
theorem dX6_shut_166 : decode cX6_shut 166 = .ok (.istore 6, 2) := by decide +kernel
theorem dX6_shut_168 : decode cX6_shut 168 = .ok (.iinc 7 1, 3) := by decide +kernel
theorem dX6_shut_171 : decode cX6_shut 171 = .ok (.goto (-106), 3) := by decide +kernel
theorem dX6_shut_174 : decode cX6_shut 174 = .ok (.iload_n 2, 1) := by decide +kernel
theorem dX6_shut_175 : decode cX6_shut 175 = .ok (.ifCond .ne 8, 3) := by decide +kernel
theorem dX6_shut_178 : decode cX6_shut 178 = .ok (.iload 4, 2) := by decide +kernel
theorem dX6_shut_180 : decode cX6_shut 180 = .ok (.goto 13, 3) := by decide +kernel
theorem dX6_shut_183 : decode cX6_shut 183 = .ok (.iload 5, 2) := by decide +kernel
theorem dX6_shut_185 : decode cX6_shut 185 = .ok (.iload 6, 2) := by decide +kernel
theorem dX6_shut_187 : decode cX6_shut 187 = .ok (.iload_n 2, 1) := by decide +kernel
theorem dX6_shut_188 : decode cX6_shut 188 = .ok (.iconst 1, 1) := by decide +kernel
theorem dX6_shut_189 : decode cX6_shut 189 = .ok (.isub, 1) := by decide +kernel
theorem dX6_shut_190 : decode cX6_shut 190 = .ok (.invokestatic 174, 3) := by decide +kernel
theorem dX6_shut_193 : decode cX6_shut 193 = .ok (.ireturn, 1) := by decide +kernel
set_option maxRecDepth 20000 in
theorem ggX6_tell_X6_asNow : GoodIn wsX6_tell wsX6_asNow := goodIn_r _ [9, 2, 3, 46, 47, 48, 49, 50, 51, 52, 53, 54, 55, 56, 57, 58, 59, 60, 61, 62, 63, 64, 65, 66, 67, 68, 69, 70, 71] (by decide +kernel) (by decide +kernel)
set_option maxRecDepth 20000 in
theorem gX6_tell_X6_asNow : GoodIn wsX6_tell (wsV RX6 178 RX6 yX6_asNow wsX6_asNow) := goodIn_app (goodIn_of _ (by decide +kernel)) ggX6_tell_X6_asNow
set_option maxRecDepth 20000 in
theorem ggX6_tell_X6_everything : GoodIn wsX6_tell wsX6_everything := goodIn_r _ [13, 14, 46, 47, 48, 49, 50, 51, 52, 53, 54, 55, 56, 57, 58, 59, 60, 61, 62, 63, 64, 65, 66, 67, 68, 69, 70, 71] (by decide +kernel) (by decide +kernel)
set_option maxRecDepth 20000 in
theorem gX6_tell_X6_everything : GoodIn wsX6_tell (wsV RX6 181 RX6 yX6_everything wsX6_everything) := goodIn_app (goodIn_of _ (by decide +kernel)) ggX6_tell_X6_everything
set_option maxRecDepth 20000 in
theorem ggX6_tell_X6_harms : GoodIn wsX6_tell wsX6_harms := goodIn_r _ [18, 4, 19, 20, 21, 22, 8, 23, 14, 24, 25, 26, 27, 28, 29, 30, 31, 32, 33, 34, 35, 36, 37, 38, 39, 40, 41, 42, 46, 47, 48, 49, 50, 51, 52, 53, 54, 55, 56, 57, 58, 59, 60, 61, 62, 63, 64, 65, 66, 67, 68, 69, 70, 71] (by decide +kernel) (by decide +kernel)
set_option maxRecDepth 20000 in
theorem gX6_tell_X6_harms : GoodIn wsX6_tell (wsV RX6 170 RX6 yX6_harms wsX6_harms) := goodIn_app (goodIn_of _ (by decide +kernel)) ggX6_tell_X6_harms
set_option maxRecDepth 20000 in
theorem ggX6_tell_X6_ones : GoodIn wsX6_tell wsX6_ones := goodIn_r _ [45] (by decide +kernel) (by decide +kernel)
set_option maxRecDepth 20000 in
theorem gX6_tell_X6_ones : GoodIn wsX6_tell (va_wsS RX6 145 yX6_ones wsX6_ones) := goodIn_app (goodIn_of _ (by decide +kernel)) ggX6_tell_X6_ones
theorem dX6_tell_0 : decode cX6_tell 0 = .ok (.aload_n 0, 1) := by decide +kernel
theorem dX6_tell_1 : decode cX6_tell 1 = .ok (.iconst 0, 1) := by decide +kernel
theorem dX6_tell_2 : decode cX6_tell 2 = .ok (.putfield 53, 3) := by decide +kernel
theorem dX6_tell_5 : decode cX6_tell 5 = .ok (.aload_n 0, 1) := by decide +kernel
theorem dX6_tell_6 : decode cX6_tell 6 = .ok (.invokevirtual 178, 3) := by decide +kernel
theorem dX6_tell_9 : decode cX6_tell 9 = .ok (.bipush (-9), 2) := by decide +kernel
theorem dX6_tell_11 : decode cX6_tell 11 = .ok (.istore_n 1, 1) := by decide +kernel
theorem dX6_tell_12 : decode cX6_tell 12 = .ok (.iconst 0, 1) := by decide +kernel
theorem dX6_tell_13 : decode cX6_tell 13 = .ok (.istore_n 2, 1) := by decide +kernel
theorem dX6_tell_14 : decode cX6_tell 14 = .ok (.iload_n 2, 1) := by decide +kernel
theorem dX6_tell_15 : decode cX6_tell 15 = .ok (.aload_n 0, 1) := by decide +kernel
theorem dX6_tell_16 : decode cX6_tell 16 = .ok (.invokevirtual 181, 3) := by decide +kernel
theorem dX6_tell_19 : decode cX6_tell 19 = .ok (.if_icmp .gt 61, 3) := by decide +kernel
theorem dX6_tell_22 : decode cX6_tell 22 = .ok (.aload_n 0, 1) := by decide +kernel
theorem dX6_tell_23 : decode cX6_tell 23 = .ok (.getfield 28, 3) := by decide +kernel
theorem dX6_tell_26 : decode cX6_tell 26 = .ok (.iconst 2, 1) := by decide +kernel
theorem dX6_tell_27 : decode cX6_tell 27 = .ok (.aload_n 0, 1) := by decide +kernel
theorem dX6_tell_28 : decode cX6_tell 28 = .ok (.getfield 25, 3) := by decide +kernel
theorem dX6_tell_31 : decode cX6_tell 31 = .ok (.iconst 2, 1) := by decide +kernel
theorem dX6_tell_32 : decode cX6_tell 32 = .ok (.iaload, 1) := by decide +kernel
theorem dX6_tell_33 : decode cX6_tell 33 = .ok (.iload_n 2, 1) := by decide +kernel
theorem dX6_tell_34 : decode cX6_tell 34 = .ok (.ior, 1) := by decide +kernel
theorem dX6_tell_35 : decode cX6_tell 35 = .ok (.iastore, 1) := by decide +kernel
theorem dX6_tell_36 : decode cX6_tell 36 = .ok (.aload_n 0, 1) := by decide +kernel
theorem dX6_tell_37 : decode cX6_tell 37 = .ok (.aload_n 0, 1) := by decide +kernel
theorem dX6_tell_38 : decode cX6_tell 38 = .ok (.getfield 28, 3) := by decide +kernel
theorem dX6_tell_41 : decode cX6_tell 41 = .ok (.invokevirtual 170, 3) := by decide +kernel
theorem dX6_tell_44 : decode cX6_tell 44 = .ok (.aload_n 0, 1) := by decide +kernel
theorem dX6_tell_45 : decode cX6_tell 45 = .ok (.getfield 129, 3) := by decide +kernel
theorem dX6_tell_48 : decode cX6_tell 48 = .ok (.ifCond .ne 24, 3) := by decide +kernel
theorem dX6_tell_51 : decode cX6_tell 51 = .ok (.iload_n 1, 1) := by decide +kernel
theorem dX6_tell_52 : decode cX6_tell 52 = .ok (.bipush (-9), 2) := by decide +kernel
theorem dX6_tell_54 : decode cX6_tell 54 = .ok (.if_icmp .eq 14, 3) := by decide +kernel
theorem dX6_tell_57 : decode cX6_tell 57 = .ok (.iload_n 2, 1) := by decide +kernel
theorem dX6_tell_58 : decode cX6_tell 58 = .ok (.invokestatic 145, 3) := by decide +kernel
theorem dX6_tell_61 : decode cX6_tell 61 = .ok (.iload_n 1, 1) := by decide +kernel
theorem dX6_tell_62 : decode cX6_tell 62 = .ok (.invokestatic 145, 3) := by decide +kernel
theorem dX6_tell_65 : decode cX6_tell 65 = .ok (.if_icmp .ge 7, 3) := by decide +kernel
theorem dX6_tell_68 : decode cX6_tell 68 = .ok (.iload_n 2, 1) := by decide +kernel
theorem dX6_tell_69 : decode cX6_tell 69 = .ok (.goto 4, 3) := by decide +kernel
theorem dX6_tell_72 : decode cX6_tell 72 = .ok (.iload_n 1, 1) := by decide +kernel
theorem dX6_tell_73 : decode cX6_tell 73 = .ok (.istore_n 1, 1) := by decide +kernel
theorem dX6_tell_74 : decode cX6_tell 74 = .ok (.iinc 2 1, 3) := by decide +kernel
theorem dX6_tell_77 : decode cX6_tell 77 = .ok (.goto (-63), 3) := by decide +kernel
theorem dX6_tell_80 : decode cX6_tell 80 = .ok (.iload_n 1, 1) := by decide +kernel
theorem dX6_tell_81 : decode cX6_tell 81 = .ok (.ireturn, 1) := by decide +kernel
set_option maxRecDepth 20000 in
theorem ggX6_saw_X6_isThing : GoodIn wsX6_saw wsX6_isThing := goodIn_r _ [9, 10, 11, 12, 8, 13, 14, 15, 16, 17, 18, 19, 20, 21, 22, 23, 24, 25, 26, 27, 28, 29, 30, 31, 32, 33, 34, 35, 36, 37, 38, 39] (by decide +kernel) (by decide +kernel)
set_option maxRecDepth 20000 in
theorem gX6_saw_X6_isThing : GoodIn wsX6_saw (wsV RX6 138 RX6 yX6_isThing wsX6_isThing) := goodIn_app (goodIn_of _ (by decide +kernel)) ggX6_saw_X6_isThing
set_option maxRecDepth 20000 in
theorem ggX6_saw_X6_in : GoodIn wsX6_saw wsX6_in := goodIn_r _ [13] (by decide +kernel) (by decide +kernel)
set_option maxRecDepth 20000 in
theorem gX6_saw_X6_in : GoodIn wsX6_saw (va_wsS RX6 57 yX6_in wsX6_in) := goodIn_app (goodIn_of _ (by decide +kernel)) ggX6_saw_X6_in
theorem dX6_saw_0 : decode cX6_saw 0 = .ok (.aload_n 0, 1) := by decide +kernel
theorem dX6_saw_1 : decode cX6_saw 1 = .ok (.iconst 0, 1) := by decide +kernel
theorem dX6_saw_2 : decode cX6_saw 2 = .ok (.putfield 53, 3) := by decide +kernel
theorem dX6_saw_5 : decode cX6_saw 5 = .ok (.aload_n 0, 1) := by decide +kernel
theorem dX6_saw_6 : decode cX6_saw 6 = .ok (.iload_n 1, 1) := by decide +kernel
theorem dX6_saw_7 : decode cX6_saw 7 = .ok (.invokevirtual 138, 3) := by decide +kernel
theorem dX6_saw_10 : decode cX6_saw 10 = .ok (.ifCond .eq 12, 3) := by decide +kernel
theorem dX6_saw_13 : decode cX6_saw 13 = .ok (.iload_n 2, 1) := by decide +kernel
theorem dX6_saw_14 : decode cX6_saw 14 = .ok (.iconst 0, 1) := by decide +kernel
theorem dX6_saw_15 : decode cX6_saw 15 = .ok (.iconst 1, 1) := by decide +kernel
theorem dX6_saw_16 : decode cX6_saw 16 = .ok (.invokestatic 57, 3) := by decide +kernel
theorem dX6_saw_19 : decode cX6_saw 19 = .ok (.ifCond .ne 5, 3) := by decide +kernel
theorem dX6_saw_22 : decode cX6_saw 22 = .ok (.iconst (-1), 1) := by decide +kernel
theorem dX6_saw_23 : decode cX6_saw 23 = .ok (.ireturn, 1) := by decide +kernel
theorem dX6_saw_24 : decode cX6_saw 24 = .ok (.aload_n 0, 1) := by decide +kernel
theorem dX6_saw_25 : decode cX6_saw 25 = .ok (.getfield 108, 3) := by decide +kernel
theorem dX6_saw_28 : decode cX6_saw 28 = .ok (.bipush 6, 2) := by decide +kernel
theorem dX6_saw_30 : decode cX6_saw 30 = .ok (.if_icmp .ne 6, 3) := by decide +kernel
theorem dX6_saw_33 : decode cX6_saw 33 = .ok (.bipush (-3), 2) := by decide +kernel
theorem dX6_saw_35 : decode cX6_saw 35 = .ok (.ireturn, 1) := by decide +kernel
theorem dX6_saw_36 : decode cX6_saw 36 = .ok (.aload_n 0, 1) := by decide +kernel
theorem dX6_saw_37 : decode cX6_saw 37 = .ok (.getfield 41, 3) := by decide +kernel
theorem dX6_saw_40 : decode cX6_saw 40 = .ok (.aload_n 0, 1) := by decide +kernel
theorem dX6_saw_41 : decode cX6_saw 41 = .ok (.getfield 108, 3) := by decide +kernel
theorem dX6_saw_44 : decode cX6_saw 44 = .ok (.iload_n 1, 1) := by decide +kernel
theorem dX6_saw_45 : decode cX6_saw 45 = .ok (.iastore, 1) := by decide +kernel
theorem dX6_saw_46 : decode cX6_saw 46 = .ok (.aload_n 0, 1) := by decide +kernel
theorem dX6_saw_47 : decode cX6_saw 47 = .ok (.getfield 44, 3) := by decide +kernel
theorem dX6_saw_50 : decode cX6_saw 50 = .ok (.aload_n 0, 1) := by decide +kernel
theorem dX6_saw_51 : decode cX6_saw 51 = .ok (.getfield 108, 3) := by decide +kernel
theorem dX6_saw_54 : decode cX6_saw 54 = .ok (.iload_n 2, 1) := by decide +kernel
theorem dX6_saw_55 : decode cX6_saw 55 = .ok (.iastore, 1) := by decide +kernel
theorem dX6_saw_56 : decode cX6_saw 56 = .ok (.aload_n 0, 1) := by decide +kernel
theorem dX6_saw_57 : decode cX6_saw 57 = .ok (.dup, 1) := by decide +kernel
theorem dX6_saw_58 : decode cX6_saw 58 = .ok (.getfield 108, 3) := by decide +kernel
theorem dX6_saw_61 : decode cX6_saw 61 = .ok (.iconst 1, 1) := by decide +kernel
theorem dX6_saw_62 : decode cX6_saw 62 = .ok (.iadd, 1) := by decide +kernel
theorem dX6_saw_63 : decode cX6_saw 63 = .ok (.putfield 108, 3) := by decide +kernel
theorem dX6_saw_66 : decode cX6_saw 66 = .ok (.aload_n 0, 1) := by decide +kernel
theorem dX6_saw_67 : decode cX6_saw 67 = .ok (.getfield 108, 3) := by decide +kernel
theorem dX6_saw_70 : decode cX6_saw 70 = .ok (.ireturn, 1) := by decide +kernel
theorem dX6_forget_0 : decode cX6_forget 0 = .ok (.aload_n 0, 1) := by decide +kernel
theorem dX6_forget_1 : decode cX6_forget 1 = .ok (.iconst 0, 1) := by decide +kernel
theorem dX6_forget_2 : decode cX6_forget 2 = .ok (.putfield 53, 3) := by decide +kernel
theorem dX6_forget_5 : decode cX6_forget 5 = .ok (.aload_n 0, 1) := by decide +kernel
theorem dX6_forget_6 : decode cX6_forget 6 = .ok (.getfield 108, 3) := by decide +kernel
theorem dX6_forget_9 : decode cX6_forget 9 = .ok (.istore_n 1, 1) := by decide +kernel
theorem dX6_forget_10 : decode cX6_forget 10 = .ok (.aload_n 0, 1) := by decide +kernel
theorem dX6_forget_11 : decode cX6_forget 11 = .ok (.iconst 0, 1) := by decide +kernel
theorem dX6_forget_12 : decode cX6_forget 12 = .ok (.putfield 108, 3) := by decide +kernel
theorem dX6_forget_15 : decode cX6_forget 15 = .ok (.iload_n 1, 1) := by decide +kernel
theorem dX6_forget_16 : decode cX6_forget 16 = .ok (.ireturn, 1) := by decide +kernel
set_option maxRecDepth 20000 in
theorem ggX6_fit_X6_in : GoodIn wsX6_fit wsX6_in := goodIn_r _ [8] (by decide +kernel) (by decide +kernel)
set_option maxRecDepth 20000 in
theorem gX6_fit_X6_in : GoodIn wsX6_fit (va_wsS RX6 57 yX6_in wsX6_in) := goodIn_app (goodIn_of _ (by decide +kernel)) ggX6_fit_X6_in
set_option maxRecDepth 20000 in
theorem ggX6_fit_X6_hasAll : GoodIn wsX6_fit wsX6_hasAll := goodIn_r _ [12, 13, 14, 15, 16, 17, 18, 19, 20, 21, 22, 23, 24, 25, 26, 27, 28, 29, 30, 31, 32, 33, 34, 35, 36, 37, 38, 39] (by decide +kernel) (by decide +kernel)
set_option maxRecDepth 20000 in
theorem gX6_fit_X6_hasAll : GoodIn wsX6_fit (wsV RX6 114 RX6 yX6_hasAll wsX6_hasAll) := goodIn_app (goodIn_of _ (by decide +kernel)) ggX6_fit_X6_hasAll
theorem dX6_fit_0 : decode cX6_fit 0 = .ok (.aload_n 0, 1) := by decide +kernel
theorem dX6_fit_1 : decode cX6_fit 1 = .ok (.iconst 0, 1) := by decide +kernel
theorem dX6_fit_2 : decode cX6_fit 2 = .ok (.putfield 53, 3) := by decide +kernel
theorem dX6_fit_5 : decode cX6_fit 5 = .ok (.iload_n 1, 1) := by decide +kernel
theorem dX6_fit_6 : decode cX6_fit 6 = .ok (.iconst 0, 1) := by decide +kernel
theorem dX6_fit_7 : decode cX6_fit 7 = .ok (.iconst 2, 1) := by decide +kernel
theorem dX6_fit_8 : decode cX6_fit 8 = .ok (.invokestatic 57, 3) := by decide +kernel
theorem dX6_fit_11 : decode cX6_fit 11 = .ok (.ifCond .ne 5, 3) := by decide +kernel
theorem dX6_fit_14 : decode cX6_fit 14 = .ok (.iconst (-1), 1) := by decide +kernel
theorem dX6_fit_15 : decode cX6_fit 15 = .ok (.ireturn, 1) := by decide +kernel
theorem dX6_fit_16 : decode cX6_fit 16 = .ok (.iconst 0, 1) := by decide +kernel
theorem dX6_fit_17 : decode cX6_fit 17 = .ok (.istore_n 2, 1) := by decide +kernel
theorem dX6_fit_18 : decode cX6_fit 18 = .ok (.bipush (-9), 2) := by decide +kernel
theorem dX6_fit_20 : decode cX6_fit 20 = .ok (.istore_n 3, 1) := by decide +kernel
theorem dX6_fit_21 : decode cX6_fit 21 = .ok (.bipush 31, 2) := by decide +kernel
theorem dX6_fit_23 : decode cX6_fit 23 = .ok (.istore 4, 2) := by decide +kernel
theorem dX6_fit_25 : decode cX6_fit 25 = .ok (.iconst 0, 1) := by decide +kernel
theorem dX6_fit_26 : decode cX6_fit 26 = .ok (.istore 5, 2) := by decide +kernel
theorem dX6_fit_28 : decode cX6_fit 28 = .ok (.iload 5, 2) := by decide +kernel
theorem dX6_fit_30 : decode cX6_fit 30 = .ok (.bipush 32, 2) := by decide +kernel
theorem dX6_fit_32 : decode cX6_fit 32 = .ok (.if_icmp .ge 100, 3) := by decide +kernel
theorem dX6_fit_35 : decode cX6_fit 35 = .ok (.iconst 1, 1) := by decide +kernel
theorem dX6_fit_36 : decode cX6_fit 36 = .ok (.istore 6, 2) := by decide +kernel
theorem dX6_fit_38 : decode cX6_fit 38 = .ok (.iconst 0, 1) := by decide +kernel
theorem dX6_fit_39 : decode cX6_fit 39 = .ok (.istore 7, 2) := by decide +kernel
theorem dX6_fit_41 : decode cX6_fit 41 = .ok (.iload 7, 2) := by decide +kernel
theorem dX6_fit_43 : decode cX6_fit 43 = .ok (.aload_n 0, 1) := by decide +kernel
theorem dX6_fit_44 : decode cX6_fit 44 = .ok (.getfield 108, 3) := by decide +kernel
theorem dX6_fit_47 : decode cX6_fit 47 = .ok (.if_icmp .ge 53, 3) := by decide +kernel
theorem dX6_fit_50 : decode cX6_fit 50 = .ok (.iload 6, 2) := by decide +kernel
theorem dX6_fit_52 : decode cX6_fit 52 = .ok (.ifCond .eq 39, 3) := by decide +kernel
theorem dX6_fit_55 : decode cX6_fit 55 = .ok (.aload_n 0, 1) := by decide +kernel
theorem dX6_fit_56 : decode cX6_fit 56 = .ok (.aload_n 0, 1) := by decide +kernel
theorem dX6_fit_57 : decode cX6_fit 57 = .ok (.getfield 41, 3) := by decide +kernel
theorem dX6_fit_60 : decode cX6_fit 60 = .ok (.iload 7, 2) := by decide +kernel
theorem dX6_fit_62 : decode cX6_fit 62 = .ok (.iaload, 1) := by decide +kernel
theorem dX6_fit_63 : decode cX6_fit 63 = .ok (.iload 5, 2) := by decide +kernel
theorem dX6_fit_65 : decode cX6_fit 65 = .ok (.invokevirtual 114, 3) := by decide +kernel
theorem dX6_fit_68 : decode cX6_fit 68 = .ok (.aload_n 0, 1) := by decide +kernel
theorem dX6_fit_69 : decode cX6_fit 69 = .ok (.getfield 44, 3) := by decide +kernel
theorem dX6_fit_72 : decode cX6_fit 72 = .ok (.iload 7, 2) := by decide +kernel
theorem dX6_fit_74 : decode cX6_fit 74 = .ok (.iaload, 1) := by decide +kernel
theorem dX6_fit_75 : decode cX6_fit 75 = .ok (.iconst 1, 1) := by decide +kernel
theorem dX6_fit_76 : decode cX6_fit 76 = .ok (.if_icmp .ne 7, 3) := by decide +kernel
theorem dX6_fit_79 : decode cX6_fit 79 = .ok (.iconst 1, 1) := by decide +kernel
theorem dX6_fit_80 : decode cX6_fit 80 = .ok (.goto 4, 3) := by decide +kernel
theorem dX6_fit_83 : decode cX6_fit 83 = .ok (.iconst 0, 1) := by decide +kernel
theorem dX6_fit_84 : decode cX6_fit 84 = .ok (.if_icmp .ne 7, 3) := by decide +kernel
theorem dX6_fit_87 : decode cX6_fit 87 = .ok (.iconst 1, 1) := by decide +kernel
theorem dX6_fit_88 : decode cX6_fit 88 = .ok (.goto 4, 3) := by decide +kernel
theorem dX6_fit_91 : decode cX6_fit 91 = .ok (.iconst 0, 1) := by decide +kernel
theorem dX6_fit_92 : decode cX6_fit 92 = .ok (.istore 6, 2) := by decide +kernel
theorem dX6_fit_94 : decode cX6_fit 94 = .ok (.iinc 7 1, 3) := by decide +kernel
theorem dX6_fit_97 : decode cX6_fit 97 = .ok (.goto (-56), 3) := by decide +kernel
theorem dX6_fit_100 : decode cX6_fit 100 = .ok (.iload 6, 2) := by decide +kernel
theorem dX6_fit_102 : decode cX6_fit 102 = .ok (.ifCond .eq 24, 3) := by decide +kernel
theorem dX6_fit_105 : decode cX6_fit 105 = .ok (.iload_n 2, 1) := by decide +kernel
theorem dX6_fit_106 : decode cX6_fit 106 = .ok (.ifCond .ne 8, 3) := by decide +kernel
theorem dX6_fit_109 : decode cX6_fit 109 = .ok (.iload 5, 2) := by decide +kernel
theorem dX6_fit_111 : decode cX6_fit 111 = .ok (.goto 4, 3) := by decide +kernel
theorem dX6_fit_114 : decode cX6_fit 114 = .ok (.iload_n 3, 1) := by decide +kernel
theorem dX6_fit_115 : decode cX6_fit 115 = .ok (.istore_n 3, 1) := by decide +kernel
theorem dX6_fit_116 : decode cX6_fit 116 = .ok (.iload 4, 2) := by decide +kernel
theorem dX6_fit_118 : decode cX6_fit 118 = .ok (.iload 5, 2) := by decide +kernel
theorem dX6_fit_120 : decode cX6_fit 120 = .ok (.iand, 1) := by decide +kernel
theorem dX6_fit_121 : decode cX6_fit 121 = .ok (.istore 4, 2) := by decide +kernel
theorem dX6_fit_123 : decode cX6_fit 123 = .ok (.iinc 2 1, 3) := by decide +kernel
theorem dX6_fit_126 : decode cX6_fit 126 = .ok (.iinc 5 1, 3) := by decide +kernel
theorem dX6_fit_129 : decode cX6_fit 129 = .ok (.goto (-101), 3) := by decide +kernel
theorem dX6_fit_132 : decode cX6_fit 132 = .ok (.iload_n 1, 1) := by decide +kernel
theorem dX6_fit_133 : decode cX6_fit 133 = .ok (.ifCond .ne 7, 3) := by decide +kernel
theorem dX6_fit_136 : decode cX6_fit 136 = .ok (.iload_n 2, 1) := by decide +kernel
theorem dX6_fit_137 : decode cX6_fit 137 = .ok (.goto 18, 3) := by decide +kernel
theorem dX6_fit_140 : decode cX6_fit 140 = .ok (.iload_n 1, 1) := by decide +kernel
theorem dX6_fit_141 : decode cX6_fit 141 = .ok (.iconst 1, 1) := by decide +kernel
theorem dX6_fit_142 : decode cX6_fit 142 = .ok (.if_icmp .eq 7, 3) := by decide +kernel
theorem dX6_fit_145 : decode cX6_fit 145 = .ok (.iload_n 2, 1) := by decide +kernel
theorem dX6_fit_146 : decode cX6_fit 146 = .ok (.ifCond .ne 7, 3) := by decide +kernel
theorem dX6_fit_149 : decode cX6_fit 149 = .ok (.iload_n 3, 1) := by decide +kernel
theorem dX6_fit_150 : decode cX6_fit 150 = .ok (.goto 5, 3) := by decide +kernel
theorem dX6_fit_153 : decode cX6_fit 153 = .ok (.iload 4, 2) := by decide +kernel
theorem dX6_fit_155 : decode cX6_fit 155 = .ok (.ireturn, 1) := by decide +kernel
set_option maxRecDepth 20000 in
theorem ggX6_lost_X6_in : GoodIn wsX6_lost wsX6_in := goodIn_r _ [6] (by decide +kernel) (by decide +kernel)
set_option maxRecDepth 20000 in
theorem gX6_lost_X6_in : GoodIn wsX6_lost (va_wsS RX6 57 yX6_in wsX6_in) := goodIn_app (goodIn_of _ (by decide +kernel)) ggX6_lost_X6_in
set_option maxRecDepth 20000 in
theorem ggX6_lost_X6_asNow : GoodIn wsX6_lost wsX6_asNow := goodIn_r _ [10, 2, 11, 43, 44, 45, 46, 47, 48, 49, 50, 51, 52, 53, 54, 55, 56, 57, 58, 59, 60, 61, 62, 63, 64, 65, 66, 67, 68] (by decide +kernel) (by decide +kernel)
set_option maxRecDepth 20000 in
theorem gX6_lost_X6_asNow : GoodIn wsX6_lost (wsV RX6 178 RX6 yX6_asNow wsX6_asNow) := goodIn_app (goodIn_of _ (by decide +kernel)) ggX6_lost_X6_asNow
set_option maxRecDepth 20000 in
theorem ggX6_lost_X6_goes : GoodIn wsX6_lost wsX6_goes := goodIn_r _ [15, 16, 17, 18, 5, 19, 20, 21, 22, 23, 24, 25, 26, 27, 28, 29, 30, 31, 32, 33, 34, 35, 36, 37, 38, 39, 40, 41, 42, 43, 44, 45, 46, 47, 48, 49, 50, 51, 52, 53, 54, 55, 56, 57, 58, 59, 60, 61, 62, 63, 64, 65, 66, 67, 68] (by decide +kernel) (by decide +kernel)
set_option maxRecDepth 20000 in
theorem gX6_lost_X6_goes : GoodIn wsX6_lost (wsV RX6 164 RX6 yX6_goes wsX6_goes) := goodIn_app (goodIn_of _ (by decide +kernel)) ggX6_lost_X6_goes
theorem dX6_lost_0 : decode cX6_lost 0 = .ok (.aload_n 0, 1) := by decide +kernel
theorem dX6_lost_1 : decode cX6_lost 1 = .ok (.iconst 0, 1) := by decide +kernel
theorem dX6_lost_2 : decode cX6_lost 2 = .ok (.putfield 53, 3) := by decide +kernel
theorem dX6_lost_5 : decode cX6_lost 5 = .ok (.iload_n 1, 1) := by decide +kernel
theorem dX6_lost_6 : decode cX6_lost 6 = .ok (.iconst 0, 1) := by decide +kernel
theorem dX6_lost_7 : decode cX6_lost 7 = .ok (.sipush 9999, 3) := by decide +kernel
theorem dX6_lost_10 : decode cX6_lost 10 = .ok (.invokestatic 57, 3) := by decide +kernel
theorem dX6_lost_13 : decode cX6_lost 13 = .ok (.ifCond .eq 13, 3) := by decide +kernel
theorem dX6_lost_16 : decode cX6_lost 16 = .ok (.iload_n 2, 1) := by decide +kernel
theorem dX6_lost_17 : decode cX6_lost 17 = .ok (.iconst 0, 1) := by decide +kernel
theorem dX6_lost_18 : decode cX6_lost 18 = .ok (.bipush 7, 2) := by decide +kernel
theorem dX6_lost_20 : decode cX6_lost 20 = .ok (.invokestatic 57, 3) := by decide +kernel
theorem dX6_lost_23 : decode cX6_lost 23 = .ok (.ifCond .ne 5, 3) := by decide +kernel
theorem dX6_lost_26 : decode cX6_lost 26 = .ok (.iconst (-1), 1) := by decide +kernel
theorem dX6_lost_27 : decode cX6_lost 27 = .ok (.ireturn, 1) := by decide +kernel
theorem dX6_lost_28 : decode cX6_lost 28 = .ok (.aload_n 0, 1) := by decide +kernel
theorem dX6_lost_29 : decode cX6_lost 29 = .ok (.invokevirtual 178, 3) := by decide +kernel
theorem dX6_lost_32 : decode cX6_lost 32 = .ok (.iconst 0, 1) := by decide +kernel
theorem dX6_lost_33 : decode cX6_lost 33 = .ok (.istore_n 3, 1) := by decide +kernel
theorem dX6_lost_34 : decode cX6_lost 34 = .ok (.iload_n 3, 1) := by decide +kernel
theorem dX6_lost_35 : decode cX6_lost 35 = .ok (.iload_n 2, 1) := by decide +kernel
theorem dX6_lost_36 : decode cX6_lost 36 = .ok (.if_icmp .ge 25, 3) := by decide +kernel
theorem dX6_lost_39 : decode cX6_lost 39 = .ok (.aload_n 0, 1) := by decide +kernel
theorem dX6_lost_40 : decode cX6_lost 40 = .ok (.aload_n 0, 1) := by decide +kernel
theorem dX6_lost_41 : decode cX6_lost 41 = .ok (.getfield 28, 3) := by decide +kernel
theorem dX6_lost_44 : decode cX6_lost 44 = .ok (.iload_n 1, 1) := by decide +kernel
theorem dX6_lost_45 : decode cX6_lost 45 = .ok (.iload_n 3, 1) := by decide +kernel
theorem dX6_lost_46 : decode cX6_lost 46 = .ok (.iadd, 1) := by decide +kernel
theorem dX6_lost_47 : decode cX6_lost 47 = .ok (.sipush 10000, 3) := by decide +kernel
theorem dX6_lost_50 : decode cX6_lost 50 = .ok (.irem, 1) := by decide +kernel
theorem dX6_lost_51 : decode cX6_lost 51 = .ok (.invokevirtual 164, 3) := by decide +kernel
theorem dX6_lost_54 : decode cX6_lost 54 = .ok (.pop, 1) := by decide +kernel
theorem dX6_lost_55 : decode cX6_lost 55 = .ok (.iinc 3 1, 3) := by decide +kernel
theorem dX6_lost_58 : decode cX6_lost 58 = .ok (.goto (-24), 3) := by decide +kernel
theorem dX6_lost_61 : decode cX6_lost 61 = .ok (.aload_n 0, 1) := by decide +kernel
theorem dX6_lost_62 : decode cX6_lost 62 = .ok (.getfield 28, 3) := by decide +kernel
theorem dX6_lost_65 : decode cX6_lost 65 = .ok (.iconst 4, 1) := by decide +kernel
theorem dX6_lost_66 : decode cX6_lost 66 = .ok (.iaload, 1) := by decide +kernel
theorem dX6_lost_67 : decode cX6_lost 67 = .ok (.ireturn, 1) := by decide +kernel
set_option maxRecDepth 20000 in
theorem ggX6_draw_X6_isThing : GoodIn wsX6_draw wsX6_isThing := goodIn_r _ [7, 8, 9, 10, 6, 11, 38, 39, 40, 41, 42, 43, 44, 45, 46, 47, 48, 49, 50, 51, 52, 53, 54, 55, 56, 57, 58, 59, 60, 61, 62, 63] (by decide +kernel) (by decide +kernel)
set_option maxRecDepth 20000 in
theorem gX6_draw_X6_isThing : GoodIn wsX6_draw (wsV RX6 138 RX6 yX6_isThing wsX6_isThing) := goodIn_app (goodIn_of _ (by decide +kernel)) ggX6_draw_X6_isThing
set_option maxRecDepth 20000 in
theorem ggX6_draw_X6_in : GoodIn wsX6_draw wsX6_in := goodIn_r _ [11] (by decide +kernel) (by decide +kernel)
set_option maxRecDepth 20000 in
theorem gX6_draw_X6_in : GoodIn wsX6_draw (va_wsS RX6 57 yX6_in wsX6_in) := goodIn_app (goodIn_of _ (by decide +kernel)) ggX6_draw_X6_in
set_option maxRecDepth 20000 in
theorem ggX6_draw_X6_comesBy : GoodIn wsX6_draw wsX6_comesBy := goodIn_r _ [15, 16, 17, 18, 19, 20, 21, 22, 23, 6, 24, 8, 25, 26, 27, 28, 29, 30, 31, 32, 33, 34, 35, 36, 37, 38, 39, 40, 41, 42, 43, 44, 45, 46, 47, 48, 49, 50, 51, 52, 53, 54, 55, 56, 57, 58, 59, 60, 61, 62, 63] (by decide +kernel) (by decide +kernel)
set_option maxRecDepth 20000 in
theorem gX6_draw_X6_comesBy : GoodIn wsX6_draw (wsV RX6 160 RX6 yX6_comesBy wsX6_comesBy) := goodIn_app (goodIn_of _ (by decide +kernel)) ggX6_draw_X6_comesBy
theorem dX6_draw_0 : decode cX6_draw 0 = .ok (.aload_n 0, 1) := by decide +kernel
theorem dX6_draw_1 : decode cX6_draw 1 = .ok (.iconst 0, 1) := by decide +kernel
theorem dX6_draw_2 : decode cX6_draw 2 = .ok (.putfield 53, 3) := by decide +kernel
theorem dX6_draw_5 : decode cX6_draw 5 = .ok (.aload_n 0, 1) := by decide +kernel
theorem dX6_draw_6 : decode cX6_draw 6 = .ok (.iload_n 1, 1) := by decide +kernel
theorem dX6_draw_7 : decode cX6_draw 7 = .ok (.invokevirtual 138, 3) := by decide +kernel
theorem dX6_draw_10 : decode cX6_draw 10 = .ok (.ifCond .eq 12, 3) := by decide +kernel
theorem dX6_draw_13 : decode cX6_draw 13 = .ok (.iload_n 2, 1) := by decide +kernel
theorem dX6_draw_14 : decode cX6_draw 14 = .ok (.iconst 0, 1) := by decide +kernel
theorem dX6_draw_15 : decode cX6_draw 15 = .ok (.iconst 1, 1) := by decide +kernel
theorem dX6_draw_16 : decode cX6_draw 16 = .ok (.invokestatic 57, 3) := by decide +kernel
theorem dX6_draw_19 : decode cX6_draw 19 = .ok (.ifCond .ne 5, 3) := by decide +kernel
theorem dX6_draw_22 : decode cX6_draw 22 = .ok (.iconst (-1), 1) := by decide +kernel
theorem dX6_draw_23 : decode cX6_draw 23 = .ok (.ireturn, 1) := by decide +kernel
theorem dX6_draw_24 : decode cX6_draw 24 = .ok (.iconst 0, 1) := by decide +kernel
theorem dX6_draw_25 : decode cX6_draw 25 = .ok (.istore_n 3, 1) := by decide +kernel
theorem dX6_draw_26 : decode cX6_draw 26 = .ok (.bipush (-9), 2) := by decide +kernel
theorem dX6_draw_28 : decode cX6_draw 28 = .ok (.istore 4, 2) := by decide +kernel
theorem dX6_draw_30 : decode cX6_draw 30 = .ok (.iconst 0, 1) := by decide +kernel
theorem dX6_draw_31 : decode cX6_draw 31 = .ok (.istore 5, 2) := by decide +kernel
theorem dX6_draw_33 : decode cX6_draw 33 = .ok (.iload 5, 2) := by decide +kernel
theorem dX6_draw_35 : decode cX6_draw 35 = .ok (.sipush 500, 3) := by decide +kernel
theorem dX6_draw_38 : decode cX6_draw 38 = .ok (.if_icmp .ge 39, 3) := by decide +kernel
theorem dX6_draw_41 : decode cX6_draw 41 = .ok (.aload_n 0, 1) := by decide +kernel
theorem dX6_draw_42 : decode cX6_draw 42 = .ok (.aload_n 0, 1) := by decide +kernel
theorem dX6_draw_43 : decode cX6_draw 43 = .ok (.getfield 25, 3) := by decide +kernel
theorem dX6_draw_46 : decode cX6_draw 46 = .ok (.iload 5, 2) := by decide +kernel
theorem dX6_draw_48 : decode cX6_draw 48 = .ok (.invokevirtual 160, 3) := by decide +kernel
theorem dX6_draw_51 : decode cX6_draw 51 = .ok (.iload_n 1, 1) := by decide +kernel
theorem dX6_draw_52 : decode cX6_draw 52 = .ok (.if_icmp .ne 19, 3) := by decide +kernel
theorem dX6_draw_55 : decode cX6_draw 55 = .ok (.iload_n 3, 1) := by decide +kernel
theorem dX6_draw_56 : decode cX6_draw 56 = .ok (.ifCond .ne 8, 3) := by decide +kernel
theorem dX6_draw_59 : decode cX6_draw 59 = .ok (.iload 5, 2) := by decide +kernel
theorem dX6_draw_61 : decode cX6_draw 61 = .ok (.goto 5, 3) := by decide +kernel
theorem dX6_draw_64 : decode cX6_draw 64 = .ok (.iload 4, 2) := by decide +kernel
theorem dX6_draw_66 : decode cX6_draw 66 = .ok (.istore 4, 2) := by decide +kernel
theorem dX6_draw_68 : decode cX6_draw 68 = .ok (.iinc 3 1, 3) := by decide +kernel
theorem dX6_draw_71 : decode cX6_draw 71 = .ok (.iinc 5 1, 3) := by decide +kernel
theorem dX6_draw_74 : decode cX6_draw 74 = .ok (.goto (-41), 3) := by decide +kernel
theorem dX6_draw_77 : decode cX6_draw 77 = .ok (.iload_n 2, 1) := by decide +kernel
theorem dX6_draw_78 : decode cX6_draw 78 = .ok (.ifCond .ne 7, 3) := by decide +kernel
theorem dX6_draw_81 : decode cX6_draw 81 = .ok (.iload_n 3, 1) := by decide +kernel
theorem dX6_draw_82 : decode cX6_draw 82 = .ok (.goto 5, 3) := by decide +kernel
theorem dX6_draw_85 : decode cX6_draw 85 = .ok (.iload 4, 2) := by decide +kernel
theorem dX6_draw_87 : decode cX6_draw 87 = .ok (.ireturn, 1) := by decide +kernel
set_option maxRecDepth 20000 in
theorem ggX6_rate_X6_in : GoodIn wsX6_rate wsX6_in := goodIn_r _ [16] (by decide +kernel) (by decide +kernel)
set_option maxRecDepth 20000 in
theorem gX6_rate_X6_in : GoodIn wsX6_rate (va_wsS RX6 57 yX6_in wsX6_in) := goodIn_app (goodIn_of _ (by decide +kernel)) ggX6_rate_X6_in
set_option maxRecDepth 20000 in
theorem ggX6_rate_X6_isThing : GoodIn wsX6_rate wsX6_isThing := goodIn_r _ [20, 21, 13, 14, 15, 16, 25, 26, 27, 28, 29, 30, 31, 32, 33, 34, 35, 36, 37, 38, 39, 40, 41, 42, 43, 44, 45, 46, 47, 48, 49, 50] (by decide +kernel) (by decide +kernel)
set_option maxRecDepth 20000 in
theorem gX6_rate_X6_isThing : GoodIn wsX6_rate (wsV RX6 138 RX6 yX6_isThing wsX6_isThing) := goodIn_app (goodIn_of _ (by decide +kernel)) ggX6_rate_X6_isThing
set_option maxRecDepth 20000 in
theorem ggX6_rate_X6_ones : GoodIn wsX6_rate wsX6_ones := goodIn_r _ [24] (by decide +kernel) (by decide +kernel)
set_option maxRecDepth 20000 in
theorem gX6_rate_X6_ones : GoodIn wsX6_rate (va_wsS RX6 145 yX6_ones wsX6_ones) := goodIn_app (goodIn_of _ (by decide +kernel)) ggX6_rate_X6_ones
theorem dX6_rate_0 : decode cX6_rate 0 = .ok (.aload_n 0, 1) := by decide +kernel
theorem dX6_rate_1 : decode cX6_rate 1 = .ok (.iconst 0, 1) := by decide +kernel
theorem dX6_rate_2 : decode cX6_rate 2 = .ok (.putfield 53, 3) := by decide +kernel
theorem dX6_rate_5 : decode cX6_rate 5 = .ok (.iload_n 1, 1) := by decide +kernel
theorem dX6_rate_6 : decode cX6_rate 6 = .ok (.iconst 0, 1) := by decide +kernel
theorem dX6_rate_7 : decode cX6_rate 7 = .ok (.iconst 5, 1) := by decide +kernel
theorem dX6_rate_8 : decode cX6_rate 8 = .ok (.invokestatic 57, 3) := by decide +kernel
theorem dX6_rate_11 : decode cX6_rate 11 = .ok (.ifCond .eq 11, 3) := by decide +kernel
theorem dX6_rate_14 : decode cX6_rate 14 = .ok (.aload_n 0, 1) := by decide +kernel
theorem dX6_rate_15 : decode cX6_rate 15 = .ok (.iload_n 2, 1) := by decide +kernel
theorem dX6_rate_16 : decode cX6_rate 16 = .ok (.invokevirtual 138, 3) := by decide +kernel
theorem dX6_rate_19 : decode cX6_rate 19 = .ok (.ifCond .ne 6, 3) := by decide +kernel
theorem dX6_rate_22 : decode cX6_rate 22 = .ok (.ldc 177, 2) := by decide +kernel
theorem dX6_rate_24 : decode cX6_rate 24 = .ok (.ireturn, 1) := by decide +kernel
theorem dX6_rate_25 : decode cX6_rate 25 = .ok (.aload_n 0, 1) := by decide +kernel
theorem dX6_rate_26 : decode cX6_rate 26 = .ok (.getfield 19, 3) := by decide +kernel
theorem dX6_rate_29 : decode cX6_rate 29 = .ok (.iload_n 2, 1) := by decide +kernel
theorem dX6_rate_30 : decode cX6_rate 30 = .ok (.iaload, 1) := by decide +kernel
theorem dX6_rate_31 : decode cX6_rate 31 = .ok (.aload_n 0, 1) := by decide +kernel
theorem dX6_rate_32 : decode cX6_rate 32 = .ok (.getfield 22, 3) := by decide +kernel
theorem dX6_rate_35 : decode cX6_rate 35 = .ok (.iload_n 2, 1) := by decide +kernel
theorem dX6_rate_36 : decode cX6_rate 36 = .ok (.iaload, 1) := by decide +kernel
theorem dX6_rate_37 : decode cX6_rate 37 = .ok (.iadd, 1) := by decide +kernel
theorem dX6_rate_38 : decode cX6_rate 38 = .ok (.istore_n 3, 1) := by decide +kernel
theorem dX6_rate_39 : decode cX6_rate 39 = .ok (.aload_n 0, 1) := by decide +kernel
theorem dX6_rate_40 : decode cX6_rate 40 = .ok (.getfield 19, 3) := by decide +kernel
theorem dX6_rate_43 : decode cX6_rate 43 = .ok (.iload_n 2, 1) := by decide +kernel
theorem dX6_rate_44 : decode cX6_rate 44 = .ok (.iaload, 1) := by decide +kernel
theorem dX6_rate_45 : decode cX6_rate 45 = .ok (.aload_n 0, 1) := by decide +kernel
theorem dX6_rate_46 : decode cX6_rate 46 = .ok (.getfield 16, 3) := by decide +kernel
theorem dX6_rate_49 : decode cX6_rate 49 = .ok (.iload_n 2, 1) := by decide +kernel
theorem dX6_rate_50 : decode cX6_rate 50 = .ok (.iaload, 1) := by decide +kernel
theorem dX6_rate_51 : decode cX6_rate 51 = .ok (.invokestatic 145, 3) := by decide +kernel
theorem dX6_rate_54 : decode cX6_rate 54 = .ok (.isub, 1) := by decide +kernel
theorem dX6_rate_55 : decode cX6_rate 55 = .ok (.istore 4, 2) := by decide +kernel
theorem dX6_rate_57 : decode cX6_rate 57 = .ok (.aload_n 0, 1) := by decide +kernel
theorem dX6_rate_58 : decode cX6_rate 58 = .ok (.dup, 1) := by decide +kernel
theorem dX6_rate_59 : decode cX6_rate 59 = .ok (.getfield 185, 3) := by decide +kernel
theorem dX6_rate_62 : decode cX6_rate 62 = .ok (.iload_n 1, 1) := by decide +kernel
theorem dX6_rate_63 : decode cX6_rate 63 = .ok (.ifCond .ne 7, 3) := by decide +kernel
theorem dX6_rate_66 : decode cX6_rate 66 = .ok (.lconst 1, 1) := by decide +kernel
theorem dX6_rate_67 : decode cX6_rate 67 = .ok (.goto 50, 3) := by decide +kernel
theorem dX6_rate_70 : decode cX6_rate 70 = .ok (.iload_n 1, 1) := by decide +kernel
theorem dX6_rate_71 : decode cX6_rate 71 = .ok (.iconst 1, 1) := by decide +kernel
theorem dX6_rate_72 : decode cX6_rate 72 = .ok (.if_icmp .ne 9, 3) := by decide +kernel
theorem dX6_rate_75 : decode cX6_rate 75 = .ok (.ldc2_w 189, 3) := by decide +kernel
theorem dX6_rate_78 : decode cX6_rate 78 = .ok (.goto 39, 3) := by decide +kernel
theorem dX6_rate_81 : decode cX6_rate 81 = .ok (.iload_n 1, 1) := by decide +kernel
theorem dX6_rate_82 : decode cX6_rate 82 = .ok (.iconst 2, 1) := by decide +kernel
theorem dX6_rate_83 : decode cX6_rate 83 = .ok (.if_icmp .ne 9, 3) := by decide +kernel
theorem dX6_rate_86 : decode cX6_rate 86 = .ok (.ldc2_w 191, 3) := by decide +kernel
theorem dX6_rate_89 : decode cX6_rate 89 = .ok (.goto 28, 3) := by decide +kernel
theorem dX6_rate_92 : decode cX6_rate 92 = .ok (.iload_n 1, 1) := by decide +kernel
theorem dX6_rate_93 : decode cX6_rate 93 = .ok (.iconst 3, 1) := by decide +kernel
theorem dX6_rate_94 : decode cX6_rate 94 = .ok (.if_icmp .ne 9, 3) := by decide +kernel
theorem dX6_rate_97 : decode cX6_rate 97 = .ok (.ldc2_w 193, 3) := by decide +kernel
theorem dX6_rate_100 : decode cX6_rate 100 = .ok (.goto 17, 3) := by decide +kernel
theorem dX6_rate_103 : decode cX6_rate 103 = .ok (.iload_n 1, 1) := by decide +kernel
theorem dX6_rate_104 : decode cX6_rate 104 = .ok (.iconst 4, 1) := by decide +kernel
theorem dX6_rate_105 : decode cX6_rate 105 = .ok (.if_icmp .ne 9, 3) := by decide +kernel
theorem dX6_rate_108 : decode cX6_rate 108 = .ok (.ldc2_w 195, 3) := by decide +kernel
theorem dX6_rate_111 : decode cX6_rate 111 = .ok (.goto 6, 3) := by decide +kernel
theorem dX6_rate_114 : decode cX6_rate 114 = .ok (.ldc2_w 197, 3) := by decide +kernel
theorem dX6_rate_117 : decode cX6_rate 117 = .ok (.ladd, 1) := by decide +kernel
theorem dX6_rate_118 : decode cX6_rate 118 = .ok (.putfield 185, 3) := by decide +kernel
theorem dX6_rate_121 : decode cX6_rate 121 = .ok (.iload_n 1, 1) := by decide +kernel
theorem dX6_rate_122 : decode cX6_rate 122 = .ok (.ifCond .ne 12, 3) := by decide +kernel
theorem dX6_rate_125 : decode cX6_rate 125 = .ok (.aload_n 0, 1) := by decide +kernel
theorem dX6_rate_126 : decode cX6_rate 126 = .ok (.getfield 19, 3) := by decide +kernel
theorem dX6_rate_129 : decode cX6_rate 129 = .ok (.iload_n 2, 1) := by decide +kernel
theorem dX6_rate_130 : decode cX6_rate 130 = .ok (.iaload, 1) := by decide +kernel
theorem dX6_rate_131 : decode cX6_rate 131 = .ok (.goto 58, 3) := by decide +kernel
theorem dX6_rate_134 : decode cX6_rate 134 = .ok (.iload_n 1, 1) := by decide +kernel
theorem dX6_rate_135 : decode cX6_rate 135 = .ok (.iconst 1, 1) := by decide +kernel
theorem dX6_rate_136 : decode cX6_rate 136 = .ok (.if_icmp .ne 7, 3) := by decide +kernel
theorem dX6_rate_139 : decode cX6_rate 139 = .ok (.iload_n 3, 1) := by decide +kernel
theorem dX6_rate_140 : decode cX6_rate 140 = .ok (.goto 49, 3) := by decide +kernel
theorem dX6_rate_143 : decode cX6_rate 143 = .ok (.iload_n 1, 1) := by decide +kernel
theorem dX6_rate_144 : decode cX6_rate 144 = .ok (.iconst 2, 1) := by decide +kernel
theorem dX6_rate_145 : decode cX6_rate 145 = .ok (.if_icmp .ne 8, 3) := by decide +kernel
theorem dX6_rate_148 : decode cX6_rate 148 = .ok (.iload 4, 2) := by decide +kernel
theorem dX6_rate_150 : decode cX6_rate 150 = .ok (.goto 39, 3) := by decide +kernel
theorem dX6_rate_153 : decode cX6_rate 153 = .ok (.iload_n 1, 1) := by decide +kernel
theorem dX6_rate_154 : decode cX6_rate 154 = .ok (.iconst 3, 1) := by decide +kernel
theorem dX6_rate_155 : decode cX6_rate 155 = .ok (.if_icmp .ne 9, 3) := by decide +kernel
theorem dX6_rate_158 : decode cX6_rate 158 = .ok (.iconst 2, 1) := by decide +kernel
theorem dX6_rate_159 : decode cX6_rate 159 = .ok (.iload_n 3, 1) := by decide +kernel
theorem dX6_rate_160 : decode cX6_rate 160 = .ok (.imul, 1) := by decide +kernel
theorem dX6_rate_161 : decode cX6_rate 161 = .ok (.goto 28, 3) := by decide +kernel
theorem dX6_rate_164 : decode cX6_rate 164 = .ok (.iload_n 1, 1) := by decide +kernel
theorem dX6_rate_165 : decode cX6_rate 165 = .ok (.iconst 4, 1) := by decide +kernel
theorem dX6_rate_166 : decode cX6_rate 166 = .ok (.if_icmp .ne 10, 3) := by decide +kernel
theorem dX6_rate_169 : decode cX6_rate 169 = .ok (.iload 4, 2) := by decide +kernel
theorem dX6_rate_171 : decode cX6_rate 171 = .ok (.iload_n 2, 1) := by decide +kernel
theorem dX6_rate_172 : decode cX6_rate 172 = .ok (.iadd, 1) := by decide +kernel
theorem dX6_rate_173 : decode cX6_rate 173 = .ok (.goto 16, 3) := by decide +kernel
theorem dX6_rate_176 : decode cX6_rate 176 = .ok (.aload_n 0, 1) := by decide +kernel
theorem dX6_rate_177 : decode cX6_rate 177 = .ok (.getfield 19, 3) := by decide +kernel
theorem dX6_rate_180 : decode cX6_rate 180 = .ok (.iload_n 2, 1) := by decide +kernel
theorem dX6_rate_181 : decode cX6_rate 181 = .ok (.iaload, 1) := by decide +kernel
theorem dX6_rate_182 : decode cX6_rate 182 = .ok (.aload_n 0, 1) := by decide +kernel
theorem dX6_rate_183 : decode cX6_rate 183 = .ok (.getfield 25, 3) := by decide +kernel
theorem dX6_rate_186 : decode cX6_rate 186 = .ok (.iconst 0, 1) := by decide +kernel
theorem dX6_rate_187 : decode cX6_rate 187 = .ok (.iaload, 1) := by decide +kernel
theorem dX6_rate_188 : decode cX6_rate 188 = .ok (.iadd, 1) := by decide +kernel
theorem dX6_rate_189 : decode cX6_rate 189 = .ok (.ireturn, 1) := by decide +kernel
set_option maxRecDepth 20000 in
theorem ggX6_keep_X6_in : GoodIn wsX6_keep wsX6_in := goodIn_r _ [8] (by decide +kernel) (by decide +kernel)
set_option maxRecDepth 20000 in
theorem gX6_keep_X6_in : GoodIn wsX6_keep (va_wsS RX6 57 yX6_in wsX6_in) := goodIn_app (goodIn_of _ (by decide +kernel)) ggX6_keep_X6_in
theorem dX6_keep_0 : decode cX6_keep 0 = .ok (.aload_n 0, 1) := by decide +kernel
theorem dX6_keep_1 : decode cX6_keep 1 = .ok (.iconst 0, 1) := by decide +kernel
theorem dX6_keep_2 : decode cX6_keep 2 = .ok (.putfield 53, 3) := by decide +kernel
theorem dX6_keep_5 : decode cX6_keep 5 = .ok (.iload_n 1, 1) := by decide +kernel
theorem dX6_keep_6 : decode cX6_keep 6 = .ok (.iconst 0, 1) := by decide +kernel
theorem dX6_keep_7 : decode cX6_keep 7 = .ok (.iconst 1, 1) := by decide +kernel
theorem dX6_keep_8 : decode cX6_keep 8 = .ok (.invokestatic 57, 3) := by decide +kernel
theorem dX6_keep_11 : decode cX6_keep 11 = .ok (.ifCond .ne 5, 3) := by decide +kernel
theorem dX6_keep_14 : decode cX6_keep 14 = .ok (.iconst (-1), 1) := by decide +kernel
theorem dX6_keep_15 : decode cX6_keep 15 = .ok (.ireturn, 1) := by decide +kernel
theorem dX6_keep_16 : decode cX6_keep 16 = .ok (.iconst 0, 1) := by decide +kernel
theorem dX6_keep_17 : decode cX6_keep 17 = .ok (.istore_n 2, 1) := by decide +kernel
theorem dX6_keep_18 : decode cX6_keep 18 = .ok (.iload_n 2, 1) := by decide +kernel
theorem dX6_keep_19 : decode cX6_keep 19 = .ok (.iconst 5, 1) := by decide +kernel
theorem dX6_keep_20 : decode cX6_keep 20 = .ok (.if_icmp .ge 25, 3) := by decide +kernel
theorem dX6_keep_23 : decode cX6_keep 23 = .ok (.aload_n 0, 1) := by decide +kernel
theorem dX6_keep_24 : decode cX6_keep 24 = .ok (.getfield 31, 3) := by decide +kernel
theorem dX6_keep_27 : decode cX6_keep 27 = .ok (.iconst 5, 1) := by decide +kernel
theorem dX6_keep_28 : decode cX6_keep 28 = .ok (.iload_n 1, 1) := by decide +kernel
theorem dX6_keep_29 : decode cX6_keep 29 = .ok (.imul, 1) := by decide +kernel
theorem dX6_keep_30 : decode cX6_keep 30 = .ok (.iload_n 2, 1) := by decide +kernel
theorem dX6_keep_31 : decode cX6_keep 31 = .ok (.iadd, 1) := by decide +kernel
theorem dX6_keep_32 : decode cX6_keep 32 = .ok (.aload_n 0, 1) := by decide +kernel
theorem dX6_keep_33 : decode cX6_keep 33 = .ok (.getfield 25, 3) := by decide +kernel
theorem dX6_keep_36 : decode cX6_keep 36 = .ok (.iload_n 2, 1) := by decide +kernel
theorem dX6_keep_37 : decode cX6_keep 37 = .ok (.iaload, 1) := by decide +kernel
theorem dX6_keep_38 : decode cX6_keep 38 = .ok (.iastore, 1) := by decide +kernel
theorem dX6_keep_39 : decode cX6_keep 39 = .ok (.iinc 2 1, 3) := by decide +kernel
theorem dX6_keep_42 : decode cX6_keep 42 = .ok (.goto (-24), 3) := by decide +kernel
theorem dX6_keep_45 : decode cX6_keep 45 = .ok (.aload_n 0, 1) := by decide +kernel
theorem dX6_keep_46 : decode cX6_keep 46 = .ok (.getfield 34, 3) := by decide +kernel
theorem dX6_keep_49 : decode cX6_keep 49 = .ok (.iload_n 1, 1) := by decide +kernel
theorem dX6_keep_50 : decode cX6_keep 50 = .ok (.iconst 1, 1) := by decide +kernel
theorem dX6_keep_51 : decode cX6_keep 51 = .ok (.bastore, 1) := by decide +kernel
theorem dX6_keep_52 : decode cX6_keep 52 = .ok (.aload_n 0, 1) := by decide +kernel
theorem dX6_keep_53 : decode cX6_keep 53 = .ok (.getfield 25, 3) := by decide +kernel
theorem dX6_keep_56 : decode cX6_keep 56 = .ok (.iconst 0, 1) := by decide +kernel
theorem dX6_keep_57 : decode cX6_keep 57 = .ok (.iaload, 1) := by decide +kernel
theorem dX6_keep_58 : decode cX6_keep 58 = .ok (.ireturn, 1) := by decide +kernel
set_option maxRecDepth 20000 in
theorem ggX6_back_X6_in : GoodIn wsX6_back wsX6_in := goodIn_r _ [9] (by decide +kernel) (by decide +kernel)
set_option maxRecDepth 20000 in
theorem gX6_back_X6_in : GoodIn wsX6_back (va_wsS RX6 57 yX6_in wsX6_in) := goodIn_app (goodIn_of _ (by decide +kernel)) ggX6_back_X6_in
theorem dX6_back_0 : decode cX6_back 0 = .ok (.aload_n 0, 1) := by decide +kernel
theorem dX6_back_1 : decode cX6_back 1 = .ok (.iconst 0, 1) := by decide +kernel
theorem dX6_back_2 : decode cX6_back 2 = .ok (.putfield 53, 3) := by decide +kernel
theorem dX6_back_5 : decode cX6_back 5 = .ok (.iload_n 1, 1) := by decide +kernel
theorem dX6_back_6 : decode cX6_back 6 = .ok (.iconst 0, 1) := by decide +kernel
theorem dX6_back_7 : decode cX6_back 7 = .ok (.iconst 1, 1) := by decide +kernel
theorem dX6_back_8 : decode cX6_back 8 = .ok (.invokestatic 57, 3) := by decide +kernel
theorem dX6_back_11 : decode cX6_back 11 = .ok (.ifCond .ne 5, 3) := by decide +kernel
theorem dX6_back_14 : decode cX6_back 14 = .ok (.iconst (-1), 1) := by decide +kernel
theorem dX6_back_15 : decode cX6_back 15 = .ok (.ireturn, 1) := by decide +kernel
theorem dX6_back_16 : decode cX6_back 16 = .ok (.aload_n 0, 1) := by decide +kernel
theorem dX6_back_17 : decode cX6_back 17 = .ok (.getfield 34, 3) := by decide +kernel
theorem dX6_back_20 : decode cX6_back 20 = .ok (.iload_n 1, 1) := by decide +kernel
theorem dX6_back_21 : decode cX6_back 21 = .ok (.baload, 1) := by decide +kernel
theorem dX6_back_22 : decode cX6_back 22 = .ok (.ifCond .ne 6, 3) := by decide +kernel
theorem dX6_back_25 : decode cX6_back 25 = .ok (.bipush (-2), 2) := by decide +kernel
theorem dX6_back_27 : decode cX6_back 27 = .ok (.ireturn, 1) := by decide +kernel
theorem dX6_back_28 : decode cX6_back 28 = .ok (.iconst 0, 1) := by decide +kernel
theorem dX6_back_29 : decode cX6_back 29 = .ok (.istore_n 2, 1) := by decide +kernel
theorem dX6_back_30 : decode cX6_back 30 = .ok (.iload_n 2, 1) := by decide +kernel
theorem dX6_back_31 : decode cX6_back 31 = .ok (.iconst 5, 1) := by decide +kernel
theorem dX6_back_32 : decode cX6_back 32 = .ok (.if_icmp .ge 25, 3) := by decide +kernel
theorem dX6_back_35 : decode cX6_back 35 = .ok (.aload_n 0, 1) := by decide +kernel
theorem dX6_back_36 : decode cX6_back 36 = .ok (.getfield 25, 3) := by decide +kernel
theorem dX6_back_39 : decode cX6_back 39 = .ok (.iload_n 2, 1) := by decide +kernel
theorem dX6_back_40 : decode cX6_back 40 = .ok (.aload_n 0, 1) := by decide +kernel
theorem dX6_back_41 : decode cX6_back 41 = .ok (.getfield 31, 3) := by decide +kernel
theorem dX6_back_44 : decode cX6_back 44 = .ok (.iconst 5, 1) := by decide +kernel
theorem dX6_back_45 : decode cX6_back 45 = .ok (.iload_n 1, 1) := by decide +kernel
theorem dX6_back_46 : decode cX6_back 46 = .ok (.imul, 1) := by decide +kernel
theorem dX6_back_47 : decode cX6_back 47 = .ok (.iload_n 2, 1) := by decide +kernel
theorem dX6_back_48 : decode cX6_back 48 = .ok (.iadd, 1) := by decide +kernel
theorem dX6_back_49 : decode cX6_back 49 = .ok (.iaload, 1) := by decide +kernel
theorem dX6_back_50 : decode cX6_back 50 = .ok (.iastore, 1) := by decide +kernel
theorem dX6_back_51 : decode cX6_back 51 = .ok (.iinc 2 1, 3) := by decide +kernel
theorem dX6_back_54 : decode cX6_back 54 = .ok (.goto (-24), 3) := by decide +kernel
theorem dX6_back_57 : decode cX6_back 57 = .ok (.aload_n 0, 1) := by decide +kernel
theorem dX6_back_58 : decode cX6_back 58 = .ok (.iconst 0, 1) := by decide +kernel
theorem dX6_back_59 : decode cX6_back 59 = .ok (.putfield 111, 3) := by decide +kernel
theorem dX6_back_62 : decode cX6_back 62 = .ok (.aload_n 0, 1) := by decide +kernel
theorem dX6_back_63 : decode cX6_back 63 = .ok (.getfield 25, 3) := by decide +kernel
theorem dX6_back_66 : decode cX6_back 66 = .ok (.iconst 0, 1) := by decide +kernel
theorem dX6_back_67 : decode cX6_back 67 = .ok (.iaload, 1) := by decide +kernel
theorem dX6_back_68 : decode cX6_back 68 = .ok (.ireturn, 1) := by decide +kernel
set_option maxRecDepth 20000 in
theorem ggX6_count_X6_in : GoodIn wsX6_count wsX6_in := goodIn_r _ [8] (by decide +kernel) (by decide +kernel)
set_option maxRecDepth 20000 in
theorem gX6_count_X6_in : GoodIn wsX6_count (va_wsS RX6 57 yX6_in wsX6_in) := goodIn_app (goodIn_of _ (by decide +kernel)) ggX6_count_X6_in
theorem dX6_count_0 : decode cX6_count 0 = .ok (.aload_n 0, 1) := by decide +kernel
theorem dX6_count_1 : decode cX6_count 1 = .ok (.iconst 0, 1) := by decide +kernel
theorem dX6_count_2 : decode cX6_count 2 = .ok (.putfield 53, 3) := by decide +kernel
theorem dX6_count_5 : decode cX6_count 5 = .ok (.iload_n 1, 1) := by decide +kernel
theorem dX6_count_6 : decode cX6_count 6 = .ok (.iconst 0, 1) := by decide +kernel
theorem dX6_count_7 : decode cX6_count 7 = .ok (.iconst 3, 1) := by decide +kernel
theorem dX6_count_8 : decode cX6_count 8 = .ok (.invokestatic 57, 3) := by decide +kernel
theorem dX6_count_11 : decode cX6_count 11 = .ok (.ifCond .eq 12, 3) := by decide +kernel
theorem dX6_count_14 : decode cX6_count 14 = .ok (.aload_n 0, 1) := by decide +kernel
theorem dX6_count_15 : decode cX6_count 15 = .ok (.getfield 13, 3) := by decide +kernel
theorem dX6_count_18 : decode cX6_count 18 = .ok (.iload_n 1, 1) := by decide +kernel
theorem dX6_count_19 : decode cX6_count 19 = .ok (.iaload, 1) := by decide +kernel
theorem dX6_count_20 : decode cX6_count 20 = .ok (.goto 28, 3) := by decide +kernel
theorem dX6_count_23 : decode cX6_count 23 = .ok (.iload_n 1, 1) := by decide +kernel
theorem dX6_count_24 : decode cX6_count 24 = .ok (.iconst 4, 1) := by decide +kernel
theorem dX6_count_25 : decode cX6_count 25 = .ok (.if_icmp .ne 10, 3) := by decide +kernel
theorem dX6_count_28 : decode cX6_count 28 = .ok (.aload_n 0, 1) := by decide +kernel
theorem dX6_count_29 : decode cX6_count 29 = .ok (.getfield 108, 3) := by decide +kernel
theorem dX6_count_32 : decode cX6_count 32 = .ok (.goto 16, 3) := by decide +kernel
theorem dX6_count_35 : decode cX6_count 35 = .ok (.iload_n 1, 1) := by decide +kernel
theorem dX6_count_36 : decode cX6_count 36 = .ok (.iconst 5, 1) := by decide +kernel
theorem dX6_count_37 : decode cX6_count 37 = .ok (.if_icmp .ne 10, 3) := by decide +kernel
theorem dX6_count_40 : decode cX6_count 40 = .ok (.aload_n 0, 1) := by decide +kernel
theorem dX6_count_41 : decode cX6_count 41 = .ok (.getfield 61, 3) := by decide +kernel
theorem dX6_count_44 : decode cX6_count 44 = .ok (.goto 4, 3) := by decide +kernel
theorem dX6_count_47 : decode cX6_count 47 = .ok (.iconst (-1), 1) := by decide +kernel
theorem dX6_count_48 : decode cX6_count 48 = .ok (.ireturn, 1) := by decide +kernel
theorem dX6_trace_0 : decode cX6_trace 0 = .ok (.aload_n 0, 1) := by decide +kernel
theorem dX6_trace_1 : decode cX6_trace 1 = .ok (.iconst 0, 1) := by decide +kernel
theorem dX6_trace_2 : decode cX6_trace 2 = .ok (.putfield 53, 3) := by decide +kernel
theorem dX6_trace_5 : decode cX6_trace 5 = .ok (.aload_n 0, 1) := by decide +kernel
theorem dX6_trace_6 : decode cX6_trace 6 = .ok (.getfield 185, 3) := by decide +kernel
theorem dX6_trace_9 : decode cX6_trace 9 = .ok (.lreturn, 1) := by decide +kernel
theorem dJ6_compare_7cf53_0 : decode cJ6_compare_7cf53 0 = .ok (.iload_n 0, 1) := by decide +kernel
theorem dJ6_compare_7cf53_1 : decode cJ6_compare_7cf53 1 = .ok (.iload_n 1, 1) := by decide +kernel
theorem dJ6_compare_7cf53_2 : decode cJ6_compare_7cf53 2 = .ok (.if_icmp .ge 7, 3) := by decide +kernel
theorem dJ6_compare_7cf53_5 : decode cJ6_compare_7cf53 5 = .ok (.iconst (-1), 1) := by decide +kernel
theorem dJ6_compare_7cf53_6 : decode cJ6_compare_7cf53 6 = .ok (.goto 13, 3) := by decide +kernel
theorem dJ6_compare_7cf53_9 : decode cJ6_compare_7cf53 9 = .ok (.iload_n 0, 1) := by decide +kernel
theorem dJ6_compare_7cf53_10 : decode cJ6_compare_7cf53 10 = .ok (.iload_n 1, 1) := by decide +kernel
theorem dJ6_compare_7cf53_11 : decode cJ6_compare_7cf53 11 = .ok (.if_icmp .ne 7, 3) := by decide +kernel
theorem dJ6_compare_7cf53_14 : decode cJ6_compare_7cf53 14 = .ok (.iconst 0, 1) := by decide +kernel
theorem dJ6_compare_7cf53_15 : decode cJ6_compare_7cf53 15 = .ok (.goto 4, 3) := by decide +kernel
theorem dJ6_compare_7cf53_18 : decode cJ6_compare_7cf53 18 = .ok (.iconst 1, 1) := by decide +kernel
theorem dJ6_compare_7cf53_19 : decode cJ6_compare_7cf53 19 = .ok (.ireturn, 1) := by decide +kernel
theorem dJ6_bitCount_0f7a4_0 : decode cJ6_bitCount_0f7a4 0 = .ok (.iload_n 0, 1) := by decide +kernel
theorem dJ6_bitCount_0f7a4_1 : decode cJ6_bitCount_0f7a4 1 = .ok (.iload_n 0, 1) := by decide +kernel
theorem dJ6_bitCount_0f7a4_2 : decode cJ6_bitCount_0f7a4 2 = .ok (.iconst 1, 1) := by decide +kernel
theorem dJ6_bitCount_0f7a4_3 : decode cJ6_bitCount_0f7a4 3 = .ok (.iushr, 1) := by decide +kernel
theorem dJ6_bitCount_0f7a4_4 : decode cJ6_bitCount_0f7a4 4 = .ok (.ldc_w 265, 3) := by decide +kernel
theorem dJ6_bitCount_0f7a4_7 : decode cJ6_bitCount_0f7a4 7 = .ok (.iand, 1) := by decide +kernel
theorem dJ6_bitCount_0f7a4_8 : decode cJ6_bitCount_0f7a4 8 = .ok (.isub, 1) := by decide +kernel
theorem dJ6_bitCount_0f7a4_9 : decode cJ6_bitCount_0f7a4 9 = .ok (.istore_n 0, 1) := by decide +kernel
theorem dJ6_bitCount_0f7a4_10 : decode cJ6_bitCount_0f7a4 10 = .ok (.iload_n 0, 1) := by decide +kernel
theorem dJ6_bitCount_0f7a4_11 : decode cJ6_bitCount_0f7a4 11 = .ok (.ldc_w 266, 3) := by decide +kernel
theorem dJ6_bitCount_0f7a4_14 : decode cJ6_bitCount_0f7a4 14 = .ok (.iand, 1) := by decide +kernel
theorem dJ6_bitCount_0f7a4_15 : decode cJ6_bitCount_0f7a4 15 = .ok (.iload_n 0, 1) := by decide +kernel
theorem dJ6_bitCount_0f7a4_16 : decode cJ6_bitCount_0f7a4 16 = .ok (.iconst 2, 1) := by decide +kernel
theorem dJ6_bitCount_0f7a4_17 : decode cJ6_bitCount_0f7a4 17 = .ok (.iushr, 1) := by decide +kernel
theorem dJ6_bitCount_0f7a4_18 : decode cJ6_bitCount_0f7a4 18 = .ok (.ldc_w 266, 3) := by decide +kernel
theorem dJ6_bitCount_0f7a4_21 : decode cJ6_bitCount_0f7a4 21 = .ok (.iand, 1) := by decide +kernel
theorem dJ6_bitCount_0f7a4_22 : decode cJ6_bitCount_0f7a4 22 = .ok (.iadd, 1) := by decide +kernel
theorem dJ6_bitCount_0f7a4_23 : decode cJ6_bitCount_0f7a4 23 = .ok (.istore_n 0, 1) := by decide +kernel
theorem dJ6_bitCount_0f7a4_24 : decode cJ6_bitCount_0f7a4 24 = .ok (.iload_n 0, 1) := by decide +kernel
theorem dJ6_bitCount_0f7a4_25 : decode cJ6_bitCount_0f7a4 25 = .ok (.iload_n 0, 1) := by decide +kernel
theorem dJ6_bitCount_0f7a4_26 : decode cJ6_bitCount_0f7a4 26 = .ok (.iconst 4, 1) := by decide +kernel
theorem dJ6_bitCount_0f7a4_27 : decode cJ6_bitCount_0f7a4 27 = .ok (.iushr, 1) := by decide +kernel
theorem dJ6_bitCount_0f7a4_28 : decode cJ6_bitCount_0f7a4 28 = .ok (.iadd, 1) := by decide +kernel
theorem dJ6_bitCount_0f7a4_29 : decode cJ6_bitCount_0f7a4 29 = .ok (.ldc_w 267, 3) := by decide +kernel
theorem dJ6_bitCount_0f7a4_32 : decode cJ6_bitCount_0f7a4 32 = .ok (.iand, 1) := by decide +kernel
theorem dJ6_bitCount_0f7a4_33 : decode cJ6_bitCount_0f7a4 33 = .ok (.istore_n 0, 1) := by decide +kernel
theorem dJ6_bitCount_0f7a4_34 : decode cJ6_bitCount_0f7a4 34 = .ok (.iload_n 0, 1) := by decide +kernel
theorem dJ6_bitCount_0f7a4_35 : decode cJ6_bitCount_0f7a4 35 = .ok (.iload_n 0, 1) := by decide +kernel
theorem dJ6_bitCount_0f7a4_36 : decode cJ6_bitCount_0f7a4 36 = .ok (.bipush 8, 2) := by decide +kernel
theorem dJ6_bitCount_0f7a4_38 : decode cJ6_bitCount_0f7a4 38 = .ok (.iushr, 1) := by decide +kernel
theorem dJ6_bitCount_0f7a4_39 : decode cJ6_bitCount_0f7a4 39 = .ok (.iadd, 1) := by decide +kernel
theorem dJ6_bitCount_0f7a4_40 : decode cJ6_bitCount_0f7a4 40 = .ok (.istore_n 0, 1) := by decide +kernel
theorem dJ6_bitCount_0f7a4_41 : decode cJ6_bitCount_0f7a4 41 = .ok (.iload_n 0, 1) := by decide +kernel
theorem dJ6_bitCount_0f7a4_42 : decode cJ6_bitCount_0f7a4 42 = .ok (.iload_n 0, 1) := by decide +kernel
theorem dJ6_bitCount_0f7a4_43 : decode cJ6_bitCount_0f7a4 43 = .ok (.bipush 16, 2) := by decide +kernel
theorem dJ6_bitCount_0f7a4_45 : decode cJ6_bitCount_0f7a4 45 = .ok (.iushr, 1) := by decide +kernel
theorem dJ6_bitCount_0f7a4_46 : decode cJ6_bitCount_0f7a4 46 = .ok (.iadd, 1) := by decide +kernel
theorem dJ6_bitCount_0f7a4_47 : decode cJ6_bitCount_0f7a4 47 = .ok (.istore_n 0, 1) := by decide +kernel
theorem dJ6_bitCount_0f7a4_48 : decode cJ6_bitCount_0f7a4 48 = .ok (.iload_n 0, 1) := by decide +kernel
theorem dJ6_bitCount_0f7a4_49 : decode cJ6_bitCount_0f7a4 49 = .ok (.bipush 63, 2) := by decide +kernel
theorem dJ6_bitCount_0f7a4_51 : decode cJ6_bitCount_0f7a4 51 = .ok (.iand, 1) := by decide +kernel
theorem dJ6_bitCount_0f7a4_52 : decode cJ6_bitCount_0f7a4 52 = .ok (.ireturn, 1) := by decide +kernel
theorem dJ9_abs_0f7a4_0 : decode cJ9_abs_0f7a4 0 = .ok (.iload_n 0, 1) := by decide +kernel
theorem dJ9_abs_0f7a4_1 : decode cJ9_abs_0f7a4 1 = .ok (.ifCond .ge 8, 3) := by decide +kernel
theorem dJ9_abs_0f7a4_4 : decode cJ9_abs_0f7a4 4 = .ok (.iload_n 0, 1) := by decide +kernel
theorem dJ9_abs_0f7a4_5 : decode cJ9_abs_0f7a4 5 = .ok (.ineg, 1) := by decide +kernel
theorem dJ9_abs_0f7a4_6 : decode cJ9_abs_0f7a4 6 = .ok (.goto 4, 3) := by decide +kernel
theorem dJ9_abs_0f7a4_9 : decode cJ9_abs_0f7a4 9 = .ok (.iload_n 0, 1) := by decide +kernel
theorem dJ9_abs_0f7a4_10 : decode cJ9_abs_0f7a4 10 = .ok (.ireturn, 1) := by decide +kernel
theorem dJ9_max_7cf53_0 : decode cJ9_max_7cf53 0 = .ok (.iload_n 0, 1) := by decide +kernel
theorem dJ9_max_7cf53_1 : decode cJ9_max_7cf53 1 = .ok (.iload_n 1, 1) := by decide +kernel
theorem dJ9_max_7cf53_2 : decode cJ9_max_7cf53 2 = .ok (.if_icmp .lt 7, 3) := by decide +kernel
theorem dJ9_max_7cf53_5 : decode cJ9_max_7cf53 5 = .ok (.iload_n 0, 1) := by decide +kernel
theorem dJ9_max_7cf53_6 : decode cJ9_max_7cf53 6 = .ok (.goto 4, 3) := by decide +kernel
theorem dJ9_max_7cf53_9 : decode cJ9_max_7cf53 9 = .ok (.iload_n 1, 1) := by decide +kernel
theorem dJ9_max_7cf53_10 : decode cJ9_max_7cf53 10 = .ok (.ireturn, 1) := by decide +kernel
theorem dJ9_min_7cf53_0 : decode cJ9_min_7cf53 0 = .ok (.iload_n 0, 1) := by decide +kernel
theorem dJ9_min_7cf53_1 : decode cJ9_min_7cf53 1 = .ok (.iload_n 1, 1) := by decide +kernel
theorem dJ9_min_7cf53_2 : decode cJ9_min_7cf53 2 = .ok (.if_icmp .gt 7, 3) := by decide +kernel
theorem dJ9_min_7cf53_5 : decode cJ9_min_7cf53 5 = .ok (.iload_n 0, 1) := by decide +kernel
theorem dJ9_min_7cf53_6 : decode cJ9_min_7cf53 6 = .ok (.goto 4, 3) := by decide +kernel
theorem dJ9_min_7cf53_9 : decode cJ9_min_7cf53 9 = .ok (.iload_n 1, 1) := by decide +kernel
theorem dJ9_min_7cf53_10 : decode cJ9_min_7cf53 10 = .ok (.ireturn, 1) := by decide +kernel
end
section
/-! My own words for contracts: the environment EN, the starts PcE, the ends QcR (reads), QcM (writes to its own cells), and the rows that call such contracts. -/
def EN (D : va_G) (cI cC cZ cS : ClassId) (U : State) : Prop :=
  va_K D vwCl [(cI, .int), (cC, .char), (cZ, .boolean), (cS, .object "FirstOut$Standing")] U ∧ va_Nw (.methodLinkNest RX0 68 yX5_bitOf "FirstOut") U ∧ va_Nw (.methodLinkNest RX2 22 yX5_bitOf "FirstOut") U ∧ va_Nw (.methodLinkNest RX1 17 yX3_init "FirstOut") U ∧ va_Nw (.methodLinkNest RX5 21 yX4_init "FirstOut") U ∧ va_Nw (.methodLinkNest RX5 28 yX3_init "FirstOut") U ∧ va_Nw (.methodLinkNest RX5 53 yX2_init "FirstOut") U ∧ va_AO "FirstOut$Standing" U
theorem EN.warm {D : va_G} {cI cC cZ cS : ClassId} {s U : State} (hW : s.WarmedH U.vm) (h : EN D cI cC cZ cS s) : EN D cI cC cZ cS U := by
  obtain ⟨h1, h2, h3, h4, h5, h6, h7, h8⟩ := h
  exact ⟨va_K.moved hW.alike h1, va_Nw.warmM hW h2, va_Nw.warmM hW h3, va_Nw.warmM hW h4, va_Nw.warmM hW h5, va_Nw.warmM hW h6, va_Nw.warmM hW h7, va_AO.moved hW.alike h8⟩
theorem EN.call {D : va_G} {cI cC cZ cS : ClassId} {U : State} {g : JFrame} {mk : MethodId} {a : Array Value} (h : EN D cI cC cZ cS U) : EN D cI cC cZ cS (U.calling g mk a) := by
  obtain ⟨h1, h2, h3, h4, h5, h6, h7, h8⟩ := h
  exact ⟨va_K.moved (u := U) (U := U.calling g mk a) (Vm.Alike.refl U.vm) h1, va_Nw.same rfl (u := U) (U := U.calling g mk a) rfl h2, va_Nw.same rfl (u := U) (U := U.calling g mk a) rfl h3, va_Nw.same rfl (u := U) (U := U.calling g mk a) rfl h4, va_Nw.same rfl (u := U) (U := U.calling g mk a) rfl h5, va_Nw.same rfl (u := U) (U := U.calling g mk a) rfl h6, va_Nw.same rfl (u := U) (U := U.calling g mk a) rfl h7, va_AO.moved (u := U) (U := U.calling g mk a) (Vm.Alike.refl U.vm) h8⟩
def PcE (D : va_G) (cI cC cZ cS : ClassId) (av : List Value) (ws : va_W) : Array Value → State → Prop := va_Pc av (fun U => va_P D vwCl ws U.heap ∧ va_D (fun _ => True) ws ∧ EN D cI cC cZ cS U)
theorem PcE.blind {D : va_G} {cI cC cZ cS : ClassId} {av : List Value} {ws : va_W} : FrameBlind (PcE D cI cC cZ cS av ws) := by
  intro a U g mk h
  obtain ⟨h1, h2, h3, h4⟩ := h
  exact ⟨h1, h2, h3, h4.call⟩
theorem preS_of {D : va_G} {cI cC cZ cS : ClassId} {av : List Value} {ws : va_W} {A : Nat → Prop} {s : State} {H : Heap} (hP : va_P D vwCl ws H) (hD : va_D A ws) (hE : EN D cI cC cZ cS s) : PreS s H (PcE D cI cC cZ cS av ws) av :=
  ⟨PcE.blind, fun U hU hW => ⟨rfl, by rw [hU]; exact hP, hD.weaken (fun _ _ _ _ => trivial), hE.warm hW⟩⟩
theorem preV_of {D : va_G} {cI cC cZ cS : ClassId} {As : List Value} {b : Nat} {C : String} {ws : va_W} {A : Nat → Prop} {s : State} {H : Heap} (hP : va_P D vwCl ws H) (hD : va_D A ws) (hE : EN D cI cC cZ cS s) (hr : ∃ cellB : Cell, H[b]? = some cellB ∧ cellB.vm.isStatics = false ∧ s.vm.findClass C = some cellB.cls) : PreV s H C b (PcE D cI cC cZ cS (.ref b :: As) ws) As :=
  ⟨PcE.blind, hr, fun U hU hW => ⟨rfl, by rw [hU]; exact hP, hD.weaken (fun _ _ _ _ => trivial), hE.warm hW⟩⟩
/-- a method that only reads -/
def QcR (r : Option Value) : Array Value → State → Outcome → State → Prop := fun _ st o t => o = .returned r ∧ t.heap = st.heap
def inW (ws : va_W) : Nat → Prop := fun q => ∃ (k : Nat) (e : va_E), ws[k]? = some (q, e)
/-- a method that writes its own cells ws, which become ws' -/
def QcM (r : Option Value) (D : va_G) (ws ws' : va_W) : Array Value → State → Outcome → State → Prop := fun _ st o t => o = .returned r ∧ va_P D vwCl ws' t.heap ∧ va_F (inW ws) st t
def patch : va_W → List Nat → va_W → va_W
  | W0, i :: is, w :: ws => patch (W0.set i w) is ws
  | W0, _, _ => W0
theorem inW_self {ws : va_W} {A : Nat → Prop} (h : va_D A ws) : va_D (inW ws) ws := ⟨h.1, fun k q hk => ⟨k, q.2, hk⟩⟩
theorem patch_at : ∀ (is : List Nat) (ws W0 : va_W) (k : Nat) (q : Nat × va_E), (patch W0 is ws)[k]? = some q → (∃ j : Nat, ws[j]? = some q ∧ is[j]? = some k) ∨ (W0[k]? = some q ∧ ∀ j i : Nat, is[j]? = some i → j < ws.length → i ≠ k) := by
  intro is
  induction is with
  | nil =>
    intro ws W0 k q h
    refine Or.inr ⟨?_, fun j i hj => by simp at hj⟩
    cases ws <;> exact h
  | cons i is ih =>
    intro ws W0 k q h
    cases ws with
    | nil => exact Or.inr ⟨h, fun j i' _ hj => by simp at hj⟩
    | cons w ws =>
      rcases ih ws (W0.set i w) k q h with ⟨j, h1, h2⟩ | ⟨h1, h2⟩
      · exact Or.inl ⟨j + 1, h1, h2⟩
      · by_cases e : i = k
        · subst e
          have h3 : w = q := by
            rw [List.getElem?_set] at h1
            by_cases hl : i < W0.length
            · simp [hl] at h1; exact h1
            · simp [hl] at h1
          exact Or.inl ⟨0, by rw [h3]; rfl, rfl⟩
        · refine Or.inr ⟨by rw [List.getElem?_set_ne e] at h1; exact h1, ?_⟩
          intro j i' hj hl
          cases j with
          | zero => simp at hj; subst hj; exact e
          | succ j => exact h2 j i' hj (by simpa using hl)
theorem patch_fst : ∀ (is : List Nat) (ws W0 : va_W), is.map (fun i => (W0[i]?).map Prod.fst) = ws.map (fun w => some w.1) → (patch W0 is ws).map Prod.fst = W0.map Prod.fst := by
  intro is
  induction is with
  | nil => intro ws W0 _; cases ws <;> rfl
  | cons i is ih =>
    intro ws W0 h
    cases ws with
    | nil => rfl
    | cons w ws =>
      have h0 : (W0[i]?).map Prod.fst = some w.1 ∧ is.map (fun i => (W0[i]?).map Prod.fst) = ws.map (fun w => some w.1) := by
        simp only [List.map_cons, List.cons.injEq] at h
        exact h
      have h5 : (W0.set i w).map Prod.fst = W0.map Prod.fst := by
        apply List.ext_getElem?
        intro j
        rw [List.getElem?_map, List.getElem?_map, List.getElem?_set]
        by_cases e : i = j
        · subst e
          by_cases hl : i < W0.length
          · simp only [hl, if_true]; rw [h0.1]; rfl
          · have hn : W0[i]? = none := by simpa using hl
            rw [hn] at h0
            exact absurd h0.1 (by simp)
        · simp [e]
      have h6 : ∀ j : Nat, ((W0.set i w)[j]?).map Prod.fst = (W0[j]?).map Prod.fst := by
        intro j
        rw [← List.getElem?_map, ← List.getElem?_map, h5]
      show (patch (W0.set i w) is ws).map Prod.fst = _
      rw [ih ws (W0.set i w) (by rw [← h0.2]; exact List.map_congr_left (fun j _ => h6 j)), h5]
theorem D_of_fst {A : Nat → Prop} {W0 W1 : va_W} (h : W1.map Prod.fst = W0.map Prod.fst) (hD : va_D A W0) : va_D A W1 := by
  have at1 : ∀ (k : Nat) (q : Nat × va_E), W1[k]? = some q → ∃ e, W0[k]? = some (q.1, e) := by
    intro k q hq
    have h1 := congrArg (fun l => l[k]?) h
    simp only [List.getElem?_map, hq, Option.map_some] at h1
    cases h2 : W0[k]? with
    | none => rw [h2] at h1; simp at h1
    | some z => rw [h2] at h1; simp at h1; exact ⟨z.2, by rw [h1]⟩
  refine ⟨fun i j x y hx hy e => ?_, fun k q hq => ?_⟩
  · obtain ⟨e1, h1⟩ := at1 i x hx
    obtain ⟨e2, h2⟩ := at1 j y hy
    exact hD.1 i j _ _ h1 h2 e
  · obtain ⟨e1, h1⟩ := at1 k q hq
    exact hD.2 k (q.1, e1) h1
theorem patch_P {A : Nat → Prop} {D : va_G} {ws ws' W0 : va_W} {H H1 : Heap} (hP : va_P D vwCl W0 H) (hD : va_D A W0) (is : List Nat) (hC : is.map (fun i => W0[i]?) = ws.map some) (hA : ws'.map Prod.fst = ws.map Prod.fst)
    (hP1 : va_P D vwCl ws' H1) (hk : ∀ q : Nat, q < H.size → ¬ inW ws q → H1[q]? = H[q]?) : va_P D vwCl (patch W0 is ws') H1 ∧ va_D A (patch W0 is ws') := by
  have hlen : ws'.length = ws.length := by have := congrArg List.length hA; simpa using this
  have hlen2 : is.length = ws.length := by have := congrArg List.length hC; simpa using this
  have atw : ∀ (j : Nat) (q : Nat × va_E), ws[j]? = some q → ∃ i, is[j]? = some i ∧ W0[i]? = some q := by
    intro j q hq
    have h1 : (is.map (fun i => W0[i]?))[j]? = some (some q) := by rw [hC, List.getElem?_map, hq]; rfl
    rw [List.getElem?_map] at h1
    cases hi : is[j]? with
    | none => rw [hi] at h1; cases h1
    | some i => rw [hi] at h1; exact ⟨i, rfl, Option.some.inj h1⟩
  refine ⟨fun k q hq => ?_, D_of_fst (patch_fst is ws' W0 ?_) hD⟩
  · rcases patch_at is ws' W0 k q hq with ⟨j, h1, h2⟩ | ⟨h1, h2⟩
    · exact hP1 j q h1
    · have hl := (hP k q h1).lt
      refine (hP k q h1).kept (hk q.1 hl fun hin => ?_)
      obtain ⟨j, e, hj⟩ := hin
      obtain ⟨i, h3, h4⟩ := atw j _ hj
      have hjl : j < ws.length := by
        rcases Nat.lt_or_ge j ws.length with q1 | q1
        · exact q1
        · have : ws[j]? = none := by simpa using q1
          rw [this] at hj; cases hj
      exact h2 j i h3 (by rw [hlen]; exact hjl) (hD.1 i k _ _ h4 h1 rfl)
  · have h1 : is.map (fun i => (W0[i]?).map Prod.fst) = (is.map (fun i => W0[i]?)).map (fun z => z.map Prod.fst) := by rw [List.map_map]; rfl
    rw [h1, hC, List.map_map]
    have h2 : ws'.map (fun w => some w.1) = (ws'.map Prod.fst).map some := by rw [List.map_map]; rfl
    rw [h2, hA, List.map_map]
    rfl
theorem free_A {A : Nat → Prop} {ws W0 : va_W} (hD : va_D A W0) (is : List Nat) (hC : is.map (fun i => W0[i]?) = ws.map some) : ∀ q, inW ws q → A q := by
  intro q ⟨k, e, h⟩
  have h1 : (is.map (fun i => W0[i]?))[k]? = some (some (q, e)) := by rw [hC, List.getElem?_map, h]; rfl
  rw [List.getElem?_map] at h1
  cases hi : is[k]? with
  | none => rw [hi] at h1; cases h1
  | some i => rw [hi] at h1; exact hD.2 i (q, e) (Option.some.inj h1)
section MYCALL
variable {p : Program} {l : Launch} {e : Env} {R : Room} {s : State} {m : MethodId} {args : Array Value} {below : List Frame} {meth : Method} {c : Code} {H : Heap} {locs : List Loc} {cells slots : Nat} {Q : State → Prop} {pc : Nat} {ls : Array Slot} {st0 rest : List Value} {a : Array Value}
theorem cr_of {mc ms : Nat} {g : JFrame} {Qa : State → Outcome → State → Prop} {free : Addr → Prop} (hr : va_Run p l e R s m args below meth c H locs cells slots mc ms g rest Qa free) : CallRun p l e R s m args below meth c H locs cells slots mc ms g rest Qa free := by
  intro T hT X
  obtain ⟨v, st₀, t, T', L, h0, X', hL, e1, e2, hq, st⟩ := hr T hT X
  exact ⟨v, st₀, t, T', L, h0, X', hL, e1, hq, st⟩
theorem m_callR {r : Option Value} (hr : CallRun p l e R s m args below meth c H locs cells slots 0 0 (F0 m pc ls st0) rest (QcR r a) (fun _ => False))
    (kk : W p l e R s m args below meth c H locs cells slots Q (F0 m (pc + 3) ls (r.toList ++ rest))) : W p l e R s m args below meth c H locs cells slots Q (F0 m pc ls st0) := by
  intro T hT X
  obtain ⟨v, st₀, t, T', L, h0, X', hL, e1, ⟨hv, hh⟩, st⟩ := hr T hT X
  cases hv
  obtain ⟨t2, a1, b1⟩ := kk T' (by rw [e1, hh, h0]) (Stand.forget X' (fun q h => (hL q h).elim))
  exact ⟨t2, st t2 a1, b1⟩
theorem m_callM {r : Option Value} {D : va_G} {ws ws' W0 : va_W} {A : Nat → Prop} {H0 : Heap} (hr : CallRun p l e R s m args below meth c H locs cells slots 0 0 (F0 m pc ls st0) rest (QcM r D ws ws' a) (inW ws))
    (hP : va_P D vwCl W0 H) (hD : va_D A W0) (hS : va_S A H0 H locs) (is : List Nat) (hC : is.map (fun i => W0[i]?) = ws.map some) (hA : ws'.map Prod.fst = ws.map Prod.fst)
    (kk : ∀ (H1 : Heap) (locs1 : List Loc), va_P D vwCl (patch W0 is ws') H1 → va_D A (patch W0 is ws') → va_S A H0 H1 locs1 → W p l e R s m args below meth c H1 locs1 cells slots Q (F0 m (pc + 3) ls (r.toList ++ rest))) : W p l e R s m args below meth c H locs cells slots Q (F0 m pc ls st0) := by
  intro T hT X
  obtain ⟨v, st₀, t, T', L, h0, X', hL, e1, ⟨hv, hP1, hz, hk⟩, st⟩ := hr T hT X
  cases hv
  subst h0
  have hF := free_A hD is hC
  obtain ⟨hP2, hD2⟩ := patch_P hP hD is hC hA hP1 hk
  have hS2 : va_S A H0 t.heap (locs ++ L) := by
    refine ⟨Nat.le_trans hS.1 hz, fun q h1 h2 => ?_, fun q hq => ?_⟩
    · rw [hk q (Nat.lt_of_lt_of_le h1 hS.1) (fun h => h2 (hF q h))]
      exact hS.2.1 q h1 h2
    · rcases List.mem_append.mp hq with h | h
      · exact hS.2.2 q h
      · exact hF _ (hL q h)
  obtain ⟨t2, a1, b1⟩ := kk t.heap (locs ++ L) hP2 hD2 hS2 T' e1 X'
  exact ⟨t2, st t2 a1, b1⟩
/-- the top of the stack by another name -/
theorem lv_to {x y : Int32} (h : x = y) (k : W p l e R s m args below meth c H locs cells slots Q (F0 m pc ls (.int y :: rest))) : W p l e R s m args below meth c H locs cells slots Q (F0 m pc ls (.int x :: rest)) := by
  subst h; exact k
theorem lv_toL {x y : Int64} (h : x = y) (k : W p l e R s m args below meth c H locs cells slots Q (F0 m pc ls (.long y :: rest))) : W p l e R s m args below meth c H locs cells slots Q (F0 m pc ls (.long x :: rest)) := by
  subst h; exact k
end MYCALL
theorem lv_cg {ls : Array Slot} {nL : Nat} {l l' : List (Nat × Value)} (h : lv_has ls nL l) (e : l = l') : lv_has ls nL l' := e ▸ h
theorem lc_ {α : Type} {a b : α} {l l' : List α} (h : a = b) (h2 : l = l') : a :: l = b :: l' := by rw [h, h2]
theorem vi_ {i : Nat} {x y : Int32} (h : x = y) : ((i, Value.int x) : Nat × Value) = (i, Value.int y) := by rw [h]
theorem vl_ {i : Nat} {x y : Int64} (h : x = y) : ((i, Value.long x) : Nat × Value) = (i, Value.long y) := by rw [h]
section MYARR
variable {p : Program} {l : Launch} {e : Env} {R : Room} {s : State} {m : MethodId} {args : Array Value} {below : List Frame} {meth : Method} {c : Code} {H H0 : Heap} {locs : List Loc} {cells slots : Nat} {Q : State → Prop} {pc : Nat} {ls : Array Slot} {rest : List Value} {cc : ByteArray} {D : va_G} {cl : List vw_C} {tys : List (ClassId × FieldType)} {ws : va_W} {A : Nat → Prop} {a : Nat}
theorem m_iald (hexec : p.tables.exec = Jvm.exec) (hb : c.code = cc) (hK : va_K D cl tys s) (hP : va_P D cl ws H) (q0 t0 : Nat) {cA : ClassId} {n : Nat} {f : Nat → Int32} (ha : ws[q0]? = some (a, .inl (cA, n, .inl f))) (ht : tys[t0]? = some (cA, .int)) {i : Int32} (j : Nat) (hi : i = nI j) (hj : j < n) (hn : n < 2 ^ 31) (hdg : decode cc pc = .ok (.iaload, 1))
    (kk : W p l e R s m args below meth c H locs cells slots Q (F0 m (pc + 1) ls (.int (f j) :: rest))) : W p l e R s m args below meth c H locs cells slots Q (F0 m pc ls (.int i :: .ref a :: rest)) := by
  subst hi
  refine va_iald hexec hb hK hP q0 t0 ha ht (vp_in_nI hj hn) hdg ?_
  rw [nI_clamp (Nat.lt_trans hj hn)]
  exact kk
theorem m_cald (hexec : p.tables.exec = Jvm.exec) (hb : c.code = cc) (hK : va_K D cl tys s) (hP : va_P D cl ws H) (q0 t0 : Nat) {cA : ClassId} {n : Nat} {f : Nat → Int32} (ha : ws[q0]? = some (a, .inl (cA, n, .inl f))) (ht : tys[t0]? = some (cA, .char)) {i : Int32} (j : Nat) (hi : i = nI j) (hj : j < n) (hn : n < 2 ^ 31) (hdg : decode cc pc = .ok (.caload, 1))
    (kk : W p l e R s m args below meth c H locs cells slots Q (F0 m (pc + 1) ls (.int (f j) :: rest))) : W p l e R s m args below meth c H locs cells slots Q (F0 m pc ls (.int i :: .ref a :: rest)) := by
  subst hi
  refine va_cald hexec hb hK hP q0 t0 ha ht (vp_in_nI hj hn) hdg ?_
  rw [nI_clamp (Nat.lt_trans hj hn)]
  exact kk
theorem m_zald (hexec : p.tables.exec = Jvm.exec) (hb : c.code = cc) (hK : va_K D cl tys s) (hP : va_P D cl ws H) (q0 t0 : Nat) {cA : ClassId} {n : Nat} {f : Nat → Int32} (ha : ws[q0]? = some (a, .inl (cA, n, .inl f))) (ht : tys[t0]? = some (cA, .boolean)) {i : Int32} (j : Nat) (hi : i = nI j) (hj : j < n) (hn : n < 2 ^ 31) (hdg : decode cc pc = .ok (.baload, 1))
    (kk : W p l e R s m args below meth c H locs cells slots Q (F0 m (pc + 1) ls (.int (f j) :: rest))) : W p l e R s m args below meth c H locs cells slots Q (F0 m pc ls (.int i :: .ref a :: rest)) := by
  subst hi
  refine va_zald hexec hb hK hP q0 t0 ha ht (vp_in_nI hj hn) hdg ?_
  rw [nI_clamp (Nat.lt_trans hj hn)]
  exact kk
theorem m_aald (hexec : p.tables.exec = Jvm.exec) (hb : c.code = cc) (hK : va_K D cl tys s) (hP : va_P D cl ws H) (q0 t0 : Nat) {cA : ClassId} {C : String} {n : Nat} {f : Nat → Option Nat} (ha : ws[q0]? = some (a, .inl (cA, n, .inr (.inr (.inr (.inr f)))))) (ht : tys[t0]? = some (cA, .object C)) {i : Int32} (j : Nat) (hi : i = nI j) (hj : j < n) (hn : n < 2 ^ 31) {r : Nat} (hf : f j = some r) (hdg : decode cc pc = .ok (.aaload, 1))
    (kk : W p l e R s m args below meth c H locs cells slots Q (F0 m (pc + 1) ls (.ref r :: rest))) : W p l e R s m args below meth c H locs cells slots Q (F0 m pc ls (.int i :: .ref a :: rest)) := by
  subst hi
  refine va_aldq hexec hb hK hP q0 t0 ha ht (vp_in_nI hj hn) hdg ?_
  rw [nI_clamp (Nat.lt_trans hj hn), hf]
  exact kk
theorem m_iast (hexec : p.tables.exec = Jvm.exec) (hb : c.code = cc) (hK : va_K D cl tys s) (hP : va_P D cl ws H) (hD : va_D A ws) (hS : va_S A H0 H locs) (q0 t0 : Nat) {cA : ClassId} {n : Nat} {f : Nat → Int32} (ha : ws[q0]? = some (a, .inl (cA, n, .inl f))) (ht : tys[t0]? = some (cA, .int)) {i : Int32} {x : Int32} (j : Nat) (hi : i = nI j) (hj : j < n) (hn : n < 2 ^ 31) (hdg : decode cc pc = .ok (.iastore, 1))
    (kk : ∀ (H1 : Heap) (locs1 : List Loc), va_P D cl (ws.set q0 (a, .inl (cA, n, .inl (upd f j x)))) H1 → va_D A (ws.set q0 (a, .inl (cA, n, .inl (upd f j x)))) → va_S A H0 H1 locs1 → W p l e R s m args below meth c H1 locs1 cells slots Q (F0 m (pc + 1) ls rest)) : W p l e R s m args below meth c H locs cells slots Q (F0 m pc ls (.int x :: .int i :: .ref a :: rest)) := by
  subst hi
  refine va_iast hexec hb hK hP hD hS q0 t0 ha ht (vp_in_nI hj hn) hdg ?_
  rw [nI_clamp (Nat.lt_trans hj hn)]
  exact kk
theorem m_cast (hexec : p.tables.exec = Jvm.exec) (hb : c.code = cc) (hK : va_K D cl tys s) (hP : va_P D cl ws H) (hD : va_D A ws) (hS : va_S A H0 H locs) (q0 t0 : Nat) {cA : ClassId} {n : Nat} {f : Nat → Int32} (ha : ws[q0]? = some (a, .inl (cA, n, .inl f))) (ht : tys[t0]? = some (cA, .char)) {i : Int32} {x y : Int32} (j : Nat) (hi : i = nI j) (hj : j < n) (hn : n < 2 ^ 31) (hy : vp_nar .char x = y) (hdg : decode cc pc = .ok (.castore, 1))
    (kk : ∀ (H1 : Heap) (locs1 : List Loc), va_P D cl (ws.set q0 (a, .inl (cA, n, .inl (upd f j y)))) H1 → va_D A (ws.set q0 (a, .inl (cA, n, .inl (upd f j y)))) → va_S A H0 H1 locs1 → W p l e R s m args below meth c H1 locs1 cells slots Q (F0 m (pc + 1) ls rest)) : W p l e R s m args below meth c H locs cells slots Q (F0 m pc ls (.int x :: .int i :: .ref a :: rest)) := by
  subst hi; subst hy
  refine va_cast hexec hb hK hP hD hS q0 t0 ha ht (vp_in_nI hj hn) hdg ?_
  rw [nI_clamp (Nat.lt_trans hj hn)]
  exact kk
theorem m_zast (hexec : p.tables.exec = Jvm.exec) (hb : c.code = cc) (hK : va_K D cl tys s) (hP : va_P D cl ws H) (hD : va_D A ws) (hS : va_S A H0 H locs) (q0 t0 : Nat) {cA : ClassId} {n : Nat} {f : Nat → Int32} (ha : ws[q0]? = some (a, .inl (cA, n, .inl f))) (ht : tys[t0]? = some (cA, .boolean)) {i : Int32} {x y : Int32} (j : Nat) (hi : i = nI j) (hj : j < n) (hn : n < 2 ^ 31) (hy : vp_nar .boolean x = y) (hdg : decode cc pc = .ok (.bastore, 1))
    (kk : ∀ (H1 : Heap) (locs1 : List Loc), va_P D cl (ws.set q0 (a, .inl (cA, n, .inl (upd f j y)))) H1 → va_D A (ws.set q0 (a, .inl (cA, n, .inl (upd f j y)))) → va_S A H0 H1 locs1 → W p l e R s m args below meth c H1 locs1 cells slots Q (F0 m (pc + 1) ls rest)) : W p l e R s m args below meth c H locs cells slots Q (F0 m pc ls (.int x :: .int i :: .ref a :: rest)) := by
  subst hi; subst hy
  refine va_zast hexec hb hK hP hD hS q0 t0 ha ht (vp_in_nI hj hn) hdg ?_
  rw [nI_clamp (Nat.lt_trans hj hn)]
  exact kk
end MYARR
theorem nlt_of {a b : Nat} (c : ¬ nI b ≤ nI a) (ha : a < 2 ^ 31) (hb : b < 2 ^ 31) : a < b := by
  rw [nI_leI hb ha] at c; omega
theorem le_of {a b : Nat} (c : nI b ≤ nI a) (ha : a < 2 ^ 31) (hb : b < 2 ^ 31) : b ≤ a := (nI_leI hb ha).mp c
theorem ret_i {x y : Int32} (h : x = y) : Outcome.returned (some (Value.int x)) = Outcome.returned (some (Value.int y)) := by rw [h]
theorem ret_l {x y : Int64} (h : x = y) : Outcome.returned (some (Value.long x)) = Outcome.returned (some (Value.long y)) := by rw [h]
/-- a number that a switch has no row for -/
theorem tb_out {x : Int32} (lo n : Nat) (hn : n < 1000) (h : ∀ k : Nat, lo ≤ k → k ≤ n → ¬ x = nI k) : x.toInt < (lo : Int) ∨ (n : Int) < x.toInt := by
  rcases Int.lt_or_le x.toInt (lo : Int) with q | q
  · exact Or.inl q
  · rcases Int.lt_or_le (n : Int) x.toInt with q2 | q2
    · exact Or.inr q2
    · exfalso
      refine h x.toInt.toNat (by omega) (by omega) (Int32.toInt_inj.mp ?_)
      rw [nI_toInt (by omega)]
      omega
end
section
def wH (cI cC cZ cS : ClassId) (h : Nat) (tA : Nat) (dA : Nat) (eA : Nat) (hf : Nat → Int32) (tr : Nat → Int32) (de : Nat → Int32) (ea : Nat → Int32) : va_W := [(h, .inr (0, [.ref tA, .ref dA, .ref eA, .int (hf 3), .int (hf 4), .int (hf 5), .int (hf 6), .int (hf 7), .int (hf 8)])), (tA, .inl (cI, 7, .inl tr)), (dA, .inl (cI, 7, .inl de)), (eA, .inl (cI, 7, .inl ea))]
def wHS (cI cC cZ cS : ClassId) (h : Nat) (tA : Nat) (dA : Nat) (eA : Nat) (sA : Nat) (hf : Nat → Int32) (tr : Nat → Int32) (de : Nat → Int32) (ea : Nat → Int32) (u : Nat → Int32) : va_W := [(h, .inr (0, [.ref tA, .ref dA, .ref eA, .int (hf 3), .int (hf 4), .int (hf 5), .int (hf 6), .int (hf 7), .int (hf 8)])), (tA, .inl (cI, 7, .inl tr)), (dA, .inl (cI, 7, .inl de)), (eA, .inl (cI, 7, .inl ea)), (sA, .inr (3, [.int (u 0), .int (u 1), .int (u 2), .int (u 3), .int (u 4)]))]
def d_X5_bitOf (x : Int32) (t : Int32) : Int32 :=
  (x >>> (t &&& 31)) &&& (1 : Int32)
set_option maxHeartbeats 4000000 in
set_option maxRecDepth 100000 in
theorem c_X5_bitOf (l : Launch) (D : va_G) (cI cC cZ cS : ClassId) (x : Int32) (t : Int32) : Met l yX5_bitOf wsX5_bitOf { frames := 0, cells := 0, slots := 0, locals := 0 } (PcE D cI cC cZ cS [.int x, .int t] []) (QcR (some (.int (d_X5_bitOf x t)))) 0 0 (fun _ => False) := by
  refine Met.ofW (cc := cX5_bitOf) (maxL := 2) (ret := (some .int)) (by decide) rfl ?_
  intro p e s m args below meth c s₁ B hml hv
  obtain ⟨rfl, hP, hD, hE⟩ := hv
  have hK := hE.1
  have hx := B.exec
  have hb := B.bytes
  have hr := B.returns
  have hts := atoms_spec (ws := wsX5_bitOf) B.pre
  have hown : s.vm.findClass RX5 = some m.cls := findClass_of_methodNamed B.named
  have hlocks := B.notSynchronized
  generalize hres : d_X5_bitOf x t = R
  replace hres := hres.symm
  rw [d_X5_bitOf] at hres
  have hl := lv_entry ([.int x, .int t]) (n := 2) (Nat.le_of_ble_eq_true rfl)
  rw [lg_entry_eq]
  generalize (lg_sl ([.int x, .int t]) ++ List.replicate (2 - (lg_sl ([.int x, .int t])).length) Slot.unset).toArray = ls at hl ⊢
  have hl : lv_has ls 2 [(0, .int x), (1, .int t)] := hl
  refine lv_iload_n hx hb dX5_bitOf_0 rfl (lv_at hl 0 rfl) ?_
  refine lv_iload_n hx hb dX5_bitOf_1 rfl (lv_at hl 1 rfl) ?_
  refine lv_ishr hx hb dX5_bitOf_2 ?_
  refine lv_iconst (v := 1) hx hb dX5_bitOf_3 (by decide) ?_
  refine lv_iand hx hb dX5_bitOf_4 ?_
  rw [hres]
  exact W.iret (v := (x >>> (t &&& 31)) &&& (1 : Int32)) hx hb hr (fun t ht hW => ⟨rfl, ht⟩) (fun _ h => by cases h) dX5_bitOf_5
def d_X5_areWords (x : Int32) : Int32 :=
  if x < 0 then
      0
    else
      if (31 : Int32) < x then
        0
      else
        1
set_option maxHeartbeats 4000000 in
set_option maxRecDepth 100000 in
theorem c_X5_areWords (l : Launch) (D : va_G) (cI cC cZ cS : ClassId) (x : Int32) : Met l yX5_areWords wsX5_areWords { frames := 0, cells := 0, slots := 0, locals := 0 } (PcE D cI cC cZ cS [.int x] []) (QcR (some (.int (d_X5_areWords x)))) 0 0 (fun _ => False) := by
  refine Met.ofW (cc := cX5_areWords) (maxL := 1) (ret := (some .boolean)) (by decide) rfl ?_
  intro p e s m args below meth c s₁ B hml hv
  obtain ⟨rfl, hP, hD, hE⟩ := hv
  have hK := hE.1
  have hx := B.exec
  have hb := B.bytes
  have hr := B.returns
  have hts := atoms_spec (ws := wsX5_areWords) B.pre
  have hown : s.vm.findClass RX5 = some m.cls := findClass_of_methodNamed B.named
  have hlocks := B.notSynchronized
  generalize hres : d_X5_areWords x = R
  replace hres := hres.symm
  rw [d_X5_areWords] at hres
  have hl := lv_entry ([.int x]) (n := 1) (Nat.le_of_ble_eq_true rfl)
  rw [lg_entry_eq]
  generalize (lg_sl ([.int x]) ++ List.replicate (1 - (lg_sl ([.int x])).length) Slot.unset).toArray = ls at hl ⊢
  have hl : lv_has ls 1 [(0, .int x)] := hl
  refine lv_iload_n hx hb dX5_areWords_0 rfl (lv_at hl 0 rfl) ?_
  refine lv_if_lt (tgt := 14) hx hb dX5_areWords_1 (by decide) (fun c_1 => ?_) (fun c_1 => ?_)
  · skip
    rw [if_pos c_1] at hres
    refine lv_iconst (v := 0) hx hb dX5_areWords_14 (by decide) ?_
    rw [hres]
    exact W.zret (v := 0) hx hb hr rfl (fun t ht hW => ⟨rfl, ht⟩) (fun _ h => by cases h) dX5_areWords_15
  · skip
    rw [if_neg c_1] at hres
    refine lv_iload_n hx hb dX5_areWords_4 rfl (lv_at hl 0 rfl) ?_
    refine lv_bipush (v := 31) hx hb dX5_areWords_5 (by decide) ?_
    refine lv_icmp_gt (tgt := 14) hx hb dX5_areWords_7 (by decide) (fun c_2 => ?_) (fun c_2 => ?_)
    · skip
      rw [if_pos c_2] at hres
      refine lv_iconst (v := 0) hx hb dX5_areWords_14 (by decide) ?_
      rw [hres]
      exact W.zret (v := 0) hx hb hr rfl (fun t ht hW => ⟨rfl, ht⟩) (fun _ h => by cases h) dX5_areWords_15
    · skip
      rw [if_neg c_2] at hres
      refine lv_iconst (v := 1) hx hb dX5_areWords_10 (by decide) ?_
      refine lv_goto (tgt := 15) hx hb dX5_areWords_11 (by decide) ?_
      rw [hres]
      exact W.zret (v := 1) hx hb hr rfl (fun t ht hW => ⟨rfl, ht⟩) (fun _ h => by cases h) dX5_areWords_15
def d_X5_isZ (x : Int32) : Int32 :=
  if x < 0 then
      0
    else
      if (9999 : Int32) < x then
        0
      else
        1
set_option maxHeartbeats 4000000 in
set_option maxRecDepth 100000 in
theorem c_X5_isZ (l : Launch) (D : va_G) (cI cC cZ cS : ClassId) (x : Int32) : Met l yX5_isZ wsX5_isZ { frames := 0, cells := 0, slots := 0, locals := 0 } (PcE D cI cC cZ cS [.int x] []) (QcR (some (.int (d_X5_isZ x)))) 0 0 (fun _ => False) := by
  refine Met.ofW (cc := cX5_isZ) (maxL := 1) (ret := (some .boolean)) (by decide) rfl ?_
  intro p e s m args below meth c s₁ B hml hv
  obtain ⟨rfl, hP, hD, hE⟩ := hv
  have hK := hE.1
  have hx := B.exec
  have hb := B.bytes
  have hr := B.returns
  have hts := atoms_spec (ws := wsX5_isZ) B.pre
  have hown : s.vm.findClass RX5 = some m.cls := findClass_of_methodNamed B.named
  have hlocks := B.notSynchronized
  generalize hres : d_X5_isZ x = R
  replace hres := hres.symm
  rw [d_X5_isZ] at hres
  have hl := lv_entry ([.int x]) (n := 1) (Nat.le_of_ble_eq_true rfl)
  rw [lg_entry_eq]
  generalize (lg_sl ([.int x]) ++ List.replicate (1 - (lg_sl ([.int x])).length) Slot.unset).toArray = ls at hl ⊢
  have hl : lv_has ls 1 [(0, .int x)] := hl
  refine lv_iload_n hx hb dX5_isZ_0 rfl (lv_at hl 0 rfl) ?_
  refine lv_if_lt (tgt := 15) hx hb dX5_isZ_1 (by decide) (fun c_1 => ?_) (fun c_1 => ?_)
  · skip
    rw [if_pos c_1] at hres
    refine lv_iconst (v := 0) hx hb dX5_isZ_15 (by decide) ?_
    rw [hres]
    exact W.zret (v := 0) hx hb hr rfl (fun t ht hW => ⟨rfl, ht⟩) (fun _ h => by cases h) dX5_isZ_16
  · skip
    rw [if_neg c_1] at hres
    refine lv_iload_n hx hb dX5_isZ_4 rfl (lv_at hl 0 rfl) ?_
    refine lv_sipush (v := 9999) hx hb dX5_isZ_5 (by decide) ?_
    refine lv_icmp_gt (tgt := 15) hx hb dX5_isZ_8 (by decide) (fun c_2 => ?_) (fun c_2 => ?_)
    · skip
      rw [if_pos c_2] at hres
      refine lv_iconst (v := 0) hx hb dX5_isZ_15 (by decide) ?_
      rw [hres]
      exact W.zret (v := 0) hx hb hr rfl (fun t ht hW => ⟨rfl, ht⟩) (fun _ h => by cases h) dX5_isZ_16
    · skip
      rw [if_neg c_2] at hres
      refine lv_iconst (v := 1) hx hb dX5_isZ_11 (by decide) ?_
      refine lv_goto (tgt := 16) hx hb dX5_isZ_12 (by decide) ?_
      rw [hres]
      exact W.zret (v := 1) hx hb hr rfl (fun t ht hW => ⟨rfl, ht⟩) (fun _ h => by cases h) dX5_isZ_16
def d_X5_isYesOrNo (x : Int32) : Int32 :=
  if x = 0 then
      1
    else
      if x = (1 : Int32) then
        1
      else
        0
set_option maxHeartbeats 4000000 in
set_option maxRecDepth 100000 in
theorem c_X5_isYesOrNo (l : Launch) (D : va_G) (cI cC cZ cS : ClassId) (x : Int32) : Met l yX5_isYesOrNo wsX5_isYesOrNo { frames := 0, cells := 0, slots := 0, locals := 0 } (PcE D cI cC cZ cS [.int x] []) (QcR (some (.int (d_X5_isYesOrNo x)))) 0 0 (fun _ => False) := by
  refine Met.ofW (cc := cX5_isYesOrNo) (maxL := 1) (ret := (some .boolean)) (by decide) rfl ?_
  intro p e s m args below meth c s₁ B hml hv
  obtain ⟨rfl, hP, hD, hE⟩ := hv
  have hK := hE.1
  have hx := B.exec
  have hb := B.bytes
  have hr := B.returns
  have hts := atoms_spec (ws := wsX5_isYesOrNo) B.pre
  have hown : s.vm.findClass RX5 = some m.cls := findClass_of_methodNamed B.named
  have hlocks := B.notSynchronized
  generalize hres : d_X5_isYesOrNo x = R
  replace hres := hres.symm
  rw [d_X5_isYesOrNo] at hres
  have hl := lv_entry ([.int x]) (n := 1) (Nat.le_of_ble_eq_true rfl)
  rw [lg_entry_eq]
  generalize (lg_sl ([.int x]) ++ List.replicate (1 - (lg_sl ([.int x])).length) Slot.unset).toArray = ls at hl ⊢
  have hl : lv_has ls 1 [(0, .int x)] := hl
  refine lv_iload_n hx hb dX5_isYesOrNo_0 rfl (lv_at hl 0 rfl) ?_
  refine lv_if_eq (tgt := 9) hx hb dX5_isYesOrNo_1 (by decide) (fun c_1 => ?_) (fun c_1 => ?_)
  · skip
    rw [if_pos c_1] at hres
    refine lv_iconst (v := 1) hx hb dX5_isYesOrNo_9 (by decide) ?_
    refine lv_goto (tgt := 14) hx hb dX5_isYesOrNo_10 (by decide) ?_
    rw [hres]
    exact W.zret (v := 1) hx hb hr rfl (fun t ht hW => ⟨rfl, ht⟩) (fun _ h => by cases h) dX5_isYesOrNo_14
  · skip
    rw [if_neg c_1] at hres
    refine lv_iload_n hx hb dX5_isYesOrNo_4 rfl (lv_at hl 0 rfl) ?_
    refine lv_iconst (v := 1) hx hb dX5_isYesOrNo_5 (by decide) ?_
    refine lv_icmp_ne (tgt := 13) hx hb dX5_isYesOrNo_6 (by decide) (fun c_2 => ?_) (fun c_2 => ?_)
    · skip
      rw [if_neg c_2] at hres
      refine lv_iconst (v := 0) hx hb dX5_isYesOrNo_13 (by decide) ?_
      rw [hres]
      exact W.zret (v := 0) hx hb hr rfl (fun t ht hW => ⟨rfl, ht⟩) (fun _ h => by cases h) dX5_isYesOrNo_14
    · skip
      rw [if_pos c_2] at hres
      refine lv_iconst (v := 1) hx hb dX5_isYesOrNo_9 (by decide) ?_
      refine lv_goto (tgt := 14) hx hb dX5_isYesOrNo_10 (by decide) ?_
      rw [hres]
      exact W.zret (v := 1) hx hb hr rfl (fun t ht hW => ⟨rfl, ht⟩) (fun _ h => by cases h) dX5_isYesOrNo_14
def d_X5_withBit (x : Int32) (t : Int32) (is : Int32) : Int32 :=
  if is = (1 : Int32) then
      x ||| ((1 : Int32) <<< (t &&& 31))
    else
      x &&& (((1 : Int32) <<< (t &&& 31)) ^^^ (-1 : Int32))
set_option maxHeartbeats 4000000 in
set_option maxRecDepth 100000 in
theorem c_X5_withBit (l : Launch) (D : va_G) (cI cC cZ cS : ClassId) (x : Int32) (t : Int32) (is : Int32) : Met l yX5_withBit wsX5_withBit { frames := 0, cells := 0, slots := 0, locals := 0 } (PcE D cI cC cZ cS [.int x, .int t, .int is] []) (QcR (some (.int (d_X5_withBit x t is)))) 0 0 (fun _ => False) := by
  refine Met.ofW (cc := cX5_withBit) (maxL := 3) (ret := (some .int)) (by decide) rfl ?_
  intro p e s m args below meth c s₁ B hml hv
  obtain ⟨rfl, hP, hD, hE⟩ := hv
  have hK := hE.1
  have hx := B.exec
  have hb := B.bytes
  have hr := B.returns
  have hts := atoms_spec (ws := wsX5_withBit) B.pre
  have hown : s.vm.findClass RX5 = some m.cls := findClass_of_methodNamed B.named
  have hlocks := B.notSynchronized
  generalize hres : d_X5_withBit x t is = R
  replace hres := hres.symm
  rw [d_X5_withBit] at hres
  have hl := lv_entry ([.int x, .int t, .int is]) (n := 3) (Nat.le_of_ble_eq_true rfl)
  rw [lg_entry_eq]
  generalize (lg_sl ([.int x, .int t, .int is]) ++ List.replicate (3 - (lg_sl ([.int x, .int t, .int is])).length) Slot.unset).toArray = ls at hl ⊢
  have hl : lv_has ls 3 [(0, .int x), (1, .int t), (2, .int is)] := hl
  refine lv_iload_n hx hb dX5_withBit_0 rfl (lv_at hl 2 rfl) ?_
  refine lv_iconst (v := 1) hx hb dX5_withBit_1 (by decide) ?_
  refine lv_icmp_ne (tgt := 13) hx hb dX5_withBit_2 (by decide) (fun c_1 => ?_) (fun c_1 => ?_)
  · skip
    rw [if_neg c_1] at hres
    refine lv_iload_n hx hb dX5_withBit_13 rfl (lv_at hl 0 rfl) ?_
    refine lv_iconst (v := 1) hx hb dX5_withBit_14 (by decide) ?_
    refine lv_iload_n hx hb dX5_withBit_15 rfl (lv_at hl 1 rfl) ?_
    refine lv_ishl hx hb dX5_withBit_16 ?_
    refine lv_iconst (v := (-1)) hx hb dX5_withBit_17 (by decide) ?_
    refine lv_ixor hx hb dX5_withBit_18 ?_
    refine lv_iand hx hb dX5_withBit_19 ?_
    rw [hres]
    exact W.iret (v := x &&& (((1 : Int32) <<< (t &&& 31)) ^^^ (-1 : Int32))) hx hb hr (fun t ht hW => ⟨rfl, ht⟩) (fun _ h => by cases h) dX5_withBit_20
  · skip
    rw [if_pos c_1] at hres
    refine lv_iload_n hx hb dX5_withBit_5 rfl (lv_at hl 0 rfl) ?_
    refine lv_iconst (v := 1) hx hb dX5_withBit_6 (by decide) ?_
    refine lv_iload_n hx hb dX5_withBit_7 rfl (lv_at hl 1 rfl) ?_
    refine lv_ishl hx hb dX5_withBit_8 ?_
    refine lv_ior hx hb dX5_withBit_9 ?_
    refine lv_goto (tgt := 20) hx hb dX5_withBit_10 (by decide) ?_
    rw [hres]
    exact W.iret (v := x ||| ((1 : Int32) <<< (t &&& 31))) hx hb hr (fun t ht hW => ⟨rfl, ht⟩) (fun _ h => by cases h) dX5_withBit_20
def d_X0_hasRoom (hf : Nat → Int32) : Int32 :=
  if (7 : Int32) ≤ (hf 3) then
      0
    else
      1
set_option maxHeartbeats 4000000 in
set_option maxRecDepth 100000 in
theorem c_X0_hasRoom (l : Launch) (D : va_G) (cI cC cZ cS : ClassId) (h : Nat) (tA : Nat) (dA : Nat) (eA : Nat) (hf : Nat → Int32) (tr : Nat → Int32) (de : Nat → Int32) (ea : Nat → Int32) : Met l yX0_hasRoom wsX0_hasRoom { frames := 0, cells := 0, slots := 0, locals := 0 } (PcE D cI cC cZ cS [.ref h] (wH cI cC cZ cS h tA dA eA hf tr de ea)) (QcR (some (.int (d_X0_hasRoom hf)))) 0 0 (fun _ => False) := by
  refine Met.ofW (cc := cX0_hasRoom) (maxL := 1) (ret := (some .boolean)) (by decide) rfl ?_
  intro p e s m args below meth c s₁ B hml hv
  obtain ⟨rfl, hP, hD, hE⟩ := hv
  have hK := hE.1
  have hx := B.exec
  have hb := B.bytes
  have hr := B.returns
  have hts := atoms_spec (ws := wsX0_hasRoom) B.pre
  have hown : s.vm.findClass RX0 = some m.cls := findClass_of_methodNamed B.named
  have hlocks := B.notSynchronized
  have hinX0 : ∀ w ∈ wsX00, w ∈ wsX0_hasRoom := by decide +kernel
  generalize hres : d_X0_hasRoom hf = R
  replace hres := hres.symm
  rw [d_X0_hasRoom] at hres
  have hl := lv_entry ([.ref h]) (n := 1) (Nat.le_of_ble_eq_true rfl)
  rw [lg_entry_eq]
  generalize (lg_sl ([.ref h]) ++ List.replicate (1 - (lg_sl ([.ref h])).length) Slot.unset).toArray = ls at hl ⊢
  have hl : lv_has ls 1 [(0, .ref h)] := hl
  refine lv_aload_n hx hb dX0_hasRoom_0 rfl (lv_at hl 0 rfl) ?_
  refine va_get (D := D) (ci := 0) (v := .int (hf 3)) (C := RX0) (T := TX0) (N := 9) hx hb hts hinX0 hown hK hP 0 rfl rfl 3 (by decide) (hts (.fieldLink RX0 24 "FirstOut$House" "things" "I") (by decide +kernel)) (fun _ h9 => h9) rfl dX0_hasRoom_1 ?_
  refine lv_bipush (v := 7) hx hb dX0_hasRoom_4 (by decide) ?_
  refine lv_icmp_ge (tgt := 13) hx hb dX0_hasRoom_6 (by decide) (fun c_1 => ?_) (fun c_1 => ?_)
  · skip
    rw [if_pos c_1] at hres
    refine lv_iconst (v := 0) hx hb dX0_hasRoom_13 (by decide) ?_
    rw [hres]
    exact W.zret (v := 0) hx hb hr rfl (fun t ht hW => ⟨rfl, ht⟩) (fun _ h => by cases h) dX0_hasRoom_14
  · skip
    rw [if_neg c_1] at hres
    refine lv_iconst (v := 1) hx hb dX0_hasRoom_9 (by decide) ?_
    refine lv_goto (tgt := 14) hx hb dX0_hasRoom_10 (by decide) ?_
    rw [hres]
    exact W.zret (v := 1) hx hb hr rfl (fun t ht hW => ⟨rfl, ht⟩) (fun _ h => by cases h) dX0_hasRoom_14
def d_X0_holds (hf : Nat → Int32) (t : Int32) : Int32 :=
  if t < 0 then
      0
    else
      if (hf 3) ≤ t then
        0
      else
        1
set_option maxHeartbeats 4000000 in
set_option maxRecDepth 100000 in
theorem c_X0_holds (l : Launch) (D : va_G) (cI cC cZ cS : ClassId) (h : Nat) (tA : Nat) (dA : Nat) (eA : Nat) (hf : Nat → Int32) (tr : Nat → Int32) (de : Nat → Int32) (ea : Nat → Int32) (t : Int32) : Met l yX0_holds wsX0_holds { frames := 0, cells := 0, slots := 0, locals := 0 } (PcE D cI cC cZ cS [.ref h, .int t] (wH cI cC cZ cS h tA dA eA hf tr de ea)) (QcR (some (.int (d_X0_holds hf t)))) 0 0 (fun _ => False) := by
  refine Met.ofW (cc := cX0_holds) (maxL := 2) (ret := (some .boolean)) (by decide) rfl ?_
  intro p e s m args below meth c s₁ B hml hv
  obtain ⟨rfl, hP, hD, hE⟩ := hv
  have hK := hE.1
  have hx := B.exec
  have hb := B.bytes
  have hr := B.returns
  have hts := atoms_spec (ws := wsX0_holds) B.pre
  have hown : s.vm.findClass RX0 = some m.cls := findClass_of_methodNamed B.named
  have hlocks := B.notSynchronized
  have hinX0 : ∀ w ∈ wsX00, w ∈ wsX0_holds := by decide +kernel
  generalize hres : d_X0_holds hf t = R
  replace hres := hres.symm
  rw [d_X0_holds] at hres
  have hl := lv_entry ([.ref h, .int t]) (n := 2) (Nat.le_of_ble_eq_true rfl)
  rw [lg_entry_eq]
  generalize (lg_sl ([.ref h, .int t]) ++ List.replicate (2 - (lg_sl ([.ref h, .int t])).length) Slot.unset).toArray = ls at hl ⊢
  have hl : lv_has ls 2 [(0, .ref h), (1, .int t)] := hl
  refine lv_iload_n hx hb dX0_holds_0 rfl (lv_at hl 1 rfl) ?_
  refine lv_if_lt (tgt := 16) hx hb dX0_holds_1 (by decide) (fun c_1 => ?_) (fun c_1 => ?_)
  · skip
    rw [if_pos c_1] at hres
    refine lv_iconst (v := 0) hx hb dX0_holds_16 (by decide) ?_
    rw [hres]
    exact W.zret (v := 0) hx hb hr rfl (fun t ht hW => ⟨rfl, ht⟩) (fun _ h => by cases h) dX0_holds_17
  · skip
    rw [if_neg c_1] at hres
    refine lv_iload_n hx hb dX0_holds_4 rfl (lv_at hl 1 rfl) ?_
    refine lv_aload_n hx hb dX0_holds_5 rfl (lv_at hl 0 rfl) ?_
    refine va_get (D := D) (ci := 0) (v := .int (hf 3)) (C := RX0) (T := TX0) (N := 9) hx hb hts hinX0 hown hK hP 0 rfl rfl 3 (by decide) (hts (.fieldLink RX0 24 "FirstOut$House" "things" "I") (by decide +kernel)) (fun _ h9 => h9) rfl dX0_holds_6 ?_
    refine lv_icmp_ge (tgt := 16) hx hb dX0_holds_9 (by decide) (fun c_2 => ?_) (fun c_2 => ?_)
    · skip
      rw [if_pos c_2] at hres
      refine lv_iconst (v := 0) hx hb dX0_holds_16 (by decide) ?_
      rw [hres]
      exact W.zret (v := 0) hx hb hr rfl (fun t ht hW => ⟨rfl, ht⟩) (fun _ h => by cases h) dX0_holds_17
    · skip
      rw [if_neg c_2] at hres
      refine lv_iconst (v := 1) hx hb dX0_holds_12 (by decide) ?_
      refine lv_goto (tgt := 17) hx hb dX0_holds_13 (by decide) ?_
      rw [hres]
      exact W.zret (v := 1) hx hb hr rfl (fun t ht hW => ⟨rfl, ht⟩) (fun _ h => by cases h) dX0_holds_17
def lp_X0_having_4 (tr : Nat → Int32) (w : Int32) (n : Nat) : Nat → Nat → Int32 → Int32
  | 0, _, _ => 0
  | k4 + 1, i, acc => if (nI n) ≤ (nI i) then
      acc
    else
      if ((tr i) &&& w) = w then
        lp_X0_having_4 tr w n k4 (i + 1) (acc ||| ((1 : Int32) <<< ((nI i) &&& 31)))
      else
        lp_X0_having_4 tr w n k4 (i + 1) acc
def d_X0_having (tr : Nat → Int32) (w : Int32) (n : Nat) : Int32 :=
  lp_X0_having_4 tr w n (n + 1) 0 0
set_option maxHeartbeats 4000000 in
set_option maxRecDepth 100000 in
theorem c_X0_having (l : Launch) (D : va_G) (cI cC cZ cS : ClassId) (h : Nat) (tA : Nat) (dA : Nat) (eA : Nat) (hf : Nat → Int32) (tr : Nat → Int32) (de : Nat → Int32) (ea : Nat → Int32) (w : Int32) (n : Nat) (hn : hf 3 = nI n) (h7 : n ≤ 7) : Met l yX0_having wsX0_having { frames := 0, cells := 0, slots := 0, locals := 0 } (PcE D cI cC cZ cS [.ref h, .int w] (wH cI cC cZ cS h tA dA eA hf tr de ea)) (QcR (some (.int (d_X0_having tr w n)))) 0 0 (fun _ => False) := by
  refine Met.ofW (cc := cX0_having) (maxL := 4) (ret := (some .int)) (by decide) rfl ?_
  intro p e s m args below meth c s₁ B hml hv
  obtain ⟨rfl, hP, hD, hE⟩ := hv
  have hK := hE.1
  have hx := B.exec
  have hb := B.bytes
  have hr := B.returns
  have hts := atoms_spec (ws := wsX0_having) B.pre
  have hown : s.vm.findClass RX0 = some m.cls := findClass_of_methodNamed B.named
  have hlocks := B.notSynchronized
  have hinX0 : ∀ w ∈ wsX00, w ∈ wsX0_having := by decide +kernel
  generalize hres : d_X0_having tr w n = R
  replace hres := hres.symm
  rw [d_X0_having] at hres
  have hl := lv_entry ([.ref h, .int w]) (n := 4) (Nat.le_of_ble_eq_true rfl)
  rw [lg_entry_eq]
  generalize (lg_sl ([.ref h, .int w]) ++ List.replicate (4 - (lg_sl ([.ref h, .int w])).length) Slot.unset).toArray = ls at hl ⊢
  have hl : lv_has ls 4 [(0, .ref h), (1, .int w)] := hl
  refine lv_iconst (v := 0) hx hb dX0_having_0 (by decide) ?_
  refine lv_istore_n (lv' := [(2, .int 0), (0, .ref h), (1, .int w)]) hx hb dX0_having_1 rfl hl (by decide) rfl (fun ls hl => ?_)
  refine lv_iconst (v := 0) hx hb dX0_having_2 (by decide) ?_
  refine lv_istore_n (lv' := [(3, .int 0), (2, .int 0), (0, .ref h), (1, .int w)]) hx hb dX0_having_3 rfl hl (by decide) rfl (fun ls hl => ?_)
  have loop4 : ∀ (k4 : Nat) (i : Nat) (acc : Int32), n - i < k4 → i ≤ n → R = lp_X0_having_4 tr w n k4 i acc → ∀ ls : Array Slot, lv_has ls 4 [(0, .ref h), (1, .int w), (2, .int acc), (3, .int (nI i))] → W p l e (headSpec wsX0_having { frames := 0, cells := 0, slots := 0, locals := 0 }).room s m (([.ref h, .int w] : List Value).toArray) below meth c s.heap [] 0 0 (MQ below (QcR (some (.int R))) (([.ref h, .int w] : List Value).toArray) s 0 0 (fun _ => False)) (F0 m 4 ls []) := by
    intro k4
    induction k4 with
    | zero => intro i acc hk; exact absurd hk (Nat.not_lt_zero _)
    | succ k4 ih4 =>
      intro i acc hk4 hi hres ls hl
      rw [lp_X0_having_4] at hres
      refine lv_iload_n hx hb dX0_having_4 rfl (lv_at hl 3 rfl) ?_
      refine lv_aload_n hx hb dX0_having_5 rfl (lv_at hl 0 rfl) ?_
      refine va_get (D := D) (ci := 0) (v := .int (hf 3)) (C := RX0) (T := TX0) (N := 9) hx hb hts hinX0 hown hK hP 0 rfl rfl 3 (by decide) (hts (.fieldLink RX0 24 "FirstOut$House" "things" "I") (by decide +kernel)) (fun _ h9 => h9) rfl dX0_having_6 ?_
      refine lv_to (show (hf 3) = nI n from hn) ?_
      refine lv_icmp_ge (tgt := 36) hx hb dX0_having_9 (by decide) (fun c_1 => ?_) (fun c_1 => ?_)
      · skip
        rw [if_pos c_1] at hres
        refine lv_iload_n hx hb dX0_having_36 rfl (lv_at hl 2 rfl) ?_
        rw [hres]
        exact W.iret (v := acc) hx hb hr (fun t ht hW => ⟨rfl, ht⟩) (fun _ h => by cases h) dX0_having_37
      · skip
        rw [if_neg c_1] at hres
        have hlt : i < n := nlt_of c_1 (by omega) (by omega)
        refine lv_aload_n hx hb dX0_having_12 rfl (lv_at hl 0 rfl) ?_
        refine va_get (D := D) (ci := 0) (v := .ref tA) (C := RX0) (T := TX0) (N := 9) hx hb hts hinX0 hown hK hP 0 rfl rfl 0 (by decide) (hts (.fieldLink RX0 9 "FirstOut$House" "traits" "[I") (by decide +kernel)) (fun _ h9 => h9) rfl dX0_having_13 ?_
        refine lv_iload_n hx hb dX0_having_16 rfl (lv_at hl 3 rfl) ?_
        refine m_iald hx hb hK hP 1 0 rfl rfl i rfl (by omega) (by decide) dX0_having_17 ?_
        refine lv_to (show _ = (tr i) from rfl) ?_
        refine lv_iload_n hx hb dX0_having_18 rfl (lv_at hl 1 rfl) ?_
        refine lv_iand hx hb dX0_having_19 ?_
        refine lv_iload_n hx hb dX0_having_20 rfl (lv_at hl 1 rfl) ?_
        refine lv_icmp_ne (tgt := 30) hx hb dX0_having_21 (by decide) (fun c_2 => ?_) (fun c_2 => ?_)
        · skip
          rw [if_neg c_2] at hres
          refine lv_iinc (v := nI (i + 1)) (lv' := [(3, .int (nI (i + 1))), (0, .ref h), (1, .int w), (2, .int acc)]) hx hb dX0_having_30 hl (k := 3) rfl ((nI_add i 1)) (by decide) rfl (fun ls hl => ?_)
          refine lv_goto (tgt := 4) hx hb dX0_having_33 (by decide) ?_
          exact ih4 (i + 1) acc (by omega) (by omega) hres ls (lv_sub hl [1, 2, 3, 0] rfl)
        · skip
          rw [if_pos c_2] at hres
          refine lv_iload_n hx hb dX0_having_24 rfl (lv_at hl 2 rfl) ?_
          refine lv_iconst (v := 1) hx hb dX0_having_25 (by decide) ?_
          refine lv_iload_n hx hb dX0_having_26 rfl (lv_at hl 3 rfl) ?_
          refine lv_ishl hx hb dX0_having_27 ?_
          refine lv_ior hx hb dX0_having_28 ?_
          refine lv_istore_n (lv' := [(2, .int (acc ||| ((1 : Int32) <<< ((nI i) &&& 31)))), (0, .ref h), (1, .int w), (3, .int (nI i))]) hx hb dX0_having_29 rfl hl (by decide) rfl (fun ls hl => ?_)
          refine lv_iinc (v := nI (i + 1)) (lv' := [(3, .int (nI (i + 1))), (2, .int (acc ||| ((1 : Int32) <<< ((nI i) &&& 31)))), (0, .ref h), (1, .int w)]) hx hb dX0_having_30 hl (k := 3) rfl ((nI_add i 1)) (by decide) rfl (fun ls hl => ?_)
          refine lv_goto (tgt := 4) hx hb dX0_having_33 (by decide) ?_
          exact ih4 (i + 1) (acc ||| ((1 : Int32) <<< ((nI i) &&& 31))) (by omega) (by omega) hres ls (lv_sub hl [2, 3, 1, 0] rfl)
  exact loop4 (n + 1) 0 0 (by omega) (Nat.zero_le _) hres ls (lv_sub hl [2, 3, 1, 0] rfl)
def lp_X0_eagerOnes_4 (ea : Nat → Int32) (n : Nat) : Nat → Nat → Int32 → Int32
  | 0, _, _ => 0
  | k4 + 1, i, acc => if (nI n) ≤ (nI i) then
      acc
    else
      if (ea i) ≤ 0 then
        lp_X0_eagerOnes_4 ea n k4 (i + 1) acc
      else
        lp_X0_eagerOnes_4 ea n k4 (i + 1) (acc ||| ((1 : Int32) <<< ((nI i) &&& 31)))
def d_X0_eagerOnes (ea : Nat → Int32) (n : Nat) : Int32 :=
  lp_X0_eagerOnes_4 ea n (n + 1) 0 0
set_option maxHeartbeats 4000000 in
set_option maxRecDepth 100000 in
theorem c_X0_eagerOnes (l : Launch) (D : va_G) (cI cC cZ cS : ClassId) (h : Nat) (tA : Nat) (dA : Nat) (eA : Nat) (hf : Nat → Int32) (tr : Nat → Int32) (de : Nat → Int32) (ea : Nat → Int32) (n : Nat) (hn : hf 3 = nI n) (h7 : n ≤ 7) : Met l yX0_eagerOnes wsX0_eagerOnes { frames := 0, cells := 0, slots := 0, locals := 0 } (PcE D cI cC cZ cS [.ref h] (wH cI cC cZ cS h tA dA eA hf tr de ea)) (QcR (some (.int (d_X0_eagerOnes ea n)))) 0 0 (fun _ => False) := by
  refine Met.ofW (cc := cX0_eagerOnes) (maxL := 3) (ret := (some .int)) (by decide) rfl ?_
  intro p e s m args below meth c s₁ B hml hv
  obtain ⟨rfl, hP, hD, hE⟩ := hv
  have hK := hE.1
  have hx := B.exec
  have hb := B.bytes
  have hr := B.returns
  have hts := atoms_spec (ws := wsX0_eagerOnes) B.pre
  have hown : s.vm.findClass RX0 = some m.cls := findClass_of_methodNamed B.named
  have hlocks := B.notSynchronized
  have hinX0 : ∀ w ∈ wsX00, w ∈ wsX0_eagerOnes := by decide +kernel
  generalize hres : d_X0_eagerOnes ea n = R
  replace hres := hres.symm
  rw [d_X0_eagerOnes] at hres
  have hl := lv_entry ([.ref h]) (n := 3) (Nat.le_of_ble_eq_true rfl)
  rw [lg_entry_eq]
  generalize (lg_sl ([.ref h]) ++ List.replicate (3 - (lg_sl ([.ref h])).length) Slot.unset).toArray = ls at hl ⊢
  have hl : lv_has ls 3 [(0, .ref h)] := hl
  refine lv_iconst (v := 0) hx hb dX0_eagerOnes_0 (by decide) ?_
  refine lv_istore_n (lv' := [(1, .int 0), (0, .ref h)]) hx hb dX0_eagerOnes_1 rfl hl (by decide) rfl (fun ls hl => ?_)
  refine lv_iconst (v := 0) hx hb dX0_eagerOnes_2 (by decide) ?_
  refine lv_istore_n (lv' := [(2, .int 0), (1, .int 0), (0, .ref h)]) hx hb dX0_eagerOnes_3 rfl hl (by decide) rfl (fun ls hl => ?_)
  have loop4 : ∀ (k4 : Nat) (i : Nat) (acc : Int32), n - i < k4 → i ≤ n → R = lp_X0_eagerOnes_4 ea n k4 i acc → ∀ ls : Array Slot, lv_has ls 3 [(0, .ref h), (1, .int acc), (2, .int (nI i))] → W p l e (headSpec wsX0_eagerOnes { frames := 0, cells := 0, slots := 0, locals := 0 }).room s m (([.ref h] : List Value).toArray) below meth c s.heap [] 0 0 (MQ below (QcR (some (.int R))) (([.ref h] : List Value).toArray) s 0 0 (fun _ => False)) (F0 m 4 ls []) := by
    intro k4
    induction k4 with
    | zero => intro i acc hk; exact absurd hk (Nat.not_lt_zero _)
    | succ k4 ih4 =>
      intro i acc hk4 hi hres ls hl
      rw [lp_X0_eagerOnes_4] at hres
      refine lv_iload_n hx hb dX0_eagerOnes_4 rfl (lv_at hl 2 rfl) ?_
      refine lv_aload_n hx hb dX0_eagerOnes_5 rfl (lv_at hl 0 rfl) ?_
      refine va_get (D := D) (ci := 0) (v := .int (hf 3)) (C := RX0) (T := TX0) (N := 9) hx hb hts hinX0 hown hK hP 0 rfl rfl 3 (by decide) (hts (.fieldLink RX0 24 "FirstOut$House" "things" "I") (by decide +kernel)) (fun _ h9 => h9) rfl dX0_eagerOnes_6 ?_
      refine lv_to (show (hf 3) = nI n from hn) ?_
      refine lv_icmp_ge (tgt := 33) hx hb dX0_eagerOnes_9 (by decide) (fun c_1 => ?_) (fun c_1 => ?_)
      · skip
        rw [if_pos c_1] at hres
        refine lv_iload_n hx hb dX0_eagerOnes_33 rfl (lv_at hl 1 rfl) ?_
        rw [hres]
        exact W.iret (v := acc) hx hb hr (fun t ht hW => ⟨rfl, ht⟩) (fun _ h => by cases h) dX0_eagerOnes_34
      · skip
        rw [if_neg c_1] at hres
        have hlt : i < n := nlt_of c_1 (by omega) (by omega)
        refine lv_aload_n hx hb dX0_eagerOnes_12 rfl (lv_at hl 0 rfl) ?_
        refine va_get (D := D) (ci := 0) (v := .ref eA) (C := RX0) (T := TX0) (N := 9) hx hb hts hinX0 hown hK hP 0 rfl rfl 2 (by decide) (hts (.fieldLink RX0 18 "FirstOut$House" "eager" "[I") (by decide +kernel)) (fun _ h9 => h9) rfl dX0_eagerOnes_13 ?_
        refine lv_iload_n hx hb dX0_eagerOnes_16 rfl (lv_at hl 2 rfl) ?_
        refine m_iald hx hb hK hP 3 0 rfl rfl i rfl (by omega) (by decide) dX0_eagerOnes_17 ?_
        refine lv_to (show _ = (ea i) from rfl) ?_
        refine lv_if_le (tgt := 27) hx hb dX0_eagerOnes_18 (by decide) (fun c_2 => ?_) (fun c_2 => ?_)
        · skip
          rw [if_pos c_2] at hres
          refine lv_iinc (v := nI (i + 1)) (lv' := [(2, .int (nI (i + 1))), (0, .ref h), (1, .int acc)]) hx hb dX0_eagerOnes_27 hl (k := 2) rfl ((nI_add i 1)) (by decide) rfl (fun ls hl => ?_)
          refine lv_goto (tgt := 4) hx hb dX0_eagerOnes_30 (by decide) ?_
          exact ih4 (i + 1) acc (by omega) (by omega) hres ls (lv_sub hl [1, 2, 0] rfl)
        · skip
          rw [if_neg c_2] at hres
          refine lv_iload_n hx hb dX0_eagerOnes_21 rfl (lv_at hl 1 rfl) ?_
          refine lv_iconst (v := 1) hx hb dX0_eagerOnes_22 (by decide) ?_
          refine lv_iload_n hx hb dX0_eagerOnes_23 rfl (lv_at hl 2 rfl) ?_
          refine lv_ishl hx hb dX0_eagerOnes_24 ?_
          refine lv_ior hx hb dX0_eagerOnes_25 ?_
          refine lv_istore_n (lv' := [(1, .int (acc ||| ((1 : Int32) <<< ((nI i) &&& 31)))), (0, .ref h), (2, .int (nI i))]) hx hb dX0_eagerOnes_26 rfl hl (by decide) rfl (fun ls hl => ?_)
          refine lv_iinc (v := nI (i + 1)) (lv' := [(2, .int (nI (i + 1))), (1, .int (acc ||| ((1 : Int32) <<< ((nI i) &&& 31)))), (0, .ref h)]) hx hb dX0_eagerOnes_27 hl (k := 2) rfl ((nI_add i 1)) (by decide) rfl (fun ls hl => ?_)
          refine lv_goto (tgt := 4) hx hb dX0_eagerOnes_30 (by decide) ?_
          exact ih4 (i + 1) (acc ||| ((1 : Int32) <<< ((nI i) &&& 31))) (by omega) (by omega) hres ls (lv_sub hl [2, 1, 0] rfl)
  exact loop4 (n + 1) 0 0 (by omega) (Nat.zero_le _) hres ls (lv_sub hl [2, 1, 0] rfl)
def lp_X0_dearOnes_4 (de : Nat → Int32) (among : Int32) (n : Nat) : Nat → Nat → Int32 → Int32
  | 0, _, _ => 0
  | k4 + 1, i, acc => if (nI n) ≤ (nI i) then
      acc
    else
      if (de i) ≤ 0 then
        lp_X0_dearOnes_4 de among n k4 (i + 1) acc
      else
        lp_X0_dearOnes_4 de among n k4 (i + 1) (acc ||| (among &&& ((1 : Int32) <<< ((nI i) &&& 31))))
def d_X0_dearOnes (de : Nat → Int32) (among : Int32) (n : Nat) : Int32 :=
  lp_X0_dearOnes_4 de among n (n + 1) 0 0
set_option maxHeartbeats 4000000 in
set_option maxRecDepth 100000 in
theorem c_X0_dearOnes (l : Launch) (D : va_G) (cI cC cZ cS : ClassId) (h : Nat) (tA : Nat) (dA : Nat) (eA : Nat) (hf : Nat → Int32) (tr : Nat → Int32) (de : Nat → Int32) (ea : Nat → Int32) (among : Int32) (n : Nat) (hn : hf 3 = nI n) (h7 : n ≤ 7) : Met l yX0_dearOnes wsX0_dearOnes { frames := 0, cells := 0, slots := 0, locals := 0 } (PcE D cI cC cZ cS [.ref h, .int among] (wH cI cC cZ cS h tA dA eA hf tr de ea)) (QcR (some (.int (d_X0_dearOnes de among n)))) 0 0 (fun _ => False) := by
  refine Met.ofW (cc := cX0_dearOnes) (maxL := 4) (ret := (some .int)) (by decide) rfl ?_
  intro p e s m args below meth c s₁ B hml hv
  obtain ⟨rfl, hP, hD, hE⟩ := hv
  have hK := hE.1
  have hx := B.exec
  have hb := B.bytes
  have hr := B.returns
  have hts := atoms_spec (ws := wsX0_dearOnes) B.pre
  have hown : s.vm.findClass RX0 = some m.cls := findClass_of_methodNamed B.named
  have hlocks := B.notSynchronized
  have hinX0 : ∀ w ∈ wsX00, w ∈ wsX0_dearOnes := by decide +kernel
  generalize hres : d_X0_dearOnes de among n = R
  replace hres := hres.symm
  rw [d_X0_dearOnes] at hres
  have hl := lv_entry ([.ref h, .int among]) (n := 4) (Nat.le_of_ble_eq_true rfl)
  rw [lg_entry_eq]
  generalize (lg_sl ([.ref h, .int among]) ++ List.replicate (4 - (lg_sl ([.ref h, .int among])).length) Slot.unset).toArray = ls at hl ⊢
  have hl : lv_has ls 4 [(0, .ref h), (1, .int among)] := hl
  refine lv_iconst (v := 0) hx hb dX0_dearOnes_0 (by decide) ?_
  refine lv_istore_n (lv' := [(2, .int 0), (0, .ref h), (1, .int among)]) hx hb dX0_dearOnes_1 rfl hl (by decide) rfl (fun ls hl => ?_)
  refine lv_iconst (v := 0) hx hb dX0_dearOnes_2 (by decide) ?_
  refine lv_istore_n (lv' := [(3, .int 0), (2, .int 0), (0, .ref h), (1, .int among)]) hx hb dX0_dearOnes_3 rfl hl (by decide) rfl (fun ls hl => ?_)
  have loop4 : ∀ (k4 : Nat) (i : Nat) (acc : Int32), n - i < k4 → i ≤ n → R = lp_X0_dearOnes_4 de among n k4 i acc → ∀ ls : Array Slot, lv_has ls 4 [(0, .ref h), (1, .int among), (2, .int acc), (3, .int (nI i))] → W p l e (headSpec wsX0_dearOnes { frames := 0, cells := 0, slots := 0, locals := 0 }).room s m (([.ref h, .int among] : List Value).toArray) below meth c s.heap [] 0 0 (MQ below (QcR (some (.int R))) (([.ref h, .int among] : List Value).toArray) s 0 0 (fun _ => False)) (F0 m 4 ls []) := by
    intro k4
    induction k4 with
    | zero => intro i acc hk; exact absurd hk (Nat.not_lt_zero _)
    | succ k4 ih4 =>
      intro i acc hk4 hi hres ls hl
      rw [lp_X0_dearOnes_4] at hres
      refine lv_iload_n hx hb dX0_dearOnes_4 rfl (lv_at hl 3 rfl) ?_
      refine lv_aload_n hx hb dX0_dearOnes_5 rfl (lv_at hl 0 rfl) ?_
      refine va_get (D := D) (ci := 0) (v := .int (hf 3)) (C := RX0) (T := TX0) (N := 9) hx hb hts hinX0 hown hK hP 0 rfl rfl 3 (by decide) (hts (.fieldLink RX0 24 "FirstOut$House" "things" "I") (by decide +kernel)) (fun _ h9 => h9) rfl dX0_dearOnes_6 ?_
      refine lv_to (show (hf 3) = nI n from hn) ?_
      refine lv_icmp_ge (tgt := 35) hx hb dX0_dearOnes_9 (by decide) (fun c_1 => ?_) (fun c_1 => ?_)
      · skip
        rw [if_pos c_1] at hres
        refine lv_iload_n hx hb dX0_dearOnes_35 rfl (lv_at hl 2 rfl) ?_
        rw [hres]
        exact W.iret (v := acc) hx hb hr (fun t ht hW => ⟨rfl, ht⟩) (fun _ h => by cases h) dX0_dearOnes_36
      · skip
        rw [if_neg c_1] at hres
        have hlt : i < n := nlt_of c_1 (by omega) (by omega)
        refine lv_aload_n hx hb dX0_dearOnes_12 rfl (lv_at hl 0 rfl) ?_
        refine va_get (D := D) (ci := 0) (v := .ref dA) (C := RX0) (T := TX0) (N := 9) hx hb hts hinX0 hown hK hP 0 rfl rfl 1 (by decide) (hts (.fieldLink RX0 15 "FirstOut$House" "dear" "[I") (by decide +kernel)) (fun _ h9 => h9) rfl dX0_dearOnes_13 ?_
        refine lv_iload_n hx hb dX0_dearOnes_16 rfl (lv_at hl 3 rfl) ?_
        refine m_iald hx hb hK hP 2 0 rfl rfl i rfl (by omega) (by decide) dX0_dearOnes_17 ?_
        refine lv_to (show _ = (de i) from rfl) ?_
        refine lv_if_le (tgt := 29) hx hb dX0_dearOnes_18 (by decide) (fun c_2 => ?_) (fun c_2 => ?_)
        · skip
          rw [if_pos c_2] at hres
          refine lv_iinc (v := nI (i + 1)) (lv' := [(3, .int (nI (i + 1))), (0, .ref h), (1, .int among), (2, .int acc)]) hx hb dX0_dearOnes_29 hl (k := 3) rfl ((nI_add i 1)) (by decide) rfl (fun ls hl => ?_)
          refine lv_goto (tgt := 4) hx hb dX0_dearOnes_32 (by decide) ?_
          exact ih4 (i + 1) acc (by omega) (by omega) hres ls (lv_sub hl [1, 2, 3, 0] rfl)
        · skip
          rw [if_neg c_2] at hres
          refine lv_iload_n hx hb dX0_dearOnes_21 rfl (lv_at hl 2 rfl) ?_
          refine lv_iload_n hx hb dX0_dearOnes_22 rfl (lv_at hl 1 rfl) ?_
          refine lv_iconst (v := 1) hx hb dX0_dearOnes_23 (by decide) ?_
          refine lv_iload_n hx hb dX0_dearOnes_24 rfl (lv_at hl 3 rfl) ?_
          refine lv_ishl hx hb dX0_dearOnes_25 ?_
          refine lv_iand hx hb dX0_dearOnes_26 ?_
          refine lv_ior hx hb dX0_dearOnes_27 ?_
          refine lv_istore_n (lv' := [(2, .int (acc ||| (among &&& ((1 : Int32) <<< ((nI i) &&& 31))))), (0, .ref h), (1, .int among), (3, .int (nI i))]) hx hb dX0_dearOnes_28 rfl hl (by decide) rfl (fun ls hl => ?_)
          refine lv_iinc (v := nI (i + 1)) (lv' := [(3, .int (nI (i + 1))), (2, .int (acc ||| (among &&& ((1 : Int32) <<< ((nI i) &&& 31))))), (0, .ref h), (1, .int among)]) hx hb dX0_dearOnes_29 hl (k := 3) rfl ((nI_add i 1)) (by decide) rfl (fun ls hl => ?_)
          refine lv_goto (tgt := 4) hx hb dX0_dearOnes_32 (by decide) ?_
          exact ih4 (i + 1) (acc ||| (among &&& ((1 : Int32) <<< ((nI i) &&& 31)))) (by omega) (by omega) hres ls (lv_sub hl [2, 3, 1, 0] rfl)
  exact loop4 (n + 1) 0 0 (by omega) (Nat.zero_le _) hres ls (lv_sub hl [2, 3, 1, 0] rfl)
def lp_X0_eagerTogether_4 (ea : Nat → Int32) (set : Int32) (n : Nat) : Nat → Nat → Int32 → Int32
  | 0, _, _ => 0
  | k4 + 1, i, acc => if (nI n) ≤ (nI i) then
      acc
    else
      lp_X0_eagerTogether_4 ea set n k4 (i + 1) (acc + ((d_X5_bitOf set (nI i)) * (ea i)))
def d_X0_eagerTogether (ea : Nat → Int32) (set : Int32) (n : Nat) : Int32 :=
  lp_X0_eagerTogether_4 ea set n (n + 1) 0 0
set_option maxHeartbeats 4000000 in
set_option maxRecDepth 100000 in
theorem c_X0_eagerTogether (l : Launch) (D : va_G) (cI cC cZ cS : ClassId) (h : Nat) (tA : Nat) (dA : Nat) (eA : Nat) (hf : Nat → Int32) (tr : Nat → Int32) (de : Nat → Int32) (ea : Nat → Int32) (set : Int32) (n : Nat) (hn : hf 3 = nI n) (h7 : n ≤ 7) : Met l yX0_eagerTogether wsX0_eagerTogether { frames := 1, cells := 0, slots := 0, locals := 21 } (PcE D cI cC cZ cS [.ref h, .int set] (wH cI cC cZ cS h tA dA eA hf tr de ea)) (QcR (some (.int (d_X0_eagerTogether ea set n)))) 0 0 (fun _ => False) := by
  refine Met.ofW (cc := cX0_eagerTogether) (maxL := 4) (ret := (some .int)) (by decide) rfl ?_
  intro p e s m args below meth c s₁ B hml hv
  obtain ⟨rfl, hP, hD, hE⟩ := hv
  have hK := hE.1
  have hx := B.exec
  have hb := B.bytes
  have hr := B.returns
  have hts := atoms_spec (ws := wsX0_eagerTogether) B.pre
  have hown : s.vm.findClass RX0 = some m.cls := findClass_of_methodNamed B.named
  have hlocks := B.notSynchronized
  have hinX0 : ∀ w ∈ wsX00, w ∈ wsX0_eagerTogether := by decide +kernel
  generalize hres : d_X0_eagerTogether ea set n = R
  replace hres := hres.symm
  rw [d_X0_eagerTogether] at hres
  have hl := lv_entry ([.ref h, .int set]) (n := 4) (Nat.le_of_ble_eq_true rfl)
  rw [lg_entry_eq]
  generalize (lg_sl ([.ref h, .int set]) ++ List.replicate (4 - (lg_sl ([.ref h, .int set])).length) Slot.unset).toArray = ls at hl ⊢
  have hl : lv_has ls 4 [(0, .ref h), (1, .int set)] := hl
  refine lv_iconst (v := 0) hx hb dX0_eagerTogether_0 (by decide) ?_
  refine lv_istore_n (lv' := [(2, .int 0), (0, .ref h), (1, .int set)]) hx hb dX0_eagerTogether_1 rfl hl (by decide) rfl (fun ls hl => ?_)
  refine lv_iconst (v := 0) hx hb dX0_eagerTogether_2 (by decide) ?_
  refine lv_istore_n (lv' := [(3, .int 0), (2, .int 0), (0, .ref h), (1, .int set)]) hx hb dX0_eagerTogether_3 rfl hl (by decide) rfl (fun ls hl => ?_)
  have loop4 : ∀ (k4 : Nat) (i : Nat) (acc : Int32), n - i < k4 → i ≤ n → R = lp_X0_eagerTogether_4 ea set n k4 i acc → ∀ ls : Array Slot, lv_has ls 4 [(0, .ref h), (1, .int set), (2, .int acc), (3, .int (nI i))] → W p l e (headSpec wsX0_eagerTogether { frames := 1, cells := 0, slots := 0, locals := 21 }).room s m (([.ref h, .int set] : List Value).toArray) below meth c s.heap [] 0 0 (MQ below (QcR (some (.int R))) (([.ref h, .int set] : List Value).toArray) s 0 0 (fun _ => False)) (F0 m 4 ls []) := by
    intro k4
    induction k4 with
    | zero => intro i acc hk; exact absurd hk (Nat.not_lt_zero _)
    | succ k4 ih4 =>
      intro i acc hk4 hi hres ls hl
      rw [lp_X0_eagerTogether_4] at hres
      refine lv_iload_n hx hb dX0_eagerTogether_4 rfl (lv_at hl 3 rfl) ?_
      refine lv_aload_n hx hb dX0_eagerTogether_5 rfl (lv_at hl 0 rfl) ?_
      refine va_get (D := D) (ci := 0) (v := .int (hf 3)) (C := RX0) (T := TX0) (N := 9) hx hb hts hinX0 hown hK hP 0 rfl rfl 3 (by decide) (hts (.fieldLink RX0 24 "FirstOut$House" "things" "I") (by decide +kernel)) (fun _ h9 => h9) rfl dX0_eagerTogether_6 ?_
      refine lv_to (show (hf 3) = nI n from hn) ?_
      refine lv_icmp_ge (tgt := 33) hx hb dX0_eagerTogether_9 (by decide) (fun c_1 => ?_) (fun c_1 => ?_)
      · skip
        rw [if_pos c_1] at hres
        refine lv_iload_n hx hb dX0_eagerTogether_33 rfl (lv_at hl 2 rfl) ?_
        rw [hres]
        exact W.iret (v := acc) hx hb hr (fun t ht hW => ⟨rfl, ht⟩) (fun _ h => by cases h) dX0_eagerTogether_34
      · skip
        rw [if_neg c_1] at hres
        have hlt : i < n := nlt_of c_1 (by omega) (by omega)
        refine lv_iload_n hx hb dX0_eagerTogether_12 rfl (lv_at hl 2 rfl) ?_
        refine lv_iload_n hx hb dX0_eagerTogether_13 rfl (lv_at hl 1 rfl) ?_
        refine lv_iload_n hx hb dX0_eagerTogether_14 rfl (lv_at hl 3 rfl) ?_
        have hPc := hP.sub (ws' := []) [] rfl
        have hDc := hD.sub (ws' := []) [] (by decide) rfl
        refine m_callR (cr_of (va_runSN (As := [.int set, .int (nI i)]) (rest := [.int acc]) ⟨hx, hb, hml, hown, hts⟩ (c_X5_bitOf l D cI cC cZ cS set (nI i)) ⟨va_cnB 2 hts gX0_eagerTogether_X5_bitOf_n68 rfl rfl rfl hE.2.1 (hts (.initialized RX5) (by decide +kernel)) (by decide +kernel) ⟨Nat.le_of_ble_eq_true rfl, Nat.le_of_ble_eq_true rfl⟩, hts (.static yX5_bitOf) (by decide +kernel), trivial⟩ (preS_of hPc hDc hE) rfl rfl hl.1 rfl (lv_room (Nat.le_of_ble_eq_true rfl)) dX0_eagerTogether_15 ⟨Nat.zero_le _, Nat.zero_le _⟩)) ?_
        refine W.eq (g2 := F0 m 18 ls [.int (d_X5_bitOf set (nI i)), .int acc]) rfl ?_
        refine lv_aload_n hx hb dX0_eagerTogether_18 rfl (lv_at hl 0 rfl) ?_
        refine va_get (D := D) (ci := 0) (v := .ref eA) (C := RX0) (T := TX0) (N := 9) hx hb hts hinX0 hown hK hP 0 rfl rfl 2 (by decide) (hts (.fieldLink RX0 18 "FirstOut$House" "eager" "[I") (by decide +kernel)) (fun _ h9 => h9) rfl dX0_eagerTogether_19 ?_
        refine lv_iload_n hx hb dX0_eagerTogether_22 rfl (lv_at hl 3 rfl) ?_
        refine m_iald hx hb hK hP 3 0 rfl rfl i rfl (by omega) (by decide) dX0_eagerTogether_23 ?_
        refine lv_to (show _ = (ea i) from rfl) ?_
        refine lv_imul hx hb dX0_eagerTogether_24 ?_
        refine lv_iadd hx hb dX0_eagerTogether_25 ?_
        refine lv_istore_n (lv' := [(2, .int (acc + ((d_X5_bitOf set (nI i)) * (ea i)))), (0, .ref h), (1, .int set), (3, .int (nI i))]) hx hb dX0_eagerTogether_26 rfl hl (by decide) rfl (fun ls hl => ?_)
        refine lv_iinc (v := nI (i + 1)) (lv' := [(3, .int (nI (i + 1))), (2, .int (acc + ((d_X5_bitOf set (nI i)) * (ea i)))), (0, .ref h), (1, .int set)]) hx hb dX0_eagerTogether_27 hl (k := 3) rfl ((nI_add i 1)) (by decide) rfl (fun ls hl => ?_)
        refine lv_goto (tgt := 4) hx hb dX0_eagerTogether_30 (by decide) ?_
        exact ih4 (i + 1) (acc + ((d_X5_bitOf set (nI i)) * (ea i))) (by omega) (by omega) hres ls (lv_sub hl [2, 3, 1, 0] rfl)
  exact loop4 (n + 1) 0 0 (by omega) (Nat.zero_le _) hres ls (lv_sub hl [2, 3, 1, 0] rfl)
def lp_X0_dearTogether_4 (de : Nat → Int32) (set : Int32) (n : Nat) : Nat → Nat → Int32 → Int32
  | 0, _, _ => 0
  | k4 + 1, i, acc => if (nI n) ≤ (nI i) then
      acc
    else
      lp_X0_dearTogether_4 de set n k4 (i + 1) (acc + ((d_X5_bitOf set (nI i)) * (de i)))
def d_X0_dearTogether (de : Nat → Int32) (set : Int32) (n : Nat) : Int32 :=
  lp_X0_dearTogether_4 de set n (n + 1) 0 0
set_option maxHeartbeats 4000000 in
set_option maxRecDepth 100000 in
theorem c_X0_dearTogether (l : Launch) (D : va_G) (cI cC cZ cS : ClassId) (h : Nat) (tA : Nat) (dA : Nat) (eA : Nat) (hf : Nat → Int32) (tr : Nat → Int32) (de : Nat → Int32) (ea : Nat → Int32) (set : Int32) (n : Nat) (hn : hf 3 = nI n) (h7 : n ≤ 7) : Met l yX0_dearTogether wsX0_dearTogether { frames := 1, cells := 0, slots := 0, locals := 21 } (PcE D cI cC cZ cS [.ref h, .int set] (wH cI cC cZ cS h tA dA eA hf tr de ea)) (QcR (some (.int (d_X0_dearTogether de set n)))) 0 0 (fun _ => False) := by
  refine Met.ofW (cc := cX0_dearTogether) (maxL := 4) (ret := (some .int)) (by decide) rfl ?_
  intro p e s m args below meth c s₁ B hml hv
  obtain ⟨rfl, hP, hD, hE⟩ := hv
  have hK := hE.1
  have hx := B.exec
  have hb := B.bytes
  have hr := B.returns
  have hts := atoms_spec (ws := wsX0_dearTogether) B.pre
  have hown : s.vm.findClass RX0 = some m.cls := findClass_of_methodNamed B.named
  have hlocks := B.notSynchronized
  have hinX0 : ∀ w ∈ wsX00, w ∈ wsX0_dearTogether := by decide +kernel
  generalize hres : d_X0_dearTogether de set n = R
  replace hres := hres.symm
  rw [d_X0_dearTogether] at hres
  have hl := lv_entry ([.ref h, .int set]) (n := 4) (Nat.le_of_ble_eq_true rfl)
  rw [lg_entry_eq]
  generalize (lg_sl ([.ref h, .int set]) ++ List.replicate (4 - (lg_sl ([.ref h, .int set])).length) Slot.unset).toArray = ls at hl ⊢
  have hl : lv_has ls 4 [(0, .ref h), (1, .int set)] := hl
  refine lv_iconst (v := 0) hx hb dX0_dearTogether_0 (by decide) ?_
  refine lv_istore_n (lv' := [(2, .int 0), (0, .ref h), (1, .int set)]) hx hb dX0_dearTogether_1 rfl hl (by decide) rfl (fun ls hl => ?_)
  refine lv_iconst (v := 0) hx hb dX0_dearTogether_2 (by decide) ?_
  refine lv_istore_n (lv' := [(3, .int 0), (2, .int 0), (0, .ref h), (1, .int set)]) hx hb dX0_dearTogether_3 rfl hl (by decide) rfl (fun ls hl => ?_)
  have loop4 : ∀ (k4 : Nat) (i : Nat) (acc : Int32), n - i < k4 → i ≤ n → R = lp_X0_dearTogether_4 de set n k4 i acc → ∀ ls : Array Slot, lv_has ls 4 [(0, .ref h), (1, .int set), (2, .int acc), (3, .int (nI i))] → W p l e (headSpec wsX0_dearTogether { frames := 1, cells := 0, slots := 0, locals := 21 }).room s m (([.ref h, .int set] : List Value).toArray) below meth c s.heap [] 0 0 (MQ below (QcR (some (.int R))) (([.ref h, .int set] : List Value).toArray) s 0 0 (fun _ => False)) (F0 m 4 ls []) := by
    intro k4
    induction k4 with
    | zero => intro i acc hk; exact absurd hk (Nat.not_lt_zero _)
    | succ k4 ih4 =>
      intro i acc hk4 hi hres ls hl
      rw [lp_X0_dearTogether_4] at hres
      refine lv_iload_n hx hb dX0_dearTogether_4 rfl (lv_at hl 3 rfl) ?_
      refine lv_aload_n hx hb dX0_dearTogether_5 rfl (lv_at hl 0 rfl) ?_
      refine va_get (D := D) (ci := 0) (v := .int (hf 3)) (C := RX0) (T := TX0) (N := 9) hx hb hts hinX0 hown hK hP 0 rfl rfl 3 (by decide) (hts (.fieldLink RX0 24 "FirstOut$House" "things" "I") (by decide +kernel)) (fun _ h9 => h9) rfl dX0_dearTogether_6 ?_
      refine lv_to (show (hf 3) = nI n from hn) ?_
      refine lv_icmp_ge (tgt := 33) hx hb dX0_dearTogether_9 (by decide) (fun c_1 => ?_) (fun c_1 => ?_)
      · skip
        rw [if_pos c_1] at hres
        refine lv_iload_n hx hb dX0_dearTogether_33 rfl (lv_at hl 2 rfl) ?_
        rw [hres]
        exact W.iret (v := acc) hx hb hr (fun t ht hW => ⟨rfl, ht⟩) (fun _ h => by cases h) dX0_dearTogether_34
      · skip
        rw [if_neg c_1] at hres
        have hlt : i < n := nlt_of c_1 (by omega) (by omega)
        refine lv_iload_n hx hb dX0_dearTogether_12 rfl (lv_at hl 2 rfl) ?_
        refine lv_iload_n hx hb dX0_dearTogether_13 rfl (lv_at hl 1 rfl) ?_
        refine lv_iload_n hx hb dX0_dearTogether_14 rfl (lv_at hl 3 rfl) ?_
        have hPc := hP.sub (ws' := []) [] rfl
        have hDc := hD.sub (ws' := []) [] (by decide) rfl
        refine m_callR (cr_of (va_runSN (As := [.int set, .int (nI i)]) (rest := [.int acc]) ⟨hx, hb, hml, hown, hts⟩ (c_X5_bitOf l D cI cC cZ cS set (nI i)) ⟨va_cnB 2 hts gX0_dearTogether_X5_bitOf_n68 rfl rfl rfl hE.2.1 (hts (.initialized RX5) (by decide +kernel)) (by decide +kernel) ⟨Nat.le_of_ble_eq_true rfl, Nat.le_of_ble_eq_true rfl⟩, hts (.static yX5_bitOf) (by decide +kernel), trivial⟩ (preS_of hPc hDc hE) rfl rfl hl.1 rfl (lv_room (Nat.le_of_ble_eq_true rfl)) dX0_dearTogether_15 ⟨Nat.zero_le _, Nat.zero_le _⟩)) ?_
        refine W.eq (g2 := F0 m 18 ls [.int (d_X5_bitOf set (nI i)), .int acc]) rfl ?_
        refine lv_aload_n hx hb dX0_dearTogether_18 rfl (lv_at hl 0 rfl) ?_
        refine va_get (D := D) (ci := 0) (v := .ref dA) (C := RX0) (T := TX0) (N := 9) hx hb hts hinX0 hown hK hP 0 rfl rfl 1 (by decide) (hts (.fieldLink RX0 15 "FirstOut$House" "dear" "[I") (by decide +kernel)) (fun _ h9 => h9) rfl dX0_dearTogether_19 ?_
        refine lv_iload_n hx hb dX0_dearTogether_22 rfl (lv_at hl 3 rfl) ?_
        refine m_iald hx hb hK hP 2 0 rfl rfl i rfl (by omega) (by decide) dX0_dearTogether_23 ?_
        refine lv_to (show _ = (de i) from rfl) ?_
        refine lv_imul hx hb dX0_dearTogether_24 ?_
        refine lv_iadd hx hb dX0_dearTogether_25 ?_
        refine lv_istore_n (lv' := [(2, .int (acc + ((d_X5_bitOf set (nI i)) * (de i)))), (0, .ref h), (1, .int set), (3, .int (nI i))]) hx hb dX0_dearTogether_26 rfl hl (by decide) rfl (fun ls hl => ?_)
        refine lv_iinc (v := nI (i + 1)) (lv' := [(3, .int (nI (i + 1))), (2, .int (acc + ((d_X5_bitOf set (nI i)) * (de i)))), (0, .ref h), (1, .int set)]) hx hb dX0_dearTogether_27 hl (k := 3) rfl ((nI_add i 1)) (by decide) rfl (fun ls hl => ?_)
        refine lv_goto (tgt := 4) hx hb dX0_dearTogether_30 (by decide) ?_
        exact ih4 (i + 1) (acc + ((d_X5_bitOf set (nI i)) * (de i))) (by omega) (by omega) hres ls (lv_sub hl [2, 3, 1, 0] rfl)
  exact loop4 (n + 1) 0 0 (by omega) (Nat.zero_le _) hres ls (lv_sub hl [2, 3, 1, 0] rfl)
def lp_X0_harmUpper_5 (de : Nat → Int32) (ea : Nat → Int32) (able : Int32) (cov : Int32) (n : Nat) : Nat → Nat → Int32 → Int32
  | 0, _, _ => 0
  | k5 + 1, i, acc => if (nI n) ≤ (nI i) then
      acc
    else
      lp_X0_harmUpper_5 de ea able cov n k5 (i + 1) (acc + (((d_X5_bitOf (able &&& cov) (nI i)) * (de i)) * (ea i)))
def d_X0_harmUpper (de : Nat → Int32) (ea : Nat → Int32) (able : Int32) (cov : Int32) (n : Nat) : Int32 :=
  lp_X0_harmUpper_5 de ea able cov n (n + 1) 0 0
set_option maxHeartbeats 4000000 in
set_option maxRecDepth 100000 in
theorem c_X0_harmUpper (l : Launch) (D : va_G) (cI cC cZ cS : ClassId) (h : Nat) (tA : Nat) (dA : Nat) (eA : Nat) (hf : Nat → Int32) (tr : Nat → Int32) (de : Nat → Int32) (ea : Nat → Int32) (able : Int32) (cov : Int32) (n : Nat) (hn : hf 3 = nI n) (h7 : n ≤ 7) : Met l yX0_harmUpper wsX0_harmUpper { frames := 1, cells := 0, slots := 0, locals := 21 } (PcE D cI cC cZ cS [.ref h, .int able, .int cov] (wH cI cC cZ cS h tA dA eA hf tr de ea)) (QcR (some (.int (d_X0_harmUpper de ea able cov n)))) 0 0 (fun _ => False) := by
  refine Met.ofW (cc := cX0_harmUpper) (maxL := 5) (ret := (some .int)) (by decide) rfl ?_
  intro p e s m args below meth c s₁ B hml hv
  obtain ⟨rfl, hP, hD, hE⟩ := hv
  have hK := hE.1
  have hx := B.exec
  have hb := B.bytes
  have hr := B.returns
  have hts := atoms_spec (ws := wsX0_harmUpper) B.pre
  have hown : s.vm.findClass RX0 = some m.cls := findClass_of_methodNamed B.named
  have hlocks := B.notSynchronized
  have hinX0 : ∀ w ∈ wsX00, w ∈ wsX0_harmUpper := by decide +kernel
  generalize hres : d_X0_harmUpper de ea able cov n = R
  replace hres := hres.symm
  rw [d_X0_harmUpper] at hres
  have hl := lv_entry ([.ref h, .int able, .int cov]) (n := 5) (Nat.le_of_ble_eq_true rfl)
  rw [lg_entry_eq]
  generalize (lg_sl ([.ref h, .int able, .int cov]) ++ List.replicate (5 - (lg_sl ([.ref h, .int able, .int cov])).length) Slot.unset).toArray = ls at hl ⊢
  have hl : lv_has ls 5 [(0, .ref h), (1, .int able), (2, .int cov)] := hl
  refine lv_iconst (v := 0) hx hb dX0_harmUpper_0 (by decide) ?_
  refine lv_istore_n (lv' := [(3, .int 0), (0, .ref h), (1, .int able), (2, .int cov)]) hx hb dX0_harmUpper_1 rfl hl (by decide) rfl (fun ls hl => ?_)
  refine lv_iconst (v := 0) hx hb dX0_harmUpper_2 (by decide) ?_
  refine lv_istore (lv' := [(4, .int 0), (3, .int 0), (0, .ref h), (1, .int able), (2, .int cov)]) hx hb dX0_harmUpper_3 hl (by decide) rfl (fun ls hl => ?_)
  have loop5 : ∀ (k5 : Nat) (i : Nat) (acc : Int32), n - i < k5 → i ≤ n → R = lp_X0_harmUpper_5 de ea able cov n k5 i acc → ∀ ls : Array Slot, lv_has ls 5 [(0, .ref h), (1, .int able), (2, .int cov), (3, .int acc), (4, .int (nI i))] → W p l e (headSpec wsX0_harmUpper { frames := 1, cells := 0, slots := 0, locals := 21 }).room s m (([.ref h, .int able, .int cov] : List Value).toArray) below meth c s.heap [] 0 0 (MQ below (QcR (some (.int R))) (([.ref h, .int able, .int cov] : List Value).toArray) s 0 0 (fun _ => False)) (F0 m 5 ls []) := by
    intro k5
    induction k5 with
    | zero => intro i acc hk; exact absurd hk (Nat.not_lt_zero _)
    | succ k5 ih5 =>
      intro i acc hk5 hi hres ls hl
      rw [lp_X0_harmUpper_5] at hres
      refine lv_iload hx hb dX0_harmUpper_5 (lv_at hl 4 rfl) ?_
      refine lv_aload_n hx hb dX0_harmUpper_7 rfl (lv_at hl 0 rfl) ?_
      refine va_get (D := D) (ci := 0) (v := .int (hf 3)) (C := RX0) (T := TX0) (N := 9) hx hb hts hinX0 hown hK hP 0 rfl rfl 3 (by decide) (hts (.fieldLink RX0 24 "FirstOut$House" "things" "I") (by decide +kernel)) (fun _ h9 => h9) rfl dX0_harmUpper_8 ?_
      refine lv_to (show (hf 3) = nI n from hn) ?_
      refine lv_icmp_ge (tgt := 47) hx hb dX0_harmUpper_11 (by decide) (fun c_1 => ?_) (fun c_1 => ?_)
      · skip
        rw [if_pos c_1] at hres
        refine lv_iload_n hx hb dX0_harmUpper_47 rfl (lv_at hl 3 rfl) ?_
        rw [hres]
        exact W.iret (v := acc) hx hb hr (fun t ht hW => ⟨rfl, ht⟩) (fun _ h => by cases h) dX0_harmUpper_48
      · skip
        rw [if_neg c_1] at hres
        have hlt : i < n := nlt_of c_1 (by omega) (by omega)
        refine lv_iload_n hx hb dX0_harmUpper_14 rfl (lv_at hl 3 rfl) ?_
        refine lv_iload_n hx hb dX0_harmUpper_15 rfl (lv_at hl 1 rfl) ?_
        refine lv_iload_n hx hb dX0_harmUpper_16 rfl (lv_at hl 2 rfl) ?_
        refine lv_iand hx hb dX0_harmUpper_17 ?_
        refine lv_iload hx hb dX0_harmUpper_18 (lv_at hl 4 rfl) ?_
        have hPc := hP.sub (ws' := []) [] rfl
        have hDc := hD.sub (ws' := []) [] (by decide) rfl
        refine m_callR (cr_of (va_runSN (As := [.int (able &&& cov), .int (nI i)]) (rest := [.int acc]) ⟨hx, hb, hml, hown, hts⟩ (c_X5_bitOf l D cI cC cZ cS (able &&& cov) (nI i)) ⟨va_cnB 2 hts gX0_harmUpper_X5_bitOf_n68 rfl rfl rfl hE.2.1 (hts (.initialized RX5) (by decide +kernel)) (by decide +kernel) ⟨Nat.le_of_ble_eq_true rfl, Nat.le_of_ble_eq_true rfl⟩, hts (.static yX5_bitOf) (by decide +kernel), trivial⟩ (preS_of hPc hDc hE) rfl rfl hl.1 rfl (lv_room (Nat.le_of_ble_eq_true rfl)) dX0_harmUpper_20 ⟨Nat.zero_le _, Nat.zero_le _⟩)) ?_
        refine W.eq (g2 := F0 m 23 ls [.int (d_X5_bitOf (able &&& cov) (nI i)), .int acc]) rfl ?_
        refine lv_aload_n hx hb dX0_harmUpper_23 rfl (lv_at hl 0 rfl) ?_
        refine va_get (D := D) (ci := 0) (v := .ref dA) (C := RX0) (T := TX0) (N := 9) hx hb hts hinX0 hown hK hP 0 rfl rfl 1 (by decide) (hts (.fieldLink RX0 15 "FirstOut$House" "dear" "[I") (by decide +kernel)) (fun _ h9 => h9) rfl dX0_harmUpper_24 ?_
        refine lv_iload hx hb dX0_harmUpper_27 (lv_at hl 4 rfl) ?_
        refine m_iald hx hb hK hP 2 0 rfl rfl i rfl (by omega) (by decide) dX0_harmUpper_29 ?_
        refine lv_to (show _ = (de i) from rfl) ?_
        refine lv_imul hx hb dX0_harmUpper_30 ?_
        refine lv_aload_n hx hb dX0_harmUpper_31 rfl (lv_at hl 0 rfl) ?_
        refine va_get (D := D) (ci := 0) (v := .ref eA) (C := RX0) (T := TX0) (N := 9) hx hb hts hinX0 hown hK hP 0 rfl rfl 2 (by decide) (hts (.fieldLink RX0 18 "FirstOut$House" "eager" "[I") (by decide +kernel)) (fun _ h9 => h9) rfl dX0_harmUpper_32 ?_
        refine lv_iload hx hb dX0_harmUpper_35 (lv_at hl 4 rfl) ?_
        refine m_iald hx hb hK hP 3 0 rfl rfl i rfl (by omega) (by decide) dX0_harmUpper_37 ?_
        refine lv_to (show _ = (ea i) from rfl) ?_
        refine lv_imul hx hb dX0_harmUpper_38 ?_
        refine lv_iadd hx hb dX0_harmUpper_39 ?_
        refine lv_istore_n (lv' := [(3, .int (acc + (((d_X5_bitOf (able &&& cov) (nI i)) * (de i)) * (ea i)))), (0, .ref h), (1, .int able), (2, .int cov), (4, .int (nI i))]) hx hb dX0_harmUpper_40 rfl hl (by decide) rfl (fun ls hl => ?_)
        refine lv_iinc (v := nI (i + 1)) (lv' := [(4, .int (nI (i + 1))), (3, .int (acc + (((d_X5_bitOf (able &&& cov) (nI i)) * (de i)) * (ea i)))), (0, .ref h), (1, .int able), (2, .int cov)]) hx hb dX0_harmUpper_41 hl (k := 4) rfl ((nI_add i 1)) (by decide) rfl (fun ls hl => ?_)
        refine lv_goto (tgt := 5) hx hb dX0_harmUpper_44 (by decide) ?_
        exact ih5 (i + 1) (acc + (((d_X5_bitOf (able &&& cov) (nI i)) * (de i)) * (ea i))) (by omega) (by omega) hres ls (lv_sub hl [2, 3, 4, 1, 0] rfl)
  exact loop5 (n + 1) 0 0 (by omega) (Nat.zero_le _) hres ls (lv_sub hl [2, 3, 4, 1, 0] rfl)
def d_X0_shares (ea : Nat → Int32) (able : Int32) (n : Nat) : Int32 :=
  if (1 : Int32) < (d_X0_eagerTogether ea able n) then (d_X0_eagerTogether ea able n) else (1 : Int32)
set_option maxHeartbeats 4000000 in
set_option maxRecDepth 100000 in
theorem c_X0_shares (l : Launch) (D : va_G) (cI cC cZ cS : ClassId) (h : Nat) (tA : Nat) (dA : Nat) (eA : Nat) (hf : Nat → Int32) (tr : Nat → Int32) (de : Nat → Int32) (ea : Nat → Int32) (able : Int32) (n : Nat) (hn : hf 3 = nI n) (h7 : n ≤ 7) : Met l yX0_shares wsX0_shares { frames := 2, cells := 0, slots := 0, locals := 44 } (PcE D cI cC cZ cS [.ref h, .int able] (wH cI cC cZ cS h tA dA eA hf tr de ea)) (QcR (some (.int (d_X0_shares ea able n)))) 0 0 (fun _ => False) := by
  refine Met.ofW (cc := cX0_shares) (maxL := 2) (ret := (some .int)) (by decide) rfl ?_
  intro p e s m args below meth c s₁ B hml hv
  obtain ⟨rfl, hP, hD, hE⟩ := hv
  have hK := hE.1
  have hx := B.exec
  have hb := B.bytes
  have hr := B.returns
  have hts := atoms_spec (ws := wsX0_shares) B.pre
  have hown : s.vm.findClass RX0 = some m.cls := findClass_of_methodNamed B.named
  have hlocks := B.notSynchronized
  generalize hres : d_X0_shares ea able n = R
  replace hres := hres.symm
  rw [d_X0_shares] at hres
  have hl := lv_entry ([.ref h, .int able]) (n := 2) (Nat.le_of_ble_eq_true rfl)
  rw [lg_entry_eq]
  generalize (lg_sl ([.ref h, .int able]) ++ List.replicate (2 - (lg_sl ([.ref h, .int able])).length) Slot.unset).toArray = ls at hl ⊢
  have hl : lv_has ls 2 [(0, .ref h), (1, .int able)] := hl
  refine lv_iconst (v := 1) hx hb dX0_shares_0 (by decide) ?_
  refine lv_aload_n hx hb dX0_shares_1 rfl (lv_at hl 0 rfl) ?_
  refine lv_iload_n hx hb dX0_shares_2 rfl (lv_at hl 1 rfl) ?_
  have hPc := hP.sub (ws' := (wH cI cC cZ cS h tA dA eA hf tr de ea)) [0, 1, 2, 3] rfl
  have hDc := hD.sub (ws' := (wH cI cC cZ cS h tA dA eA hf tr de ea)) [0, 1, 2, 3] (by decide) rfl
  refine m_callR (W.runV (As := [.int able]) (rest := [.int 1]) ⟨hx, hb, hml, hown, hts⟩ (c_X0_eagerTogether l D cI cC cZ cS h tA dA eA hf tr de ea able n hn h7) (cwV 1 hts gX0_shares_X0_eagerTogether rfl rfl rfl (by decide +kernel) ⟨Nat.le_of_ble_eq_true rfl, Nat.le_of_ble_eq_true rfl⟩) (preV_of hPc hDc hE (va_recv hK hPc (ci := 0) (q0 := 0) rfl rfl)) rfl rfl hl.1 rfl (lv_room (Nat.le_of_ble_eq_true rfl)) dX0_shares_3 ⟨Nat.zero_le _, Nat.zero_le _⟩) ?_
  refine W.eq (g2 := F0 m 6 ls [.int (d_X0_eagerTogether ea able n), .int 1]) rfl ?_
  refine va_mmax hx hb (by rw [hml]; exact hl.1.symm) hown (hts (.methodLink RX0 75 Lib.Math.max.name) (by decide +kernel)) (hts (.static Lib.Math.max.name) (by decide +kernel)) (hts (.initialized "java/lang/Math") (by decide +kernel)) (hts (.code Lib.Math.max.name Lib.Math.max.code 2 (some .int)) (by decide +kernel)) (Nat.le_of_ble_eq_true rfl) (Nat.le_of_ble_eq_true rfl) (Nat.zero_le _) (Nat.zero_le _) dX0_shares_6 ?_
  rw [hres]
  exact W.iret (v := if (1 : Int32) < (d_X0_eagerTogether ea able n) then (d_X0_eagerTogether ea able n) else (1 : Int32)) hx hb hr (fun t ht hW => ⟨rfl, ht⟩) (fun _ h => by cases h) dX0_shares_9
def lp_X0_countedOff_5 (ea : Nat → Int32) (able : Int32) (place : Int32) (n : Nat) : Nat → Nat → Int32 → Int32
  | 0, _, _ => 0
  | k5 + 1, i, acc => if (nI n) ≤ (nI i) then
      (-9)
    else
      if ((d_X5_bitOf able (nI i)) * (ea i)) ≤ acc then
        lp_X0_countedOff_5 ea able place n k5 (i + 1) (acc - ((d_X5_bitOf able (nI i)) * (ea i)))
      else
        nI i
def d_X0_countedOff (ea : Nat → Int32) (able : Int32) (place : Int32) (n : Nat) : Int32 :=
  lp_X0_countedOff_5 ea able place n (n + 1) 0 place
set_option maxHeartbeats 4000000 in
set_option maxRecDepth 100000 in
theorem c_X0_countedOff (l : Launch) (D : va_G) (cI cC cZ cS : ClassId) (h : Nat) (tA : Nat) (dA : Nat) (eA : Nat) (hf : Nat → Int32) (tr : Nat → Int32) (de : Nat → Int32) (ea : Nat → Int32) (able : Int32) (place : Int32) (n : Nat) (hn : hf 3 = nI n) (h7 : n ≤ 7) : Met l yX0_countedOff wsX0_countedOff { frames := 1, cells := 0, slots := 0, locals := 21 } (PcE D cI cC cZ cS [.ref h, .int able, .int place] (wH cI cC cZ cS h tA dA eA hf tr de ea)) (QcR (some (.int (d_X0_countedOff ea able place n)))) 0 0 (fun _ => False) := by
  refine Met.ofW (cc := cX0_countedOff) (maxL := 6) (ret := (some .int)) (by decide) rfl ?_
  intro p e s m args below meth c s₁ B hml hv
  obtain ⟨rfl, hP, hD, hE⟩ := hv
  have hK := hE.1
  have hx := B.exec
  have hb := B.bytes
  have hr := B.returns
  have hts := atoms_spec (ws := wsX0_countedOff) B.pre
  have hown : s.vm.findClass RX0 = some m.cls := findClass_of_methodNamed B.named
  have hlocks := B.notSynchronized
  have hinX0 : ∀ w ∈ wsX00, w ∈ wsX0_countedOff := by decide +kernel
  generalize hres : d_X0_countedOff ea able place n = R
  replace hres := hres.symm
  rw [d_X0_countedOff] at hres
  have hl := lv_entry ([.ref h, .int able, .int place]) (n := 6) (Nat.le_of_ble_eq_true rfl)
  rw [lg_entry_eq]
  generalize (lg_sl ([.ref h, .int able, .int place]) ++ List.replicate (6 - (lg_sl ([.ref h, .int able, .int place])).length) Slot.unset).toArray = ls at hl ⊢
  have hl : lv_has ls 6 [(0, .ref h), (1, .int able), (2, .int place)] := hl
  refine lv_iload_n hx hb dX0_countedOff_0 rfl (lv_at hl 2 rfl) ?_
  refine lv_istore_n (lv' := [(3, .int place), (0, .ref h), (1, .int able), (2, .int place)]) hx hb dX0_countedOff_1 rfl hl (by decide) rfl (fun ls hl => ?_)
  refine lv_iconst (v := 0) hx hb dX0_countedOff_2 (by decide) ?_
  refine lv_istore (lv' := [(4, .int 0), (3, .int place), (0, .ref h), (1, .int able), (2, .int place)]) hx hb dX0_countedOff_3 hl (by decide) rfl (fun ls hl => ?_)
  have loop5 : ∀ (k5 : Nat) (i : Nat) (acc : Int32), n - i < k5 → i ≤ n → R = lp_X0_countedOff_5 ea able place n k5 i acc → ∀ ls : Array Slot, lv_has ls 6 [(0, .ref h), (1, .int able), (2, .int place), (3, .int acc), (4, .int (nI i))] → W p l e (headSpec wsX0_countedOff { frames := 1, cells := 0, slots := 0, locals := 21 }).room s m (([.ref h, .int able, .int place] : List Value).toArray) below meth c s.heap [] 0 0 (MQ below (QcR (some (.int R))) (([.ref h, .int able, .int place] : List Value).toArray) s 0 0 (fun _ => False)) (F0 m 5 ls []) := by
    intro k5
    induction k5 with
    | zero => intro i acc hk; exact absurd hk (Nat.not_lt_zero _)
    | succ k5 ih5 =>
      intro i acc hk5 hi hres ls hl
      rw [lp_X0_countedOff_5] at hres
      refine lv_iload hx hb dX0_countedOff_5 (lv_at hl 4 rfl) ?_
      refine lv_aload_n hx hb dX0_countedOff_7 rfl (lv_at hl 0 rfl) ?_
      refine va_get (D := D) (ci := 0) (v := .int (hf 3)) (C := RX0) (T := TX0) (N := 9) hx hb hts hinX0 hown hK hP 0 rfl rfl 3 (by decide) (hts (.fieldLink RX0 24 "FirstOut$House" "things" "I") (by decide +kernel)) (fun _ h9 => h9) rfl dX0_countedOff_8 ?_
      refine lv_to (show (hf 3) = nI n from hn) ?_
      refine lv_icmp_ge (tgt := 50) hx hb dX0_countedOff_11 (by decide) (fun c_1 => ?_) (fun c_1 => ?_)
      · skip
        rw [if_pos c_1] at hres
        refine lv_bipush (v := (-9)) hx hb dX0_countedOff_50 (by decide) ?_
        rw [hres]
        exact W.iret (v := (-9)) hx hb hr (fun t ht hW => ⟨rfl, ht⟩) (fun _ h => by cases h) dX0_countedOff_52
      · skip
        rw [if_neg c_1] at hres
        have hlt : i < n := nlt_of c_1 (by omega) (by omega)
        refine lv_iload_n hx hb dX0_countedOff_14 rfl (lv_at hl 1 rfl) ?_
        refine lv_iload hx hb dX0_countedOff_15 (lv_at hl 4 rfl) ?_
        have hPc := hP.sub (ws' := []) [] rfl
        have hDc := hD.sub (ws' := []) [] (by decide) rfl
        refine m_callR (cr_of (va_runSN (As := [.int able, .int (nI i)]) (rest := []) ⟨hx, hb, hml, hown, hts⟩ (c_X5_bitOf l D cI cC cZ cS able (nI i)) ⟨va_cnB 2 hts gX0_countedOff_X5_bitOf_n68 rfl rfl rfl hE.2.1 (hts (.initialized RX5) (by decide +kernel)) (by decide +kernel) ⟨Nat.le_of_ble_eq_true rfl, Nat.le_of_ble_eq_true rfl⟩, hts (.static yX5_bitOf) (by decide +kernel), trivial⟩ (preS_of hPc hDc hE) rfl rfl hl.1 rfl (lv_room (Nat.le_of_ble_eq_true rfl)) dX0_countedOff_17 ⟨Nat.zero_le _, Nat.zero_le _⟩)) ?_
        refine W.eq (g2 := F0 m 20 ls [.int (d_X5_bitOf able (nI i))]) rfl ?_
        refine lv_aload_n hx hb dX0_countedOff_20 rfl (lv_at hl 0 rfl) ?_
        refine va_get (D := D) (ci := 0) (v := .ref eA) (C := RX0) (T := TX0) (N := 9) hx hb hts hinX0 hown hK hP 0 rfl rfl 2 (by decide) (hts (.fieldLink RX0 18 "FirstOut$House" "eager" "[I") (by decide +kernel)) (fun _ h9 => h9) rfl dX0_countedOff_21 ?_
        refine lv_iload hx hb dX0_countedOff_24 (lv_at hl 4 rfl) ?_
        refine m_iald hx hb hK hP 3 0 rfl rfl i rfl (by omega) (by decide) dX0_countedOff_26 ?_
        refine lv_to (show _ = (ea i) from rfl) ?_
        refine lv_imul hx hb dX0_countedOff_27 ?_
        refine lv_istore (lv' := [(5, .int ((d_X5_bitOf able (nI i)) * (ea i))), (0, .ref h), (1, .int able), (2, .int place), (3, .int acc), (4, .int (nI i))]) hx hb dX0_countedOff_28 hl (by decide) rfl (fun ls hl => ?_)
        refine lv_iload_n hx hb dX0_countedOff_30 rfl (lv_at hl 4 rfl) ?_
        refine lv_iload hx hb dX0_countedOff_31 (lv_at hl 0 rfl) ?_
        refine lv_icmp_ge (tgt := 39) hx hb dX0_countedOff_33 (by decide) (fun c_2 => ?_) (fun c_2 => ?_)
        · skip
          rw [if_pos c_2] at hres
          refine lv_iload_n hx hb dX0_countedOff_39 rfl (lv_at hl 4 rfl) ?_
          refine lv_iload hx hb dX0_countedOff_40 (lv_at hl 0 rfl) ?_
          refine lv_isub hx hb dX0_countedOff_42 ?_
          refine lv_istore_n (lv' := [(3, .int (acc - ((d_X5_bitOf able (nI i)) * (ea i)))), (5, .int ((d_X5_bitOf able (nI i)) * (ea i))), (0, .ref h), (1, .int able), (2, .int place), (4, .int (nI i))]) hx hb dX0_countedOff_43 rfl hl (by decide) rfl (fun ls hl => ?_)
          refine lv_iinc (v := nI (i + 1)) (lv' := [(4, .int (nI (i + 1))), (3, .int (acc - ((d_X5_bitOf able (nI i)) * (ea i)))), (5, .int ((d_X5_bitOf able (nI i)) * (ea i))), (0, .ref h), (1, .int able), (2, .int place)]) hx hb dX0_countedOff_44 hl (k := 5) rfl ((nI_add i 1)) (by decide) rfl (fun ls hl => ?_)
          refine lv_goto (tgt := 5) hx hb dX0_countedOff_47 (by decide) ?_
          exact ih5 (i + 1) (acc - ((d_X5_bitOf able (nI i)) * (ea i))) (by omega) (by omega) hres ls (lv_sub hl [3, 4, 5, 1, 0] rfl)
        · skip
          rw [if_neg c_2] at hres
          refine lv_iload hx hb dX0_countedOff_36 (lv_at hl 5 rfl) ?_
          rw [hres]
          exact W.iret (v := nI i) hx hb hr (fun t ht hW => ⟨rfl, ht⟩) (fun _ h => by cases h) dX0_countedOff_38
  exact loop5 (n + 1) 0 place (by omega) (Nat.zero_le _) hres ls (lv_sub hl [2, 3, 4, 1, 0] rfl)
def d_X0_coveredBy (tr : Nat → Int32) (u : Nat → Int32) (w : Int32) (n : Nat) : Int32 :=
  (d_X0_having tr w n) &&& ((u 3) ^^^ (-1 : Int32))
set_option maxHeartbeats 4000000 in
set_option maxRecDepth 100000 in
theorem c_X0_coveredBy (l : Launch) (D : va_G) (cI cC cZ cS : ClassId) (h : Nat) (tA : Nat) (dA : Nat) (eA : Nat) (sA : Nat) (hf : Nat → Int32) (tr : Nat → Int32) (de : Nat → Int32) (ea : Nat → Int32) (u : Nat → Int32) (w : Int32) (n : Nat) (hn : hf 3 = nI n) (h7 : n ≤ 7) : Met l yX0_coveredBy wsX0_coveredBy { frames := 1, cells := 0, slots := 0, locals := 23 } (PcE D cI cC cZ cS [.ref h, .int w, .ref sA] (wHS cI cC cZ cS h tA dA eA sA hf tr de ea u)) (QcR (some (.int (d_X0_coveredBy tr u w n)))) 0 0 (fun _ => False) := by
  refine Met.ofW (cc := cX0_coveredBy) (maxL := 3) (ret := (some .int)) (by decide) rfl ?_
  intro p e s m args below meth c s₁ B hml hv
  obtain ⟨rfl, hP, hD, hE⟩ := hv
  have hK := hE.1
  have hx := B.exec
  have hb := B.bytes
  have hr := B.returns
  have hts := atoms_spec (ws := wsX0_coveredBy) B.pre
  have hown : s.vm.findClass RX0 = some m.cls := findClass_of_methodNamed B.named
  have hlocks := B.notSynchronized
  have hinX3 : ∀ w ∈ wsX30, w ∈ wsX0_coveredBy := by decide +kernel
  generalize hres : d_X0_coveredBy tr u w n = R
  replace hres := hres.symm
  rw [d_X0_coveredBy] at hres
  have hl := lv_entry ([.ref h, .int w, .ref sA]) (n := 3) (Nat.le_of_ble_eq_true rfl)
  rw [lg_entry_eq]
  generalize (lg_sl ([.ref h, .int w, .ref sA]) ++ List.replicate (3 - (lg_sl ([.ref h, .int w, .ref sA])).length) Slot.unset).toArray = ls at hl ⊢
  have hl : lv_has ls 3 [(0, .ref h), (1, .int w), (2, .ref sA)] := hl
  refine lv_aload_n hx hb dX0_coveredBy_0 rfl (lv_at hl 0 rfl) ?_
  refine lv_iload_n hx hb dX0_coveredBy_1 rfl (lv_at hl 1 rfl) ?_
  have hPc := hP.sub (ws' := (wH cI cC cZ cS h tA dA eA hf tr de ea)) [0, 1, 2, 3] rfl
  have hDc := hD.sub (ws' := (wH cI cC cZ cS h tA dA eA hf tr de ea)) [0, 1, 2, 3] (by decide) rfl
  refine m_callR (W.runV (As := [.int w]) (rest := []) ⟨hx, hb, hml, hown, hts⟩ (c_X0_having l D cI cC cZ cS h tA dA eA hf tr de ea w n hn h7) (cwV 1 hts gX0_coveredBy_X0_having rfl rfl rfl (by decide +kernel) ⟨Nat.le_of_ble_eq_true rfl, Nat.le_of_ble_eq_true rfl⟩) (preV_of hPc hDc hE (va_recv hK hPc (ci := 0) (q0 := 0) rfl rfl)) rfl rfl hl.1 rfl (lv_room (Nat.le_of_ble_eq_true rfl)) dX0_coveredBy_2 ⟨Nat.zero_le _, Nat.zero_le _⟩) ?_
  refine W.eq (g2 := F0 m 5 ls [.int (d_X0_having tr w n)]) rfl ?_
  refine lv_aload_n hx hb dX0_coveredBy_5 rfl (lv_at hl 2 rfl) ?_
  refine va_get (D := D) (ci := 3) (v := .int (u 3)) (C := RX3) (T := TX3) (N := 5) hx hb hts hinX3 hown hK hP 4 rfl rfl 3 (by decide) (hts (.fieldLink RX0 51 "FirstOut$Standing" "given" "I") (by decide +kernel)) (fun _ h9 => h9) rfl dX0_coveredBy_6 ?_
  refine lv_iconst (v := (-1)) hx hb dX0_coveredBy_9 (by decide) ?_
  refine lv_ixor hx hb dX0_coveredBy_10 ?_
  refine lv_iand hx hb dX0_coveredBy_11 ?_
  rw [hres]
  exact W.iret (v := (d_X0_having tr w n) &&& ((u 3) ^^^ (-1 : Int32))) hx hb hr (fun t ht hW => ⟨rfl, ht⟩) (fun _ h => by cases h) dX0_coveredBy_12
def d_X0_ableBy (tr : Nat → Int32) (ea : Nat → Int32) (u : Nat → Int32) (w : Int32) (n : Nat) : Int32 :=
  (((d_X0_eagerOnes ea n) &&& ((u 3) ^^^ (-1 : Int32))) &&& ((u 2) ^^^ (-1 : Int32))) &&& (((u 1) &&& (d_X0_coveredBy tr u w n)) ^^^ (-1 : Int32))
set_option maxHeartbeats 4000000 in
set_option maxRecDepth 100000 in
theorem c_X0_ableBy (l : Launch) (D : va_G) (cI cC cZ cS : ClassId) (h : Nat) (tA : Nat) (dA : Nat) (eA : Nat) (sA : Nat) (hf : Nat → Int32) (tr : Nat → Int32) (de : Nat → Int32) (ea : Nat → Int32) (u : Nat → Int32) (w : Int32) (n : Nat) (hn : hf 3 = nI n) (h7 : n ≤ 7) : Met l yX0_ableBy wsX0_ableBy { frames := 2, cells := 0, slots := 0, locals := 45 } (PcE D cI cC cZ cS [.ref h, .int w, .ref sA] (wHS cI cC cZ cS h tA dA eA sA hf tr de ea u)) (QcR (some (.int (d_X0_ableBy tr ea u w n)))) 0 0 (fun _ => False) := by
  refine Met.ofW (cc := cX0_ableBy) (maxL := 4) (ret := (some .int)) (by decide) rfl ?_
  intro p e s m args below meth c s₁ B hml hv
  obtain ⟨rfl, hP, hD, hE⟩ := hv
  have hK := hE.1
  have hx := B.exec
  have hb := B.bytes
  have hr := B.returns
  have hts := atoms_spec (ws := wsX0_ableBy) B.pre
  have hown : s.vm.findClass RX0 = some m.cls := findClass_of_methodNamed B.named
  have hlocks := B.notSynchronized
  have hinX3 : ∀ w ∈ wsX30, w ∈ wsX0_ableBy := by decide +kernel
  generalize hres : d_X0_ableBy tr ea u w n = R
  replace hres := hres.symm
  rw [d_X0_ableBy] at hres
  have hl := lv_entry ([.ref h, .int w, .ref sA]) (n := 4) (Nat.le_of_ble_eq_true rfl)
  rw [lg_entry_eq]
  generalize (lg_sl ([.ref h, .int w, .ref sA]) ++ List.replicate (4 - (lg_sl ([.ref h, .int w, .ref sA])).length) Slot.unset).toArray = ls at hl ⊢
  have hl : lv_has ls 4 [(0, .ref h), (1, .int w), (2, .ref sA)] := hl
  refine lv_aload_n hx hb dX0_ableBy_0 rfl (lv_at hl 2 rfl) ?_
  refine va_get (D := D) (ci := 3) (v := .int (u 1)) (C := RX3) (T := TX3) (N := 5) hx hb hts hinX3 hown hK hP 4 rfl rfl 1 (by decide) (hts (.fieldLink RX0 56 "FirstOut$Standing" "knowing" "I") (by decide +kernel)) (fun _ h9 => h9) rfl dX0_ableBy_1 ?_
  refine lv_aload_n hx hb dX0_ableBy_4 rfl (lv_at hl 0 rfl) ?_
  refine lv_iload_n hx hb dX0_ableBy_5 rfl (lv_at hl 1 rfl) ?_
  refine lv_aload_n hx hb dX0_ableBy_6 rfl (lv_at hl 2 rfl) ?_
  have hPc := hP.sub (ws' := (wHS cI cC cZ cS h tA dA eA sA hf tr de ea u)) [0, 1, 2, 3, 4] rfl
  have hDc := hD.sub (ws' := (wHS cI cC cZ cS h tA dA eA sA hf tr de ea u)) [0, 1, 2, 3, 4] (by decide) rfl
  refine m_callR (W.runV (As := [.int w, .ref sA]) (rest := [.int (u 1)]) ⟨hx, hb, hml, hown, hts⟩ (c_X0_coveredBy l D cI cC cZ cS h tA dA eA sA hf tr de ea u w n hn h7) (cwV 2 hts gX0_ableBy_X0_coveredBy rfl rfl rfl (by decide +kernel) ⟨Nat.le_of_ble_eq_true rfl, Nat.le_of_ble_eq_true rfl⟩) (preV_of hPc hDc hE (va_recv hK hPc (ci := 0) (q0 := 0) rfl rfl)) rfl rfl hl.1 rfl (lv_room (Nat.le_of_ble_eq_true rfl)) dX0_ableBy_7 ⟨Nat.zero_le _, Nat.zero_le _⟩) ?_
  refine W.eq (g2 := F0 m 10 ls [.int (d_X0_coveredBy tr u w n), .int (u 1)]) rfl ?_
  refine lv_iand hx hb dX0_ableBy_10 ?_
  refine lv_istore_n (lv' := [(3, .int ((u 1) &&& (d_X0_coveredBy tr u w n))), (0, .ref h), (1, .int w), (2, .ref sA)]) hx hb dX0_ableBy_11 rfl hl (by decide) rfl (fun ls hl => ?_)
  refine lv_aload_n hx hb dX0_ableBy_12 rfl (lv_at hl 1 rfl) ?_
  have hPc := hP.sub (ws' := (wH cI cC cZ cS h tA dA eA hf tr de ea)) [0, 1, 2, 3] rfl
  have hDc := hD.sub (ws' := (wH cI cC cZ cS h tA dA eA hf tr de ea)) [0, 1, 2, 3] (by decide) rfl
  refine m_callR (W.runV (As := []) (rest := []) ⟨hx, hb, hml, hown, hts⟩ (c_X0_eagerOnes l D cI cC cZ cS h tA dA eA hf tr de ea n hn h7) (cwV 0 hts gX0_ableBy_X0_eagerOnes rfl rfl rfl (by decide +kernel) ⟨Nat.le_of_ble_eq_true rfl, Nat.le_of_ble_eq_true rfl⟩) (preV_of hPc hDc hE (va_recv hK hPc (ci := 0) (q0 := 0) rfl rfl)) rfl rfl hl.1 rfl (lv_room (Nat.le_of_ble_eq_true rfl)) dX0_ableBy_13 ⟨Nat.zero_le _, Nat.zero_le _⟩) ?_
  refine W.eq (g2 := F0 m 16 ls [.int (d_X0_eagerOnes ea n)]) rfl ?_
  refine lv_aload_n hx hb dX0_ableBy_16 rfl (lv_at hl 3 rfl) ?_
  refine va_get (D := D) (ci := 3) (v := .int (u 3)) (C := RX3) (T := TX3) (N := 5) hx hb hts hinX3 hown hK hP 4 rfl rfl 3 (by decide) (hts (.fieldLink RX0 51 "FirstOut$Standing" "given" "I") (by decide +kernel)) (fun _ h9 => h9) rfl dX0_ableBy_17 ?_
  refine lv_iconst (v := (-1)) hx hb dX0_ableBy_20 (by decide) ?_
  refine lv_ixor hx hb dX0_ableBy_21 ?_
  refine lv_iand hx hb dX0_ableBy_22 ?_
  refine lv_aload_n hx hb dX0_ableBy_23 rfl (lv_at hl 3 rfl) ?_
  refine va_get (D := D) (ci := 3) (v := .int (u 2)) (C := RX3) (T := TX3) (N := 5) hx hb hts hinX3 hown hK hP 4 rfl rfl 2 (by decide) (hts (.fieldLink RX0 65 "FirstOut$Standing" "kept" "I") (by decide +kernel)) (fun _ h9 => h9) rfl dX0_ableBy_24 ?_
  refine lv_iconst (v := (-1)) hx hb dX0_ableBy_27 (by decide) ?_
  refine lv_ixor hx hb dX0_ableBy_28 ?_
  refine lv_iand hx hb dX0_ableBy_29 ?_
  refine lv_iload_n hx hb dX0_ableBy_30 rfl (lv_at hl 0 rfl) ?_
  refine lv_iconst (v := (-1)) hx hb dX0_ableBy_31 (by decide) ?_
  refine lv_ixor hx hb dX0_ableBy_32 ?_
  refine lv_iand hx hb dX0_ableBy_33 ?_
  rw [hres]
  exact W.iret (v := (((d_X0_eagerOnes ea n) &&& ((u 3) ^^^ (-1 : Int32))) &&& ((u 2) ^^^ (-1 : Int32))) &&& (((u 1) &&& (d_X0_coveredBy tr u w n)) ^^^ (-1 : Int32))) hx hb hr (fun t ht hW => ⟨rfl, ht⟩) (fun _ h => by cases h) dX0_ableBy_34
end
section
theorem pos64 {x : Int32} (h : ¬ x ≤ 0) : ¬ x.toInt64 = 0 := by
  intro e
  apply h
  have h1 := congrArg Int64.toInt e
  rw [Int32.toInt_toInt64] at h1
  have h0 : (0 : Int64).toInt = 0 := rfl
  rw [Int32.le_iff_toInt_le, h1, h0]
  exact Int.le_refl 0

def d_J6_compare_7cf53 (x : Int32) (y : Int32) : Int32 :=
  if y ≤ x then
      if x = y then
        0
      else
        1
    else
      (-1)
set_option maxHeartbeats 4000000 in
set_option maxRecDepth 100000 in
theorem c_J6_compare_7cf53 (l : Launch) (D : va_G) (cI cC cZ cS : ClassId) (x : Int32) (y : Int32) : Met l yJ6_compare_7cf53 wsJ6_compare_7cf53 { frames := 0, cells := 0, slots := 0, locals := 0 } (PcE D cI cC cZ cS [.int x, .int y] []) (QcR (some (.int (d_J6_compare_7cf53 x y)))) 0 0 (fun _ => False) := by
  refine Met.ofW (cc := cJ6_compare_7cf53) (maxL := 2) (ret := (some .int)) (by decide) rfl ?_
  intro p e s m args below meth c s₁ B hml hv
  obtain ⟨rfl, hP, hD, hE⟩ := hv
  have hK := hE.1
  have hx := B.exec
  have hb := B.bytes
  have hr := B.returns
  have hts := atoms_spec (ws := wsJ6_compare_7cf53) B.pre
  have hown : s.vm.findClass RJ6 = some m.cls := findClass_of_methodNamed B.named
  have hlocks := B.notSynchronized
  generalize hres : d_J6_compare_7cf53 x y = R
  replace hres := hres.symm
  rw [d_J6_compare_7cf53] at hres
  have hl := lv_entry ([.int x, .int y]) (n := 2) (Nat.le_of_ble_eq_true rfl)
  rw [lg_entry_eq]
  generalize (lg_sl ([.int x, .int y]) ++ List.replicate (2 - (lg_sl ([.int x, .int y])).length) Slot.unset).toArray = ls at hl ⊢
  have hl : lv_has ls 2 [(0, .int x), (1, .int y)] := hl
  refine lv_iload_n hx hb dJ6_compare_7cf53_0 rfl (lv_at hl 0 rfl) ?_
  refine lv_iload_n hx hb dJ6_compare_7cf53_1 rfl (lv_at hl 1 rfl) ?_
  refine lv_icmp_ge (tgt := 9) hx hb dJ6_compare_7cf53_2 (by decide) (fun c_1 => ?_) (fun c_1 => ?_)
  · skip
    rw [if_pos c_1] at hres
    refine lv_iload_n hx hb dJ6_compare_7cf53_9 rfl (lv_at hl 0 rfl) ?_
    refine lv_iload_n hx hb dJ6_compare_7cf53_10 rfl (lv_at hl 1 rfl) ?_
    refine lv_icmp_ne (tgt := 18) hx hb dJ6_compare_7cf53_11 (by decide) (fun c_2 => ?_) (fun c_2 => ?_)
    · skip
      rw [if_neg c_2] at hres
      refine lv_iconst (v := 1) hx hb dJ6_compare_7cf53_18 (by decide) ?_
      rw [hres]
      exact W.iret (v := 1) hx hb hr (fun t ht hW => ⟨rfl, ht⟩) (fun _ h => by cases h) dJ6_compare_7cf53_19
    · skip
      rw [if_pos c_2] at hres
      refine lv_iconst (v := 0) hx hb dJ6_compare_7cf53_14 (by decide) ?_
      refine lv_goto (tgt := 19) hx hb dJ6_compare_7cf53_15 (by decide) ?_
      rw [hres]
      exact W.iret (v := 0) hx hb hr (fun t ht hW => ⟨rfl, ht⟩) (fun _ h => by cases h) dJ6_compare_7cf53_19
  · skip
    rw [if_neg c_1] at hres
    refine lv_iconst (v := (-1)) hx hb dJ6_compare_7cf53_5 (by decide) ?_
    refine lv_goto (tgt := 19) hx hb dJ6_compare_7cf53_6 (by decide) ?_
    rw [hres]
    exact W.iret (v := (-1)) hx hb hr (fun t ht hW => ⟨rfl, ht⟩) (fun _ h => by cases h) dJ6_compare_7cf53_19
def d_J6_bitCount_0f7a4 (x : Int32) : Int32 :=
  (((((((x - (((Int32.toUInt32 x >>> (Int32.toUInt32 (1 : Int32) &&& Int32.toUInt32 31)).toInt32) &&& (1431655765 : Int32))) &&& (858993459 : Int32)) + (((Int32.toUInt32 (x - (((Int32.toUInt32 x >>> (Int32.toUInt32 (1 : Int32) &&& Int32.toUInt32 31)).toInt32) &&& (1431655765 : Int32))) >>> (Int32.toUInt32 (2 : Int32) &&& Int32.toUInt32 31)).toInt32) &&& (858993459 : Int32))) + ((Int32.toUInt32 (((x - (((Int32.toUInt32 x >>> (Int32.toUInt32 (1 : Int32) &&& Int32.toUInt32 31)).toInt32) &&& (1431655765 : Int32))) &&& (858993459 : Int32)) + (((Int32.toUInt32 (x - (((Int32.toUInt32 x >>> (Int32.toUInt32 (1 : Int32) &&& Int32.toUInt32 31)).toInt32) &&& (1431655765 : Int32))) >>> (Int32.toUInt32 (2 : Int32) &&& Int32.toUInt32 31)).toInt32) &&& (858993459 : Int32))) >>> (Int32.toUInt32 (4 : Int32) &&& Int32.toUInt32 31)).toInt32)) &&& (252645135 : Int32)) + ((Int32.toUInt32 (((((x - (((Int32.toUInt32 x >>> (Int32.toUInt32 (1 : Int32) &&& Int32.toUInt32 31)).toInt32) &&& (1431655765 : Int32))) &&& (858993459 : Int32)) + (((Int32.toUInt32 (x - (((Int32.toUInt32 x >>> (Int32.toUInt32 (1 : Int32) &&& Int32.toUInt32 31)).toInt32) &&& (1431655765 : Int32))) >>> (Int32.toUInt32 (2 : Int32) &&& Int32.toUInt32 31)).toInt32) &&& (858993459 : Int32))) + ((Int32.toUInt32 (((x - (((Int32.toUInt32 x >>> (Int32.toUInt32 (1 : Int32) &&& Int32.toUInt32 31)).toInt32) &&& (1431655765 : Int32))) &&& (858993459 : Int32)) + (((Int32.toUInt32 (x - (((Int32.toUInt32 x >>> (Int32.toUInt32 (1 : Int32) &&& Int32.toUInt32 31)).toInt32) &&& (1431655765 : Int32))) >>> (Int32.toUInt32 (2 : Int32) &&& Int32.toUInt32 31)).toInt32) &&& (858993459 : Int32))) >>> (Int32.toUInt32 (4 : Int32) &&& Int32.toUInt32 31)).toInt32)) &&& (252645135 : Int32)) >>> (Int32.toUInt32 (8 : Int32) &&& Int32.toUInt32 31)).toInt32)) + ((Int32.toUInt32 ((((((x - (((Int32.toUInt32 x >>> (Int32.toUInt32 (1 : Int32) &&& Int32.toUInt32 31)).toInt32) &&& (1431655765 : Int32))) &&& (858993459 : Int32)) + (((Int32.toUInt32 (x - (((Int32.toUInt32 x >>> (Int32.toUInt32 (1 : Int32) &&& Int32.toUInt32 31)).toInt32) &&& (1431655765 : Int32))) >>> (Int32.toUInt32 (2 : Int32) &&& Int32.toUInt32 31)).toInt32) &&& (858993459 : Int32))) + ((Int32.toUInt32 (((x - (((Int32.toUInt32 x >>> (Int32.toUInt32 (1 : Int32) &&& Int32.toUInt32 31)).toInt32) &&& (1431655765 : Int32))) &&& (858993459 : Int32)) + (((Int32.toUInt32 (x - (((Int32.toUInt32 x >>> (Int32.toUInt32 (1 : Int32) &&& Int32.toUInt32 31)).toInt32) &&& (1431655765 : Int32))) >>> (Int32.toUInt32 (2 : Int32) &&& Int32.toUInt32 31)).toInt32) &&& (858993459 : Int32))) >>> (Int32.toUInt32 (4 : Int32) &&& Int32.toUInt32 31)).toInt32)) &&& (252645135 : Int32)) + ((Int32.toUInt32 (((((x - (((Int32.toUInt32 x >>> (Int32.toUInt32 (1 : Int32) &&& Int32.toUInt32 31)).toInt32) &&& (1431655765 : Int32))) &&& (858993459 : Int32)) + (((Int32.toUInt32 (x - (((Int32.toUInt32 x >>> (Int32.toUInt32 (1 : Int32) &&& Int32.toUInt32 31)).toInt32) &&& (1431655765 : Int32))) >>> (Int32.toUInt32 (2 : Int32) &&& Int32.toUInt32 31)).toInt32) &&& (858993459 : Int32))) + ((Int32.toUInt32 (((x - (((Int32.toUInt32 x >>> (Int32.toUInt32 (1 : Int32) &&& Int32.toUInt32 31)).toInt32) &&& (1431655765 : Int32))) &&& (858993459 : Int32)) + (((Int32.toUInt32 (x - (((Int32.toUInt32 x >>> (Int32.toUInt32 (1 : Int32) &&& Int32.toUInt32 31)).toInt32) &&& (1431655765 : Int32))) >>> (Int32.toUInt32 (2 : Int32) &&& Int32.toUInt32 31)).toInt32) &&& (858993459 : Int32))) >>> (Int32.toUInt32 (4 : Int32) &&& Int32.toUInt32 31)).toInt32)) &&& (252645135 : Int32)) >>> (Int32.toUInt32 (8 : Int32) &&& Int32.toUInt32 31)).toInt32)) >>> (Int32.toUInt32 (16 : Int32) &&& Int32.toUInt32 31)).toInt32)) &&& (63 : Int32)
set_option maxHeartbeats 4000000 in
set_option maxRecDepth 100000 in
theorem c_J6_bitCount_0f7a4 (l : Launch) (D : va_G) (cI cC cZ cS : ClassId) (x : Int32) : Met l yJ6_bitCount_0f7a4 wsJ6_bitCount_0f7a4 { frames := 0, cells := 0, slots := 0, locals := 0 } (PcE D cI cC cZ cS [.int x] []) (QcR (some (.int (d_J6_bitCount_0f7a4 x)))) 0 0 (fun _ => False) := by
  refine Met.ofW (cc := cJ6_bitCount_0f7a4) (maxL := 1) (ret := (some .int)) (by decide) rfl ?_
  intro p e s m args below meth c s₁ B hml hv
  obtain ⟨rfl, hP, hD, hE⟩ := hv
  have hK := hE.1
  have hx := B.exec
  have hb := B.bytes
  have hr := B.returns
  have hts := atoms_spec (ws := wsJ6_bitCount_0f7a4) B.pre
  have hown : s.vm.findClass RJ6 = some m.cls := findClass_of_methodNamed B.named
  have hlocks := B.notSynchronized
  generalize hres : d_J6_bitCount_0f7a4 x = R
  replace hres := hres.symm
  rw [d_J6_bitCount_0f7a4] at hres
  have hl := lv_entry ([.int x]) (n := 1) (Nat.le_of_ble_eq_true rfl)
  rw [lg_entry_eq]
  generalize (lg_sl ([.int x]) ++ List.replicate (1 - (lg_sl ([.int x])).length) Slot.unset).toArray = ls at hl ⊢
  have hl : lv_has ls 1 [(0, .int x)] := hl
  refine lv_iload_n hx hb dJ6_bitCount_0f7a4_0 rfl (lv_at hl 0 rfl) ?_
  refine lv_iload_n hx hb dJ6_bitCount_0f7a4_1 rfl (lv_at hl 0 rfl) ?_
  refine lv_iconst (v := 1) hx hb dJ6_bitCount_0f7a4_2 (by decide) ?_
  refine lv_iushr (v := (Int32.toUInt32 x >>> (Int32.toUInt32 (1 : Int32) &&& Int32.toUInt32 31)).toInt32) hx hb dJ6_bitCount_0f7a4_3 rfl ?_
  refine lv_ldcw hx hb hown (hts (.constant RJ6 265 (1431655765)) (by decide +kernel)) dJ6_bitCount_0f7a4_4 ?_
  refine lv_iand hx hb dJ6_bitCount_0f7a4_7 ?_
  refine lv_isub hx hb dJ6_bitCount_0f7a4_8 ?_
  refine lv_istore_n (lv' := [(0, .int (x - (((Int32.toUInt32 x >>> (Int32.toUInt32 (1 : Int32) &&& Int32.toUInt32 31)).toInt32) &&& (1431655765 : Int32))))]) hx hb dJ6_bitCount_0f7a4_9 rfl hl (by decide) rfl (fun ls hl => ?_)
  refine lv_iload_n hx hb dJ6_bitCount_0f7a4_10 rfl (lv_at hl 0 rfl) ?_
  refine lv_ldcw hx hb hown (hts (.constant RJ6 266 (858993459)) (by decide +kernel)) dJ6_bitCount_0f7a4_11 ?_
  refine lv_iand hx hb dJ6_bitCount_0f7a4_14 ?_
  refine lv_iload_n hx hb dJ6_bitCount_0f7a4_15 rfl (lv_at hl 0 rfl) ?_
  refine lv_iconst (v := 2) hx hb dJ6_bitCount_0f7a4_16 (by decide) ?_
  refine lv_iushr (v := (Int32.toUInt32 (x - (((Int32.toUInt32 x >>> (Int32.toUInt32 (1 : Int32) &&& Int32.toUInt32 31)).toInt32) &&& (1431655765 : Int32))) >>> (Int32.toUInt32 (2 : Int32) &&& Int32.toUInt32 31)).toInt32) hx hb dJ6_bitCount_0f7a4_17 rfl ?_
  refine lv_ldcw hx hb hown (hts (.constant RJ6 266 (858993459)) (by decide +kernel)) dJ6_bitCount_0f7a4_18 ?_
  refine lv_iand hx hb dJ6_bitCount_0f7a4_21 ?_
  refine lv_iadd hx hb dJ6_bitCount_0f7a4_22 ?_
  refine lv_istore_n (lv' := [(0, .int (((x - (((Int32.toUInt32 x >>> (Int32.toUInt32 (1 : Int32) &&& Int32.toUInt32 31)).toInt32) &&& (1431655765 : Int32))) &&& (858993459 : Int32)) + (((Int32.toUInt32 (x - (((Int32.toUInt32 x >>> (Int32.toUInt32 (1 : Int32) &&& Int32.toUInt32 31)).toInt32) &&& (1431655765 : Int32))) >>> (Int32.toUInt32 (2 : Int32) &&& Int32.toUInt32 31)).toInt32) &&& (858993459 : Int32))))]) hx hb dJ6_bitCount_0f7a4_23 rfl hl (by decide) rfl (fun ls hl => ?_)
  refine lv_iload_n hx hb dJ6_bitCount_0f7a4_24 rfl (lv_at hl 0 rfl) ?_
  refine lv_iload_n hx hb dJ6_bitCount_0f7a4_25 rfl (lv_at hl 0 rfl) ?_
  refine lv_iconst (v := 4) hx hb dJ6_bitCount_0f7a4_26 (by decide) ?_
  refine lv_iushr (v := (Int32.toUInt32 (((x - (((Int32.toUInt32 x >>> (Int32.toUInt32 (1 : Int32) &&& Int32.toUInt32 31)).toInt32) &&& (1431655765 : Int32))) &&& (858993459 : Int32)) + (((Int32.toUInt32 (x - (((Int32.toUInt32 x >>> (Int32.toUInt32 (1 : Int32) &&& Int32.toUInt32 31)).toInt32) &&& (1431655765 : Int32))) >>> (Int32.toUInt32 (2 : Int32) &&& Int32.toUInt32 31)).toInt32) &&& (858993459 : Int32))) >>> (Int32.toUInt32 (4 : Int32) &&& Int32.toUInt32 31)).toInt32) hx hb dJ6_bitCount_0f7a4_27 rfl ?_
  refine lv_iadd hx hb dJ6_bitCount_0f7a4_28 ?_
  refine lv_ldcw hx hb hown (hts (.constant RJ6 267 (252645135)) (by decide +kernel)) dJ6_bitCount_0f7a4_29 ?_
  refine lv_iand hx hb dJ6_bitCount_0f7a4_32 ?_
  refine lv_istore_n (lv' := [(0, .int (((((x - (((Int32.toUInt32 x >>> (Int32.toUInt32 (1 : Int32) &&& Int32.toUInt32 31)).toInt32) &&& (1431655765 : Int32))) &&& (858993459 : Int32)) + (((Int32.toUInt32 (x - (((Int32.toUInt32 x >>> (Int32.toUInt32 (1 : Int32) &&& Int32.toUInt32 31)).toInt32) &&& (1431655765 : Int32))) >>> (Int32.toUInt32 (2 : Int32) &&& Int32.toUInt32 31)).toInt32) &&& (858993459 : Int32))) + ((Int32.toUInt32 (((x - (((Int32.toUInt32 x >>> (Int32.toUInt32 (1 : Int32) &&& Int32.toUInt32 31)).toInt32) &&& (1431655765 : Int32))) &&& (858993459 : Int32)) + (((Int32.toUInt32 (x - (((Int32.toUInt32 x >>> (Int32.toUInt32 (1 : Int32) &&& Int32.toUInt32 31)).toInt32) &&& (1431655765 : Int32))) >>> (Int32.toUInt32 (2 : Int32) &&& Int32.toUInt32 31)).toInt32) &&& (858993459 : Int32))) >>> (Int32.toUInt32 (4 : Int32) &&& Int32.toUInt32 31)).toInt32)) &&& (252645135 : Int32)))]) hx hb dJ6_bitCount_0f7a4_33 rfl hl (by decide) rfl (fun ls hl => ?_)
  refine lv_iload_n hx hb dJ6_bitCount_0f7a4_34 rfl (lv_at hl 0 rfl) ?_
  refine lv_iload_n hx hb dJ6_bitCount_0f7a4_35 rfl (lv_at hl 0 rfl) ?_
  refine lv_bipush (v := 8) hx hb dJ6_bitCount_0f7a4_36 (by decide) ?_
  refine lv_iushr (v := (Int32.toUInt32 (((((x - (((Int32.toUInt32 x >>> (Int32.toUInt32 (1 : Int32) &&& Int32.toUInt32 31)).toInt32) &&& (1431655765 : Int32))) &&& (858993459 : Int32)) + (((Int32.toUInt32 (x - (((Int32.toUInt32 x >>> (Int32.toUInt32 (1 : Int32) &&& Int32.toUInt32 31)).toInt32) &&& (1431655765 : Int32))) >>> (Int32.toUInt32 (2 : Int32) &&& Int32.toUInt32 31)).toInt32) &&& (858993459 : Int32))) + ((Int32.toUInt32 (((x - (((Int32.toUInt32 x >>> (Int32.toUInt32 (1 : Int32) &&& Int32.toUInt32 31)).toInt32) &&& (1431655765 : Int32))) &&& (858993459 : Int32)) + (((Int32.toUInt32 (x - (((Int32.toUInt32 x >>> (Int32.toUInt32 (1 : Int32) &&& Int32.toUInt32 31)).toInt32) &&& (1431655765 : Int32))) >>> (Int32.toUInt32 (2 : Int32) &&& Int32.toUInt32 31)).toInt32) &&& (858993459 : Int32))) >>> (Int32.toUInt32 (4 : Int32) &&& Int32.toUInt32 31)).toInt32)) &&& (252645135 : Int32)) >>> (Int32.toUInt32 (8 : Int32) &&& Int32.toUInt32 31)).toInt32) hx hb dJ6_bitCount_0f7a4_38 rfl ?_
  refine lv_iadd hx hb dJ6_bitCount_0f7a4_39 ?_
  refine lv_istore_n (lv' := [(0, .int ((((((x - (((Int32.toUInt32 x >>> (Int32.toUInt32 (1 : Int32) &&& Int32.toUInt32 31)).toInt32) &&& (1431655765 : Int32))) &&& (858993459 : Int32)) + (((Int32.toUInt32 (x - (((Int32.toUInt32 x >>> (Int32.toUInt32 (1 : Int32) &&& Int32.toUInt32 31)).toInt32) &&& (1431655765 : Int32))) >>> (Int32.toUInt32 (2 : Int32) &&& Int32.toUInt32 31)).toInt32) &&& (858993459 : Int32))) + ((Int32.toUInt32 (((x - (((Int32.toUInt32 x >>> (Int32.toUInt32 (1 : Int32) &&& Int32.toUInt32 31)).toInt32) &&& (1431655765 : Int32))) &&& (858993459 : Int32)) + (((Int32.toUInt32 (x - (((Int32.toUInt32 x >>> (Int32.toUInt32 (1 : Int32) &&& Int32.toUInt32 31)).toInt32) &&& (1431655765 : Int32))) >>> (Int32.toUInt32 (2 : Int32) &&& Int32.toUInt32 31)).toInt32) &&& (858993459 : Int32))) >>> (Int32.toUInt32 (4 : Int32) &&& Int32.toUInt32 31)).toInt32)) &&& (252645135 : Int32)) + ((Int32.toUInt32 (((((x - (((Int32.toUInt32 x >>> (Int32.toUInt32 (1 : Int32) &&& Int32.toUInt32 31)).toInt32) &&& (1431655765 : Int32))) &&& (858993459 : Int32)) + (((Int32.toUInt32 (x - (((Int32.toUInt32 x >>> (Int32.toUInt32 (1 : Int32) &&& Int32.toUInt32 31)).toInt32) &&& (1431655765 : Int32))) >>> (Int32.toUInt32 (2 : Int32) &&& Int32.toUInt32 31)).toInt32) &&& (858993459 : Int32))) + ((Int32.toUInt32 (((x - (((Int32.toUInt32 x >>> (Int32.toUInt32 (1 : Int32) &&& Int32.toUInt32 31)).toInt32) &&& (1431655765 : Int32))) &&& (858993459 : Int32)) + (((Int32.toUInt32 (x - (((Int32.toUInt32 x >>> (Int32.toUInt32 (1 : Int32) &&& Int32.toUInt32 31)).toInt32) &&& (1431655765 : Int32))) >>> (Int32.toUInt32 (2 : Int32) &&& Int32.toUInt32 31)).toInt32) &&& (858993459 : Int32))) >>> (Int32.toUInt32 (4 : Int32) &&& Int32.toUInt32 31)).toInt32)) &&& (252645135 : Int32)) >>> (Int32.toUInt32 (8 : Int32) &&& Int32.toUInt32 31)).toInt32)))]) hx hb dJ6_bitCount_0f7a4_40 rfl hl (by decide) rfl (fun ls hl => ?_)
  refine lv_iload_n hx hb dJ6_bitCount_0f7a4_41 rfl (lv_at hl 0 rfl) ?_
  refine lv_iload_n hx hb dJ6_bitCount_0f7a4_42 rfl (lv_at hl 0 rfl) ?_
  refine lv_bipush (v := 16) hx hb dJ6_bitCount_0f7a4_43 (by decide) ?_
  refine lv_iushr (v := (Int32.toUInt32 ((((((x - (((Int32.toUInt32 x >>> (Int32.toUInt32 (1 : Int32) &&& Int32.toUInt32 31)).toInt32) &&& (1431655765 : Int32))) &&& (858993459 : Int32)) + (((Int32.toUInt32 (x - (((Int32.toUInt32 x >>> (Int32.toUInt32 (1 : Int32) &&& Int32.toUInt32 31)).toInt32) &&& (1431655765 : Int32))) >>> (Int32.toUInt32 (2 : Int32) &&& Int32.toUInt32 31)).toInt32) &&& (858993459 : Int32))) + ((Int32.toUInt32 (((x - (((Int32.toUInt32 x >>> (Int32.toUInt32 (1 : Int32) &&& Int32.toUInt32 31)).toInt32) &&& (1431655765 : Int32))) &&& (858993459 : Int32)) + (((Int32.toUInt32 (x - (((Int32.toUInt32 x >>> (Int32.toUInt32 (1 : Int32) &&& Int32.toUInt32 31)).toInt32) &&& (1431655765 : Int32))) >>> (Int32.toUInt32 (2 : Int32) &&& Int32.toUInt32 31)).toInt32) &&& (858993459 : Int32))) >>> (Int32.toUInt32 (4 : Int32) &&& Int32.toUInt32 31)).toInt32)) &&& (252645135 : Int32)) + ((Int32.toUInt32 (((((x - (((Int32.toUInt32 x >>> (Int32.toUInt32 (1 : Int32) &&& Int32.toUInt32 31)).toInt32) &&& (1431655765 : Int32))) &&& (858993459 : Int32)) + (((Int32.toUInt32 (x - (((Int32.toUInt32 x >>> (Int32.toUInt32 (1 : Int32) &&& Int32.toUInt32 31)).toInt32) &&& (1431655765 : Int32))) >>> (Int32.toUInt32 (2 : Int32) &&& Int32.toUInt32 31)).toInt32) &&& (858993459 : Int32))) + ((Int32.toUInt32 (((x - (((Int32.toUInt32 x >>> (Int32.toUInt32 (1 : Int32) &&& Int32.toUInt32 31)).toInt32) &&& (1431655765 : Int32))) &&& (858993459 : Int32)) + (((Int32.toUInt32 (x - (((Int32.toUInt32 x >>> (Int32.toUInt32 (1 : Int32) &&& Int32.toUInt32 31)).toInt32) &&& (1431655765 : Int32))) >>> (Int32.toUInt32 (2 : Int32) &&& Int32.toUInt32 31)).toInt32) &&& (858993459 : Int32))) >>> (Int32.toUInt32 (4 : Int32) &&& Int32.toUInt32 31)).toInt32)) &&& (252645135 : Int32)) >>> (Int32.toUInt32 (8 : Int32) &&& Int32.toUInt32 31)).toInt32)) >>> (Int32.toUInt32 (16 : Int32) &&& Int32.toUInt32 31)).toInt32) hx hb dJ6_bitCount_0f7a4_45 rfl ?_
  refine lv_iadd hx hb dJ6_bitCount_0f7a4_46 ?_
  refine lv_istore_n (lv' := [(0, .int (((((((x - (((Int32.toUInt32 x >>> (Int32.toUInt32 (1 : Int32) &&& Int32.toUInt32 31)).toInt32) &&& (1431655765 : Int32))) &&& (858993459 : Int32)) + (((Int32.toUInt32 (x - (((Int32.toUInt32 x >>> (Int32.toUInt32 (1 : Int32) &&& Int32.toUInt32 31)).toInt32) &&& (1431655765 : Int32))) >>> (Int32.toUInt32 (2 : Int32) &&& Int32.toUInt32 31)).toInt32) &&& (858993459 : Int32))) + ((Int32.toUInt32 (((x - (((Int32.toUInt32 x >>> (Int32.toUInt32 (1 : Int32) &&& Int32.toUInt32 31)).toInt32) &&& (1431655765 : Int32))) &&& (858993459 : Int32)) + (((Int32.toUInt32 (x - (((Int32.toUInt32 x >>> (Int32.toUInt32 (1 : Int32) &&& Int32.toUInt32 31)).toInt32) &&& (1431655765 : Int32))) >>> (Int32.toUInt32 (2 : Int32) &&& Int32.toUInt32 31)).toInt32) &&& (858993459 : Int32))) >>> (Int32.toUInt32 (4 : Int32) &&& Int32.toUInt32 31)).toInt32)) &&& (252645135 : Int32)) + ((Int32.toUInt32 (((((x - (((Int32.toUInt32 x >>> (Int32.toUInt32 (1 : Int32) &&& Int32.toUInt32 31)).toInt32) &&& (1431655765 : Int32))) &&& (858993459 : Int32)) + (((Int32.toUInt32 (x - (((Int32.toUInt32 x >>> (Int32.toUInt32 (1 : Int32) &&& Int32.toUInt32 31)).toInt32) &&& (1431655765 : Int32))) >>> (Int32.toUInt32 (2 : Int32) &&& Int32.toUInt32 31)).toInt32) &&& (858993459 : Int32))) + ((Int32.toUInt32 (((x - (((Int32.toUInt32 x >>> (Int32.toUInt32 (1 : Int32) &&& Int32.toUInt32 31)).toInt32) &&& (1431655765 : Int32))) &&& (858993459 : Int32)) + (((Int32.toUInt32 (x - (((Int32.toUInt32 x >>> (Int32.toUInt32 (1 : Int32) &&& Int32.toUInt32 31)).toInt32) &&& (1431655765 : Int32))) >>> (Int32.toUInt32 (2 : Int32) &&& Int32.toUInt32 31)).toInt32) &&& (858993459 : Int32))) >>> (Int32.toUInt32 (4 : Int32) &&& Int32.toUInt32 31)).toInt32)) &&& (252645135 : Int32)) >>> (Int32.toUInt32 (8 : Int32) &&& Int32.toUInt32 31)).toInt32)) + ((Int32.toUInt32 ((((((x - (((Int32.toUInt32 x >>> (Int32.toUInt32 (1 : Int32) &&& Int32.toUInt32 31)).toInt32) &&& (1431655765 : Int32))) &&& (858993459 : Int32)) + (((Int32.toUInt32 (x - (((Int32.toUInt32 x >>> (Int32.toUInt32 (1 : Int32) &&& Int32.toUInt32 31)).toInt32) &&& (1431655765 : Int32))) >>> (Int32.toUInt32 (2 : Int32) &&& Int32.toUInt32 31)).toInt32) &&& (858993459 : Int32))) + ((Int32.toUInt32 (((x - (((Int32.toUInt32 x >>> (Int32.toUInt32 (1 : Int32) &&& Int32.toUInt32 31)).toInt32) &&& (1431655765 : Int32))) &&& (858993459 : Int32)) + (((Int32.toUInt32 (x - (((Int32.toUInt32 x >>> (Int32.toUInt32 (1 : Int32) &&& Int32.toUInt32 31)).toInt32) &&& (1431655765 : Int32))) >>> (Int32.toUInt32 (2 : Int32) &&& Int32.toUInt32 31)).toInt32) &&& (858993459 : Int32))) >>> (Int32.toUInt32 (4 : Int32) &&& Int32.toUInt32 31)).toInt32)) &&& (252645135 : Int32)) + ((Int32.toUInt32 (((((x - (((Int32.toUInt32 x >>> (Int32.toUInt32 (1 : Int32) &&& Int32.toUInt32 31)).toInt32) &&& (1431655765 : Int32))) &&& (858993459 : Int32)) + (((Int32.toUInt32 (x - (((Int32.toUInt32 x >>> (Int32.toUInt32 (1 : Int32) &&& Int32.toUInt32 31)).toInt32) &&& (1431655765 : Int32))) >>> (Int32.toUInt32 (2 : Int32) &&& Int32.toUInt32 31)).toInt32) &&& (858993459 : Int32))) + ((Int32.toUInt32 (((x - (((Int32.toUInt32 x >>> (Int32.toUInt32 (1 : Int32) &&& Int32.toUInt32 31)).toInt32) &&& (1431655765 : Int32))) &&& (858993459 : Int32)) + (((Int32.toUInt32 (x - (((Int32.toUInt32 x >>> (Int32.toUInt32 (1 : Int32) &&& Int32.toUInt32 31)).toInt32) &&& (1431655765 : Int32))) >>> (Int32.toUInt32 (2 : Int32) &&& Int32.toUInt32 31)).toInt32) &&& (858993459 : Int32))) >>> (Int32.toUInt32 (4 : Int32) &&& Int32.toUInt32 31)).toInt32)) &&& (252645135 : Int32)) >>> (Int32.toUInt32 (8 : Int32) &&& Int32.toUInt32 31)).toInt32)) >>> (Int32.toUInt32 (16 : Int32) &&& Int32.toUInt32 31)).toInt32)))]) hx hb dJ6_bitCount_0f7a4_47 rfl hl (by decide) rfl (fun ls hl => ?_)
  refine lv_iload_n hx hb dJ6_bitCount_0f7a4_48 rfl (lv_at hl 0 rfl) ?_
  refine lv_bipush (v := 63) hx hb dJ6_bitCount_0f7a4_49 (by decide) ?_
  refine lv_iand hx hb dJ6_bitCount_0f7a4_51 ?_
  rw [hres]
  exact W.iret (v := (((((((x - (((Int32.toUInt32 x >>> (Int32.toUInt32 (1 : Int32) &&& Int32.toUInt32 31)).toInt32) &&& (1431655765 : Int32))) &&& (858993459 : Int32)) + (((Int32.toUInt32 (x - (((Int32.toUInt32 x >>> (Int32.toUInt32 (1 : Int32) &&& Int32.toUInt32 31)).toInt32) &&& (1431655765 : Int32))) >>> (Int32.toUInt32 (2 : Int32) &&& Int32.toUInt32 31)).toInt32) &&& (858993459 : Int32))) + ((Int32.toUInt32 (((x - (((Int32.toUInt32 x >>> (Int32.toUInt32 (1 : Int32) &&& Int32.toUInt32 31)).toInt32) &&& (1431655765 : Int32))) &&& (858993459 : Int32)) + (((Int32.toUInt32 (x - (((Int32.toUInt32 x >>> (Int32.toUInt32 (1 : Int32) &&& Int32.toUInt32 31)).toInt32) &&& (1431655765 : Int32))) >>> (Int32.toUInt32 (2 : Int32) &&& Int32.toUInt32 31)).toInt32) &&& (858993459 : Int32))) >>> (Int32.toUInt32 (4 : Int32) &&& Int32.toUInt32 31)).toInt32)) &&& (252645135 : Int32)) + ((Int32.toUInt32 (((((x - (((Int32.toUInt32 x >>> (Int32.toUInt32 (1 : Int32) &&& Int32.toUInt32 31)).toInt32) &&& (1431655765 : Int32))) &&& (858993459 : Int32)) + (((Int32.toUInt32 (x - (((Int32.toUInt32 x >>> (Int32.toUInt32 (1 : Int32) &&& Int32.toUInt32 31)).toInt32) &&& (1431655765 : Int32))) >>> (Int32.toUInt32 (2 : Int32) &&& Int32.toUInt32 31)).toInt32) &&& (858993459 : Int32))) + ((Int32.toUInt32 (((x - (((Int32.toUInt32 x >>> (Int32.toUInt32 (1 : Int32) &&& Int32.toUInt32 31)).toInt32) &&& (1431655765 : Int32))) &&& (858993459 : Int32)) + (((Int32.toUInt32 (x - (((Int32.toUInt32 x >>> (Int32.toUInt32 (1 : Int32) &&& Int32.toUInt32 31)).toInt32) &&& (1431655765 : Int32))) >>> (Int32.toUInt32 (2 : Int32) &&& Int32.toUInt32 31)).toInt32) &&& (858993459 : Int32))) >>> (Int32.toUInt32 (4 : Int32) &&& Int32.toUInt32 31)).toInt32)) &&& (252645135 : Int32)) >>> (Int32.toUInt32 (8 : Int32) &&& Int32.toUInt32 31)).toInt32)) + ((Int32.toUInt32 ((((((x - (((Int32.toUInt32 x >>> (Int32.toUInt32 (1 : Int32) &&& Int32.toUInt32 31)).toInt32) &&& (1431655765 : Int32))) &&& (858993459 : Int32)) + (((Int32.toUInt32 (x - (((Int32.toUInt32 x >>> (Int32.toUInt32 (1 : Int32) &&& Int32.toUInt32 31)).toInt32) &&& (1431655765 : Int32))) >>> (Int32.toUInt32 (2 : Int32) &&& Int32.toUInt32 31)).toInt32) &&& (858993459 : Int32))) + ((Int32.toUInt32 (((x - (((Int32.toUInt32 x >>> (Int32.toUInt32 (1 : Int32) &&& Int32.toUInt32 31)).toInt32) &&& (1431655765 : Int32))) &&& (858993459 : Int32)) + (((Int32.toUInt32 (x - (((Int32.toUInt32 x >>> (Int32.toUInt32 (1 : Int32) &&& Int32.toUInt32 31)).toInt32) &&& (1431655765 : Int32))) >>> (Int32.toUInt32 (2 : Int32) &&& Int32.toUInt32 31)).toInt32) &&& (858993459 : Int32))) >>> (Int32.toUInt32 (4 : Int32) &&& Int32.toUInt32 31)).toInt32)) &&& (252645135 : Int32)) + ((Int32.toUInt32 (((((x - (((Int32.toUInt32 x >>> (Int32.toUInt32 (1 : Int32) &&& Int32.toUInt32 31)).toInt32) &&& (1431655765 : Int32))) &&& (858993459 : Int32)) + (((Int32.toUInt32 (x - (((Int32.toUInt32 x >>> (Int32.toUInt32 (1 : Int32) &&& Int32.toUInt32 31)).toInt32) &&& (1431655765 : Int32))) >>> (Int32.toUInt32 (2 : Int32) &&& Int32.toUInt32 31)).toInt32) &&& (858993459 : Int32))) + ((Int32.toUInt32 (((x - (((Int32.toUInt32 x >>> (Int32.toUInt32 (1 : Int32) &&& Int32.toUInt32 31)).toInt32) &&& (1431655765 : Int32))) &&& (858993459 : Int32)) + (((Int32.toUInt32 (x - (((Int32.toUInt32 x >>> (Int32.toUInt32 (1 : Int32) &&& Int32.toUInt32 31)).toInt32) &&& (1431655765 : Int32))) >>> (Int32.toUInt32 (2 : Int32) &&& Int32.toUInt32 31)).toInt32) &&& (858993459 : Int32))) >>> (Int32.toUInt32 (4 : Int32) &&& Int32.toUInt32 31)).toInt32)) &&& (252645135 : Int32)) >>> (Int32.toUInt32 (8 : Int32) &&& Int32.toUInt32 31)).toInt32)) >>> (Int32.toUInt32 (16 : Int32) &&& Int32.toUInt32 31)).toInt32)) &&& (63 : Int32)) hx hb hr (fun t ht hW => ⟨rfl, ht⟩) (fun _ h => by cases h) dJ6_bitCount_0f7a4_52
def lp_X5_commonDivisor_7 (x : Int32) (y : Int32) : Nat → Nat → Int32 → Int32 → Int32
  | 0, _, _, _ => 0
  | k7 + 1, i, la, sm => if (50 : Int32) ≤ (nI i) then
      la
    else
      if sm = 0 then
        la
      else
        lp_X5_commonDivisor_7 x y k7 (i + 1) sm (la - la / sm * sm)
def d_X5_commonDivisor (x : Int32) (y : Int32) : Int32 :=
  lp_X5_commonDivisor_7 x y 51 0 x y
set_option maxHeartbeats 4000000 in
set_option maxRecDepth 100000 in
theorem c_X5_commonDivisor (l : Launch) (D : va_G) (cI cC cZ cS : ClassId) (x : Int32) (y : Int32) : Met l yX5_commonDivisor wsX5_commonDivisor { frames := 0, cells := 0, slots := 0, locals := 0 } (PcE D cI cC cZ cS [.int x, .int y] []) (QcR (some (.int (d_X5_commonDivisor x y)))) 0 0 (fun _ => False) := by
  refine Met.ofW (cc := cX5_commonDivisor) (maxL := 6) (ret := (some .int)) (by decide) rfl ?_
  intro p e s m args below meth c s₁ B hml hv
  obtain ⟨rfl, hP, hD, hE⟩ := hv
  have hK := hE.1
  have hx := B.exec
  have hb := B.bytes
  have hr := B.returns
  have hts := atoms_spec (ws := wsX5_commonDivisor) B.pre
  have hown : s.vm.findClass RX5 = some m.cls := findClass_of_methodNamed B.named
  have hlocks := B.notSynchronized
  generalize hres : d_X5_commonDivisor x y = R
  replace hres := hres.symm
  rw [d_X5_commonDivisor] at hres
  have hl := lv_entry ([.int x, .int y]) (n := 6) (Nat.le_of_ble_eq_true rfl)
  rw [lg_entry_eq]
  generalize (lg_sl ([.int x, .int y]) ++ List.replicate (6 - (lg_sl ([.int x, .int y])).length) Slot.unset).toArray = ls at hl ⊢
  have hl : lv_has ls 6 [(0, .int x), (1, .int y)] := hl
  refine lv_iload_n hx hb dX5_commonDivisor_0 rfl (lv_at hl 0 rfl) ?_
  refine lv_istore_n (lv' := [(2, .int x), (0, .int x), (1, .int y)]) hx hb dX5_commonDivisor_1 rfl hl (by decide) rfl (fun ls hl => ?_)
  refine lv_iload_n hx hb dX5_commonDivisor_2 rfl (lv_at hl 2 rfl) ?_
  refine lv_istore_n (lv' := [(3, .int y), (2, .int x), (0, .int x), (1, .int y)]) hx hb dX5_commonDivisor_3 rfl hl (by decide) rfl (fun ls hl => ?_)
  refine lv_iconst (v := 0) hx hb dX5_commonDivisor_4 (by decide) ?_
  refine lv_istore (lv' := [(4, .int 0), (3, .int y), (2, .int x), (0, .int x), (1, .int y)]) hx hb dX5_commonDivisor_5 hl (by decide) rfl (fun ls hl => ?_)
  have loop7 : ∀ (k7 : Nat) (i : Nat) (la : Int32) (sm : Int32), 50 - i < k7 → i ≤ 50 → R = lp_X5_commonDivisor_7 x y k7 i la sm → ∀ ls : Array Slot, lv_has ls 6 [(0, .int x), (1, .int y), (2, .int la), (3, .int sm), (4, .int (nI i))] → W p l e (headSpec wsX5_commonDivisor { frames := 0, cells := 0, slots := 0, locals := 0 }).room s m (([.int x, .int y] : List Value).toArray) below meth c s.heap [] 0 0 (MQ below (QcR (some (.int R))) (([.int x, .int y] : List Value).toArray) s 0 0 (fun _ => False)) (F0 m 7 ls []) := by
    intro k7
    induction k7 with
    | zero => intro i la sm hk; exact absurd hk (Nat.not_lt_zero _)
    | succ k7 ih7 =>
      intro i la sm hk7 hi hres ls hl
      rw [lp_X5_commonDivisor_7] at hres
      refine lv_iload hx hb dX5_commonDivisor_7 (lv_at hl 4 rfl) ?_
      refine lv_bipush (v := 50) hx hb dX5_commonDivisor_9 (by decide) ?_
      refine lv_icmp_ge (tgt := 34) hx hb dX5_commonDivisor_11 (by decide) (fun c_1 => ?_) (fun c_1 => ?_)
      · skip
        rw [if_pos c_1] at hres
        refine lv_iload_n hx hb dX5_commonDivisor_34 rfl (lv_at hl 2 rfl) ?_
        rw [hres]
        exact W.iret (v := la) hx hb hr (fun t ht hW => ⟨rfl, ht⟩) (fun _ h => by cases h) dX5_commonDivisor_35
      · skip
        rw [if_neg c_1] at hres
        have hlt : i < 50 := nlt_of (b := 50) c_1 (by omega) (by omega)
        refine lv_iload_n hx hb dX5_commonDivisor_14 rfl (lv_at hl 3 rfl) ?_
        refine lv_if_eq (tgt := 34) hx hb dX5_commonDivisor_15 (by decide) (fun c_2 => ?_) (fun c_2 => ?_)
        · skip
          rw [if_pos c_2] at hres
          refine lv_iload_n hx hb dX5_commonDivisor_34 rfl (lv_at hl 2 rfl) ?_
          rw [hres]
          exact W.iret (v := la) hx hb hr (fun t ht hW => ⟨rfl, ht⟩) (fun _ h => by cases h) dX5_commonDivisor_35
        · skip
          rw [if_neg c_2] at hres
          have hz := c_2
          refine lv_iload_n hx hb dX5_commonDivisor_18 rfl (lv_at hl 2 rfl) ?_
          refine lv_iload_n hx hb dX5_commonDivisor_19 rfl (lv_at hl 3 rfl) ?_
          refine lv_irem hx hb dX5_commonDivisor_20 hz ?_
          refine lv_istore (lv' := [(5, .int (la - la / sm * sm)), (0, .int x), (1, .int y), (2, .int la), (3, .int sm), (4, .int (nI i))]) hx hb dX5_commonDivisor_21 hl (by decide) rfl (fun ls hl => ?_)
          refine lv_iload_n hx hb dX5_commonDivisor_23 rfl (lv_at hl 4 rfl) ?_
          refine lv_istore_n (lv' := [(2, .int sm), (5, .int (la - la / sm * sm)), (0, .int x), (1, .int y), (3, .int sm), (4, .int (nI i))]) hx hb dX5_commonDivisor_24 rfl hl (by decide) rfl (fun ls hl => ?_)
          refine lv_iload hx hb dX5_commonDivisor_25 (lv_at hl 1 rfl) ?_
          refine lv_istore_n (lv' := [(3, .int (la - la / sm * sm)), (2, .int sm), (5, .int (la - la / sm * sm)), (0, .int x), (1, .int y), (4, .int (nI i))]) hx hb dX5_commonDivisor_27 rfl hl (by decide) rfl (fun ls hl => ?_)
          refine lv_iinc (v := nI (i + 1)) (lv' := [(4, .int (nI (i + 1))), (3, .int (la - la / sm * sm)), (2, .int sm), (5, .int (la - la / sm * sm)), (0, .int x), (1, .int y)]) hx hb dX5_commonDivisor_28 hl (k := 5) rfl ((nI_add i 1)) (by decide) rfl (fun ls hl => ?_)
          refine lv_goto (tgt := 7) hx hb dX5_commonDivisor_31 (by decide) ?_
          exact ih7 (i + 1) sm (la - la / sm * sm) (by omega) (by omega) hres ls (lv_sub hl [4, 5, 2, 1, 0] rfl)
  exact loop7 51 0 x y (by omega) (Nat.zero_le _) hres ls (lv_sub hl [3, 4, 2, 1, 0] rfl)
def d_X5_partOf (up : Int32) (lo : Int32) (what : Int32) : Int32 :=
  if (d_X5_commonDivisor (if 0 ≤ up then up else 0 - up) lo) = 0 then
      0
    else
      if what = 0 then
        up / (d_X5_commonDivisor (if 0 ≤ up then up else 0 - up) lo)
      else
        lo / (d_X5_commonDivisor (if 0 ≤ up then up else 0 - up) lo)
set_option maxHeartbeats 4000000 in
set_option maxRecDepth 100000 in
theorem c_X5_partOf (l : Launch) (D : va_G) (cI cC cZ cS : ClassId) (up : Int32) (lo : Int32) (what : Int32) : Met l yX5_partOf wsX5_partOf { frames := 1, cells := 0, slots := 0, locals := 25 } (PcE D cI cC cZ cS [.int up, .int lo, .int what] []) (QcR (some (.int (d_X5_partOf up lo what)))) 0 0 (fun _ => False) := by
  refine Met.ofW (cc := cX5_partOf) (maxL := 4) (ret := (some .int)) (by decide) rfl ?_
  intro p e s m args below meth c s₁ B hml hv
  obtain ⟨rfl, hP, hD, hE⟩ := hv
  have hK := hE.1
  have hx := B.exec
  have hb := B.bytes
  have hr := B.returns
  have hts := atoms_spec (ws := wsX5_partOf) B.pre
  have hown : s.vm.findClass RX5 = some m.cls := findClass_of_methodNamed B.named
  have hlocks := B.notSynchronized
  generalize hres : d_X5_partOf up lo what = R
  replace hres := hres.symm
  rw [d_X5_partOf] at hres
  have hl := lv_entry ([.int up, .int lo, .int what]) (n := 4) (Nat.le_of_ble_eq_true rfl)
  rw [lg_entry_eq]
  generalize (lg_sl ([.int up, .int lo, .int what]) ++ List.replicate (4 - (lg_sl ([.int up, .int lo, .int what])).length) Slot.unset).toArray = ls at hl ⊢
  have hl : lv_has ls 4 [(0, .int up), (1, .int lo), (2, .int what)] := hl
  refine lv_iload_n hx hb dX5_partOf_0 rfl (lv_at hl 0 rfl) ?_
  refine va_mabs hx hb (by rw [hml]; exact hl.1.symm) hown (hts (.methodLink RX5 253 Lib.Math.abs.name) (by decide +kernel)) (hts (.static Lib.Math.abs.name) (by decide +kernel)) (hts (.initialized "java/lang/Math") (by decide +kernel)) (hts (.code Lib.Math.abs.name Lib.Math.abs.code 1 (some .int)) (by decide +kernel)) (Nat.le_of_ble_eq_true rfl) (Nat.le_of_ble_eq_true rfl) (Nat.zero_le _) (Nat.zero_le _) dX5_partOf_1 ?_
  refine lv_iload_n hx hb dX5_partOf_4 rfl (lv_at hl 1 rfl) ?_
  have hPc := hP.sub (ws' := []) [] rfl
  have hDc := hD.sub (ws' := []) [] (by decide) rfl
  refine m_callR (W.runS (As := [.int (if 0 ≤ up then up else 0 - up), .int lo]) (rest := []) ⟨hx, hb, hml, hown, hts⟩ (c_X5_commonDivisor l D cI cC cZ cS (if 0 ≤ up then up else 0 - up) lo) (va_cwS 2 hts gX5_partOf_X5_commonDivisor rfl rfl rfl (by decide +kernel) ⟨Nat.le_of_ble_eq_true rfl, Nat.le_of_ble_eq_true rfl⟩) (preS_of hPc hDc hE) rfl rfl hl.1 rfl (lv_room (Nat.le_of_ble_eq_true rfl)) dX5_partOf_5 ⟨Nat.zero_le _, Nat.zero_le _⟩) ?_
  refine W.eq (g2 := F0 m 8 ls [.int (d_X5_commonDivisor (if 0 ≤ up then up else 0 - up) lo)]) rfl ?_
  refine lv_istore_n (lv' := [(3, .int (d_X5_commonDivisor (if 0 ≤ up then up else 0 - up) lo)), (0, .int up), (1, .int lo), (2, .int what)]) hx hb dX5_partOf_8 rfl hl (by decide) rfl (fun ls hl => ?_)
  refine lv_iload_n hx hb dX5_partOf_9 rfl (lv_at hl 0 rfl) ?_
  refine lv_if_ne (tgt := 15) hx hb dX5_partOf_10 (by decide) (fun c_1 => ?_) (fun c_1 => ?_)
  · skip
    rw [if_neg c_1] at hres
    have hz := c_1
    refine lv_iload_n hx hb dX5_partOf_15 rfl (lv_at hl 3 rfl) ?_
    refine lv_if_ne (tgt := 23) hx hb dX5_partOf_16 (by decide) (fun c_2 => ?_) (fun c_2 => ?_)
    · skip
      rw [if_neg c_2] at hres
      refine lv_iload_n hx hb dX5_partOf_23 rfl (lv_at hl 2 rfl) ?_
      refine lv_iload_n hx hb dX5_partOf_24 rfl (lv_at hl 0 rfl) ?_
      refine lv_idiv hx hb dX5_partOf_25 hz ?_
      rw [hres]
      exact W.iret (v := lo / (d_X5_commonDivisor (if 0 ≤ up then up else 0 - up) lo)) hx hb hr (fun t ht hW => ⟨rfl, ht⟩) (fun _ h => by cases h) dX5_partOf_26
    · skip
      rw [if_pos c_2] at hres
      refine lv_iload_n hx hb dX5_partOf_19 rfl (lv_at hl 1 rfl) ?_
      refine lv_goto (tgt := 24) hx hb dX5_partOf_20 (by decide) ?_
      refine lv_iload_n hx hb dX5_partOf_24 rfl (lv_at hl 0 rfl) ?_
      refine lv_idiv hx hb dX5_partOf_25 hz ?_
      rw [hres]
      exact W.iret (v := up / (d_X5_commonDivisor (if 0 ≤ up then up else 0 - up) lo)) hx hb hr (fun t ht hW => ⟨rfl, ht⟩) (fun _ h => by cases h) dX5_partOf_26
  · skip
    rw [if_pos c_1] at hres
    refine lv_iconst (v := 0) hx hb dX5_partOf_13 (by decide) ?_
    rw [hres]
    exact W.iret (v := 0) hx hb hr (fun t ht hW => ⟨rfl, ht⟩) (fun _ h => by cases h) dX5_partOf_14
def d_X5_fewerWords (best : Int32) (words : Int32) : Int32 :=
  if best = (-9 : Int32) then
      words
    else
      if (d_J6_bitCount_0f7a4 best) ≤ (d_J6_bitCount_0f7a4 words) then
        best
      else
        words
set_option maxHeartbeats 4000000 in
set_option maxRecDepth 100000 in
theorem c_X5_fewerWords (l : Launch) (D : va_G) (cI cC cZ cS : ClassId) (best : Int32) (words : Int32) : Met l yX5_fewerWords wsX5_fewerWords { frames := 1, cells := 0, slots := 0, locals := 20 } (PcE D cI cC cZ cS [.int best, .int words] []) (QcR (some (.int (d_X5_fewerWords best words)))) 0 0 (fun _ => False) := by
  refine Met.ofW (cc := cX5_fewerWords) (maxL := 2) (ret := (some .int)) (by decide) rfl ?_
  intro p e s m args below meth c s₁ B hml hv
  obtain ⟨rfl, hP, hD, hE⟩ := hv
  have hK := hE.1
  have hx := B.exec
  have hb := B.bytes
  have hr := B.returns
  have hts := atoms_spec (ws := wsX5_fewerWords) B.pre
  have hown : s.vm.findClass RX5 = some m.cls := findClass_of_methodNamed B.named
  have hlocks := B.notSynchronized
  generalize hres : d_X5_fewerWords best words = R
  replace hres := hres.symm
  rw [d_X5_fewerWords] at hres
  have hl := lv_entry ([.int best, .int words]) (n := 2) (Nat.le_of_ble_eq_true rfl)
  rw [lg_entry_eq]
  generalize (lg_sl ([.int best, .int words]) ++ List.replicate (2 - (lg_sl ([.int best, .int words])).length) Slot.unset).toArray = ls at hl ⊢
  have hl : lv_has ls 2 [(0, .int best), (1, .int words)] := hl
  refine lv_iload_n hx hb dX5_fewerWords_0 rfl (lv_at hl 0 rfl) ?_
  refine lv_bipush (v := (-9)) hx hb dX5_fewerWords_1 (by decide) ?_
  refine lv_icmp_eq (tgt := 17) hx hb dX5_fewerWords_3 (by decide) (fun c_1 => ?_) (fun c_1 => ?_)
  · skip
    rw [if_pos c_1] at hres
    refine lv_iload_n hx hb dX5_fewerWords_17 rfl (lv_at hl 1 rfl) ?_
    refine lv_goto (tgt := 22) hx hb dX5_fewerWords_18 (by decide) ?_
    rw [hres]
    exact W.iret (v := words) hx hb hr (fun t ht hW => ⟨rfl, ht⟩) (fun _ h => by cases h) dX5_fewerWords_22
  · skip
    rw [if_neg c_1] at hres
    refine lv_iload_n hx hb dX5_fewerWords_6 rfl (lv_at hl 1 rfl) ?_
    have hPc := hP.sub (ws' := []) [] rfl
    have hDc := hD.sub (ws' := []) [] (by decide) rfl
    refine m_callR (W.runS (As := [.int words]) (rest := []) ⟨hx, hb, hml, hown, hts⟩ (c_J6_bitCount_0f7a4 l D cI cC cZ cS words) (va_cwS 1 hts gX5_fewerWords_J6_bitCount_0f7a4 rfl rfl rfl (by decide +kernel) ⟨Nat.le_of_ble_eq_true rfl, Nat.le_of_ble_eq_true rfl⟩) (preS_of hPc hDc hE) rfl rfl hl.1 rfl (lv_room (Nat.le_of_ble_eq_true rfl)) dX5_fewerWords_7 ⟨Nat.zero_le _, Nat.zero_le _⟩) ?_
    refine W.eq (g2 := F0 m 10 ls [.int (d_J6_bitCount_0f7a4 words)]) rfl ?_
    refine lv_iload_n hx hb dX5_fewerWords_10 rfl (lv_at hl 0 rfl) ?_
    have hPc := hP.sub (ws' := []) [] rfl
    have hDc := hD.sub (ws' := []) [] (by decide) rfl
    refine m_callR (W.runS (As := [.int best]) (rest := [.int (d_J6_bitCount_0f7a4 words)]) ⟨hx, hb, hml, hown, hts⟩ (c_J6_bitCount_0f7a4 l D cI cC cZ cS best) (va_cwS 1 hts gX5_fewerWords_J6_bitCount_0f7a4 rfl rfl rfl (by decide +kernel) ⟨Nat.le_of_ble_eq_true rfl, Nat.le_of_ble_eq_true rfl⟩) (preS_of hPc hDc hE) rfl rfl hl.1 rfl (lv_room (Nat.le_of_ble_eq_true rfl)) dX5_fewerWords_11 ⟨Nat.zero_le _, Nat.zero_le _⟩) ?_
    refine W.eq (g2 := F0 m 14 ls [.int (d_J6_bitCount_0f7a4 best), .int (d_J6_bitCount_0f7a4 words)]) rfl ?_
    refine lv_icmp_ge (tgt := 21) hx hb dX5_fewerWords_14 (by decide) (fun c_2 => ?_) (fun c_2 => ?_)
    · skip
      rw [if_pos c_2] at hres
      refine lv_iload_n hx hb dX5_fewerWords_21 rfl (lv_at hl 0 rfl) ?_
      rw [hres]
      exact W.iret (v := best) hx hb hr (fun t ht hW => ⟨rfl, ht⟩) (fun _ h => by cases h) dX5_fewerWords_22
    · skip
      rw [if_neg c_2] at hres
      refine lv_iload_n hx hb dX5_fewerWords_17 rfl (lv_at hl 1 rfl) ?_
      refine lv_goto (tgt := 22) hx hb dX5_fewerWords_18 (by decide) ?_
      rw [hres]
      exact W.iret (v := words) hx hb hr (fun t ht hW => ⟨rfl, ht⟩) (fun _ h => by cases h) dX5_fewerWords_22
def d_X5_drawn (z : Int32) (date : Int32) (tog : Int32) : Int32 :=
  if tog ≤ 0 then
      0
    else
      ((((((((7919 : Int64) * ((z).toInt64)) + ((4253 : Int64) * ((date).toInt64))) + (1 : Int64)) * ((((7919 : Int64) * ((z).toInt64)) + ((4253 : Int64) * ((date).toInt64))) + (1 : Int64))) - (((((7919 : Int64) * ((z).toInt64)) + ((4253 : Int64) * ((date).toInt64))) + (1 : Int64)) * ((((7919 : Int64) * ((z).toInt64)) + ((4253 : Int64) * ((date).toInt64))) + (1 : Int64))) / (65521 : Int64) * (65521 : Int64)) / (8 : Int64)) - (((((((7919 : Int64) * ((z).toInt64)) + ((4253 : Int64) * ((date).toInt64))) + (1 : Int64)) * ((((7919 : Int64) * ((z).toInt64)) + ((4253 : Int64) * ((date).toInt64))) + (1 : Int64))) - (((((7919 : Int64) * ((z).toInt64)) + ((4253 : Int64) * ((date).toInt64))) + (1 : Int64)) * ((((7919 : Int64) * ((z).toInt64)) + ((4253 : Int64) * ((date).toInt64))) + (1 : Int64))) / (65521 : Int64) * (65521 : Int64)) / (8 : Int64)) / ((tog).toInt64) * ((tog).toInt64)).toInt32
set_option maxHeartbeats 4000000 in
set_option maxRecDepth 100000 in
theorem c_X5_drawn (l : Launch) (D : va_G) (cI cC cZ cS : ClassId) (z : Int32) (date : Int32) (tog : Int32) : Met l yX5_drawn wsX5_drawn { frames := 0, cells := 0, slots := 0, locals := 0 } (PcE D cI cC cZ cS [.int z, .int date, .int tog] []) (QcR (some (.int (d_X5_drawn z date tog)))) 0 0 (fun _ => False) := by
  refine Met.ofW (cc := cX5_drawn) (maxL := 7) (ret := (some .int)) (by decide) rfl ?_
  intro p e s m args below meth c s₁ B hml hv
  obtain ⟨rfl, hP, hD, hE⟩ := hv
  have hK := hE.1
  have hx := B.exec
  have hb := B.bytes
  have hr := B.returns
  have hts := atoms_spec (ws := wsX5_drawn) B.pre
  have hown : s.vm.findClass RX5 = some m.cls := findClass_of_methodNamed B.named
  have hlocks := B.notSynchronized
  generalize hres : d_X5_drawn z date tog = R
  replace hres := hres.symm
  rw [d_X5_drawn] at hres
  have hl := lv_entry ([.int z, .int date, .int tog]) (n := 7) (Nat.le_of_ble_eq_true rfl)
  rw [lg_entry_eq]
  generalize (lg_sl ([.int z, .int date, .int tog]) ++ List.replicate (7 - (lg_sl ([.int z, .int date, .int tog])).length) Slot.unset).toArray = ls at hl ⊢
  have hl : lv_has ls 7 [(0, .int z), (1, .int date), (2, .int tog)] := hl
  refine lv_ldc2 hx hb hown (hts (.constantLong RX5 245 (7919)) (by decide +kernel)) dX5_drawn_0 ?_
  refine lv_iload_n hx hb dX5_drawn_3 rfl (lv_at hl 0 rfl) ?_
  refine lv_i2l (v := (z).toInt64) hx hb dX5_drawn_4 rfl ?_
  refine lv_lmul hx hb dX5_drawn_5 ?_
  refine lv_ldc2 hx hb hown (hts (.constantLong RX5 247 (4253)) (by decide +kernel)) dX5_drawn_6 ?_
  refine lv_iload_n hx hb dX5_drawn_9 rfl (lv_at hl 1 rfl) ?_
  refine lv_i2l (v := (date).toInt64) hx hb dX5_drawn_10 rfl ?_
  refine lv_lmul hx hb dX5_drawn_11 ?_
  refine lv_ladd hx hb dX5_drawn_12 ?_
  refine lv_lconst (v := 1) hx hb dX5_drawn_13 (by decide) ?_
  refine lv_ladd hx hb dX5_drawn_14 ?_
  refine lv_lstore_n (lv' := [(3, .long ((((7919 : Int64) * ((z).toInt64)) + ((4253 : Int64) * ((date).toInt64))) + (1 : Int64))), (0, .int z), (1, .int date), (2, .int tog)]) hx hb dX5_drawn_15 rfl hl (by decide) rfl (fun ls hl => ?_)
  refine lv_lload_n hx hb dX5_drawn_16 rfl (lv_at hl 0 rfl) ?_
  refine lv_lload_n hx hb dX5_drawn_17 rfl (lv_at hl 0 rfl) ?_
  refine lv_lmul hx hb dX5_drawn_18 ?_
  refine lv_ldc2 hx hb hown (hts (.constantLong RX5 249 (65521)) (by decide +kernel)) dX5_drawn_19 ?_
  refine lv_lrem hx hb dX5_drawn_22 (by decide) ?_
  refine lv_ldc2 hx hb hown (hts (.constantLong RX5 251 (8)) (by decide +kernel)) dX5_drawn_23 ?_
  refine lv_ldiv hx hb dX5_drawn_26 (by decide) ?_
  refine lv_lstore (lv' := [(5, .long (((((((7919 : Int64) * ((z).toInt64)) + ((4253 : Int64) * ((date).toInt64))) + (1 : Int64)) * ((((7919 : Int64) * ((z).toInt64)) + ((4253 : Int64) * ((date).toInt64))) + (1 : Int64))) - (((((7919 : Int64) * ((z).toInt64)) + ((4253 : Int64) * ((date).toInt64))) + (1 : Int64)) * ((((7919 : Int64) * ((z).toInt64)) + ((4253 : Int64) * ((date).toInt64))) + (1 : Int64))) / (65521 : Int64) * (65521 : Int64)) / (8 : Int64))), (3, .long ((((7919 : Int64) * ((z).toInt64)) + ((4253 : Int64) * ((date).toInt64))) + (1 : Int64))), (0, .int z), (1, .int date), (2, .int tog)]) hx hb dX5_drawn_27 hl (by decide) rfl (fun ls hl => ?_)
  refine lv_iload_n hx hb dX5_drawn_29 rfl (lv_at hl 4 rfl) ?_
  refine lv_if_le (tgt := 42) hx hb dX5_drawn_30 (by decide) (fun c_1 => ?_) (fun c_1 => ?_)
  · skip
    rw [if_pos c_1] at hres
    refine lv_iconst (v := 0) hx hb dX5_drawn_42 (by decide) ?_
    rw [hres]
    exact W.iret (v := 0) hx hb hr (fun t ht hW => ⟨rfl, ht⟩) (fun _ h => by cases h) dX5_drawn_43
  · skip
    rw [if_neg c_1] at hres
    have hz := pos64 c_1
    refine lv_lload hx hb dX5_drawn_33 (lv_at hl 0 rfl) ?_
    refine lv_iload_n hx hb dX5_drawn_35 rfl (lv_at hl 4 rfl) ?_
    refine lv_i2l (v := (tog).toInt64) hx hb dX5_drawn_36 rfl ?_
    refine lv_lrem hx hb dX5_drawn_37 hz ?_
    refine lv_l2i (v := ((((((((7919 : Int64) * ((z).toInt64)) + ((4253 : Int64) * ((date).toInt64))) + (1 : Int64)) * ((((7919 : Int64) * ((z).toInt64)) + ((4253 : Int64) * ((date).toInt64))) + (1 : Int64))) - (((((7919 : Int64) * ((z).toInt64)) + ((4253 : Int64) * ((date).toInt64))) + (1 : Int64)) * ((((7919 : Int64) * ((z).toInt64)) + ((4253 : Int64) * ((date).toInt64))) + (1 : Int64))) / (65521 : Int64) * (65521 : Int64)) / (8 : Int64)) - (((((((7919 : Int64) * ((z).toInt64)) + ((4253 : Int64) * ((date).toInt64))) + (1 : Int64)) * ((((7919 : Int64) * ((z).toInt64)) + ((4253 : Int64) * ((date).toInt64))) + (1 : Int64))) - (((((7919 : Int64) * ((z).toInt64)) + ((4253 : Int64) * ((date).toInt64))) + (1 : Int64)) * ((((7919 : Int64) * ((z).toInt64)) + ((4253 : Int64) * ((date).toInt64))) + (1 : Int64))) / (65521 : Int64) * (65521 : Int64)) / (8 : Int64)) / ((tog).toInt64) * ((tog).toInt64)).toInt32) hx hb dX5_drawn_38 rfl ?_
    refine lv_goto (tgt := 43) hx hb dX5_drawn_39 (by decide) ?_
    rw [hres]
    exact W.iret (v := ((((((((7919 : Int64) * ((z).toInt64)) + ((4253 : Int64) * ((date).toInt64))) + (1 : Int64)) * ((((7919 : Int64) * ((z).toInt64)) + ((4253 : Int64) * ((date).toInt64))) + (1 : Int64))) - (((((7919 : Int64) * ((z).toInt64)) + ((4253 : Int64) * ((date).toInt64))) + (1 : Int64)) * ((((7919 : Int64) * ((z).toInt64)) + ((4253 : Int64) * ((date).toInt64))) + (1 : Int64))) / (65521 : Int64) * (65521 : Int64)) / (8 : Int64)) - (((((((7919 : Int64) * ((z).toInt64)) + ((4253 : Int64) * ((date).toInt64))) + (1 : Int64)) * ((((7919 : Int64) * ((z).toInt64)) + ((4253 : Int64) * ((date).toInt64))) + (1 : Int64))) - (((((7919 : Int64) * ((z).toInt64)) + ((4253 : Int64) * ((date).toInt64))) + (1 : Int64)) * ((((7919 : Int64) * ((z).toInt64)) + ((4253 : Int64) * ((date).toInt64))) + (1 : Int64))) / (65521 : Int64) * (65521 : Int64)) / (8 : Int64)) / ((tog).toInt64) * ((tog).toInt64)).toInt32) hx hb hr (fun t ht hW => ⟨rfl, ht⟩) (fun _ h => by cases h) dX5_drawn_43
end
section
theorem hasRoom_lt {hf : Nat → Int32} {n : Nat} (c : ¬ d_X0_hasRoom hf = 0) (hn : hf 3 = nI n) (h7 : n ≤ 7) : n < 7 := by
  rcases Nat.lt_or_ge n 7 with q | q
  · exact q
  · exact absurd (by rw [d_X0_hasRoom, hn, if_pos (show (7 : Int32) ≤ nI n from nI_le (a := 7) q (by omega))]) c
theorem last9 {x : Int32} {nx : Nat} (h : x = nI nx) (h10 : nx < 10) (c0 : ¬ x = 0) (c1 : ¬ x = 1) (c2 : ¬ x = 2) (c3 : ¬ x = 3) (c4 : ¬ x = 4) (c5 : ¬ x = 5) (c6 : ¬ x = 6) (c7 : ¬ x = 7) (c8 : ¬ x = 8) : x = 9 := by
  subst h
  match nx, h10 with
  | 0, _ => exact absurd rfl c0
  | 1, _ => exact absurd rfl c1
  | 2, _ => exact absurd rfl c2
  | 3, _ => exact absurd rfl c3
  | 4, _ => exact absurd rfl c4
  | 5, _ => exact absurd rfl c5
  | 6, _ => exact absurd rfl c6
  | 7, _ => exact absurd rfl c7
  | 8, _ => exact absurd rfl c8
  | 9, _ => rfl
  | k + 10, h => omega

def wS2 (cI cC cZ cS : ClassId) (sA : Nat) (oA : Nat) (u : Nat → Int32) (v : Nat → Int32) : va_W := [(sA, .inr (3, [.int (u 0), .int (u 1), .int (u 2), .int (u 3), .int (u 4)])), (oA, .inr (3, [.int (v 0), .int (v 1), .int (v 2), .int (v 3), .int (v 4)]))]
def wN (cI cC cZ cS : ClassId) (nA : Nat) (wA : Nat) (gA : Nat) (sf : Nat → Int32) (wh : Nat → Int32) (gv : Nat → Int32) : va_W := [(nA, .inr (2, [.ref wA, .ref gA, .int (sf 2)])), (wA, .inl (cI, 6, .inl wh)), (gA, .inl (cI, 6, .inl gv))]
def wP (cI cC cZ cS : ClassId) (b : Nat → Nat) (G : Nat → Nat → Int32) : va_W := [((b 0), .inr (1, [.ref (b 1), .int ((G 0) 1), .int ((G 0) 2)])), ((b 1), .inl (cS, 10, .inr (.inr (.inr (.inr (fun j => some (b (2 + j)))))))), ((b 2), .inr (3, [.int ((G 2) 0), .int ((G 2) 1), .int ((G 2) 2), .int ((G 2) 3), .int ((G 2) 4)])), ((b 3), .inr (3, [.int ((G 3) 0), .int ((G 3) 1), .int ((G 3) 2), .int ((G 3) 3), .int ((G 3) 4)])), ((b 4), .inr (3, [.int ((G 4) 0), .int ((G 4) 1), .int ((G 4) 2), .int ((G 4) 3), .int ((G 4) 4)])), ((b 5), .inr (3, [.int ((G 5) 0), .int ((G 5) 1), .int ((G 5) 2), .int ((G 5) 3), .int ((G 5) 4)])), ((b 6), .inr (3, [.int ((G 6) 0), .int ((G 6) 1), .int ((G 6) 2), .int ((G 6) 3), .int ((G 6) 4)])), ((b 7), .inr (3, [.int ((G 7) 0), .int ((G 7) 1), .int ((G 7) 2), .int ((G 7) 3), .int ((G 7) 4)])), ((b 8), .inr (3, [.int ((G 8) 0), .int ((G 8) 1), .int ((G 8) 2), .int ((G 8) 3), .int ((G 8) 4)])), ((b 9), .inr (3, [.int ((G 9) 0), .int ((G 9) 1), .int ((G 9) 2), .int ((G 9) 3), .int ((G 9) 4)])), ((b 10), .inr (3, [.int ((G 10) 0), .int ((G 10) 1), .int ((G 10) 2), .int ((G 10) 3), .int ((G 10) 4)])), ((b 11), .inr (3, [.int ((G 11) 0), .int ((G 11) 1), .int ((G 11) 2), .int ((G 11) 3), .int ((G 11) 4)])), ((b 12), .inr (3, [.int ((G 12) 0), .int ((G 12) 1), .int ((G 12) 2), .int ((G 12) 3), .int ((G 12) 4)]))]
def d_X0_setBare (hf : Nat → Int32) : (Nat → Int32) :=
  (upd (upd (upd (upd (upd (upd hf 3 0) 4 0) 5 0) 6 5) 7 0) 8 100)
set_option maxHeartbeats 4000000 in
set_option maxRecDepth 100000 in
theorem c_X0_setBare (l : Launch) (D : va_G) (cI cC cZ cS : ClassId) (h : Nat) (tA : Nat) (dA : Nat) (eA : Nat) (hf : Nat → Int32) (tr : Nat → Int32) (de : Nat → Int32) (ea : Nat → Int32) : Met l yX0_setBare wsX0_setBare { frames := 0, cells := 0, slots := 0, locals := 0 } (PcE D cI cC cZ cS [.ref h] (wH cI cC cZ cS h tA dA eA hf tr de ea)) (QcM none D (wH cI cC cZ cS h tA dA eA hf tr de ea) (wH cI cC cZ cS h tA dA eA (d_X0_setBare hf) tr de ea)) 0 0 (inW (wH cI cC cZ cS h tA dA eA hf tr de ea)) := by
  refine Met.ofW (cc := cX0_setBare) (maxL := 1) (ret := none) (by decide) rfl ?_
  intro p e s m args below meth c s₁ B hml hv
  obtain ⟨rfl, hP, hD, hE⟩ := hv
  have hK := hE.1
  have hx := B.exec
  have hb := B.bytes
  have hr := B.returns
  have hts := atoms_spec (ws := wsX0_setBare) B.pre
  have hown : s.vm.findClass RX0 = some m.cls := findClass_of_methodNamed B.named
  have hlocks := B.notSynchronized
  have hinX0 : ∀ w ∈ wsX00, w ∈ wsX0_setBare := by decide +kernel
  have hD := inW_self hD
  have hS : va_S (inW (wH cI cC cZ cS h tA dA eA hf tr de ea)) s.heap s.heap [] := va_S.rf
  generalize hA : inW (wH cI cC cZ cS h tA dA eA hf tr de ea) = A at hD hS ⊢
  generalize hres : d_X0_setBare hf = R
  replace hres := hres.symm
  rw [d_X0_setBare] at hres
  have hl := lv_entry ([.ref h]) (n := 1) (Nat.le_of_ble_eq_true rfl)
  rw [lg_entry_eq]
  generalize (lg_sl ([.ref h]) ++ List.replicate (1 - (lg_sl ([.ref h])).length) Slot.unset).toArray = ls at hl ⊢
  have hl : lv_has ls 1 [(0, .ref h)] := hl
  refine lv_aload_n hx hb dX0_setBare_0 rfl (lv_at hl 0 rfl) ?_
  refine lv_iconst (v := 0) hx hb dX0_setBare_1 (by decide) ?_
  refine va_put (D := D) (ci := 0) (v := .int 0) (ty := .int) (C := RX0) (T := TX0) (N := 9) hx hb hts hinX0 tyX0 tyX0_ok nmX0 hown hK hP hD hS 0 rfl rfl 3 (by decide) (hts (.fieldLink RX0 24 "FirstOut$House" "things" "I") (by decide +kernel)) (fun _ h9 => h9) rfl (by decide +kernel) rfl rfl (Nat.le_of_ble_eq_true rfl) dX0_setBare_2 (fun H locs hP hD hS => ?_)
  have hP : va_P D vwCl (wH cI cC cZ cS h tA dA eA (upd hf 3 0) tr de ea) H := hP
  have hD : va_D A (wH cI cC cZ cS h tA dA eA (upd hf 3 0) tr de ea) := hD
  refine lv_aload_n hx hb dX0_setBare_5 rfl (lv_at hl 0 rfl) ?_
  refine lv_iconst (v := 0) hx hb dX0_setBare_6 (by decide) ?_
  refine va_put (D := D) (ci := 0) (v := .int 0) (ty := .int) (C := RX0) (T := TX0) (N := 9) hx hb hts hinX0 tyX0 tyX0_ok nmX0 hown hK hP hD hS 0 rfl rfl 4 (by decide) (hts (.fieldLink RX0 28 "FirstOut$House" "knowing" "I") (by decide +kernel)) (fun _ h9 => h9) rfl (by decide +kernel) rfl rfl (Nat.le_of_ble_eq_true rfl) dX0_setBare_7 (fun H locs hP hD hS => ?_)
  have hP : va_P D vwCl (wH cI cC cZ cS h tA dA eA (upd (upd hf 3 0) 4 0) tr de ea) H := hP
  have hD : va_D A (wH cI cC cZ cS h tA dA eA (upd (upd hf 3 0) 4 0) tr de ea) := hD
  refine lv_aload_n hx hb dX0_setBare_10 rfl (lv_at hl 0 rfl) ?_
  refine lv_iconst (v := 0) hx hb dX0_setBare_11 (by decide) ?_
  refine va_put (D := D) (ci := 0) (v := .int 0) (ty := .int) (C := RX0) (T := TX0) (N := 9) hx hb hts hinX0 tyX0 tyX0_ok nmX0 hown hK hP hD hS 0 rfl rfl 5 (by decide) (hts (.fieldLink RX0 31 "FirstOut$House" "words" "I") (by decide +kernel)) (fun _ h9 => h9) rfl (by decide +kernel) rfl rfl (Nat.le_of_ble_eq_true rfl) dX0_setBare_12 (fun H locs hP hD hS => ?_)
  have hP : va_P D vwCl (wH cI cC cZ cS h tA dA eA (upd (upd (upd hf 3 0) 4 0) 5 0) tr de ea) H := hP
  have hD : va_D A (wH cI cC cZ cS h tA dA eA (upd (upd (upd hf 3 0) 4 0) 5 0) tr de ea) := hD
  refine lv_aload_n hx hb dX0_setBare_15 rfl (lv_at hl 0 rfl) ?_
  refine lv_iconst (v := 5) hx hb dX0_setBare_16 (by decide) ?_
  refine va_put (D := D) (ci := 0) (v := .int 5) (ty := .int) (C := RX0) (T := TX0) (N := 9) hx hb hts hinX0 tyX0 tyX0_ok nmX0 hown hK hP hD hS 0 rfl rfl 6 (by decide) (hts (.fieldLink RX0 34 "FirstOut$House" "chance" "I") (by decide +kernel)) (fun _ h9 => h9) rfl (by decide +kernel) rfl rfl (Nat.le_of_ble_eq_true rfl) dX0_setBare_17 (fun H locs hP hD hS => ?_)
  have hP : va_P D vwCl (wH cI cC cZ cS h tA dA eA (upd (upd (upd (upd hf 3 0) 4 0) 5 0) 6 5) tr de ea) H := hP
  have hD : va_D A (wH cI cC cZ cS h tA dA eA (upd (upd (upd (upd hf 3 0) 4 0) 5 0) 6 5) tr de ea) := hD
  refine lv_aload_n hx hb dX0_setBare_20 rfl (lv_at hl 0 rfl) ?_
  refine lv_iconst (v := 0) hx hb dX0_setBare_21 (by decide) ?_
  refine va_put (D := D) (ci := 0) (v := .int 0) (ty := .int) (C := RX0) (T := TX0) (N := 9) hx hb hts hinX0 tyX0 tyX0_ok nmX0 hown hK hP hD hS 0 rfl rfl 7 (by decide) (hts (.fieldLink RX0 37 "FirstOut$House" "help" "I") (by decide +kernel)) (fun _ h9 => h9) rfl (by decide +kernel) rfl rfl (Nat.le_of_ble_eq_true rfl) dX0_setBare_22 (fun H locs hP hD hS => ?_)
  have hP : va_P D vwCl (wH cI cC cZ cS h tA dA eA (upd (upd (upd (upd (upd hf 3 0) 4 0) 5 0) 6 5) 7 0) tr de ea) H := hP
  have hD : va_D A (wH cI cC cZ cS h tA dA eA (upd (upd (upd (upd (upd hf 3 0) 4 0) 5 0) 6 5) 7 0) tr de ea) := hD
  refine lv_aload_n hx hb dX0_setBare_25 rfl (lv_at hl 0 rfl) ?_
  refine lv_bipush (v := 100) hx hb dX0_setBare_26 (by decide) ?_
  refine va_put (D := D) (ci := 0) (v := .int 100) (ty := .int) (C := RX0) (T := TX0) (N := 9) hx hb hts hinX0 tyX0 tyX0_ok nmX0 hown hK hP hD hS 0 rfl rfl 8 (by decide) (hts (.fieldLink RX0 40 "FirstOut$House" "worth" "I") (by decide +kernel)) (fun _ h9 => h9) rfl (by decide +kernel) rfl rfl (Nat.le_of_ble_eq_true rfl) dX0_setBare_28 (fun H locs hP hD hS => ?_)
  have hP : va_P D vwCl (wH cI cC cZ cS h tA dA eA (upd (upd (upd (upd (upd (upd hf 3 0) 4 0) 5 0) 6 5) 7 0) 8 100) tr de ea) H := hP
  have hD : va_D A (wH cI cC cZ cS h tA dA eA (upd (upd (upd (upd (upd (upd hf 3 0) 4 0) 5 0) 6 5) 7 0) 8 100) tr de ea) := hD
  rw [hres]
  exact W.vret hx hb hr (fun t ht hW => ⟨rfl, by rw [ht]; exact hP, by rw [hA]; exact hS.F ht⟩) hS.2.2 dX0_setBare_31
def d_X0_add (hf : Nat → Int32) (tr : Nat → Int32) (de : Nat → Int32) (ea : Nat → Int32) (x : Int32) (y : Int32) (z : Int32) (kn : Int32) (n : Nat) : (Nat → Int32) × (Nat → Int32) × (Nat → Int32) × (Nat → Int32) :=
  if (d_X0_hasRoom hf) = 0 then
      (hf, tr, de, ea)
    else
      ((upd (upd hf 4 ((hf 4) ||| (kn <<< ((nI n) &&& 31)))) 3 ((nI n) + (1 : Int32))), (upd tr n x), (upd de n y), (upd ea n z))
set_option maxHeartbeats 4000000 in
set_option maxRecDepth 100000 in
theorem c_X0_add (l : Launch) (D : va_G) (cI cC cZ cS : ClassId) (h : Nat) (tA : Nat) (dA : Nat) (eA : Nat) (hf : Nat → Int32) (tr : Nat → Int32) (de : Nat → Int32) (ea : Nat → Int32) (x : Int32) (y : Int32) (z : Int32) (kn : Int32) (n : Nat) (hn : hf 3 = nI n) (h7 : n ≤ 7) : Met l yX0_add wsX0_add { frames := 1, cells := 0, slots := 0, locals := 20 } (PcE D cI cC cZ cS [.ref h, .int x, .int y, .int z, .int kn] (wH cI cC cZ cS h tA dA eA hf tr de ea)) (QcM none D (wH cI cC cZ cS h tA dA eA hf tr de ea) (wH cI cC cZ cS h tA dA eA ((d_X0_add hf tr de ea x y z kn n).1) ((d_X0_add hf tr de ea x y z kn n).2.1) ((d_X0_add hf tr de ea x y z kn n).2.2.1) ((d_X0_add hf tr de ea x y z kn n).2.2.2))) 0 0 (inW (wH cI cC cZ cS h tA dA eA hf tr de ea)) := by
  refine Met.ofW (cc := cX0_add) (maxL := 5) (ret := none) (by decide) rfl ?_
  intro p e s m args below meth c s₁ B hml hv
  obtain ⟨rfl, hP, hD, hE⟩ := hv
  have hK := hE.1
  have hx := B.exec
  have hb := B.bytes
  have hr := B.returns
  have hts := atoms_spec (ws := wsX0_add) B.pre
  have hown : s.vm.findClass RX0 = some m.cls := findClass_of_methodNamed B.named
  have hlocks := B.notSynchronized
  have hinX0 : ∀ w ∈ wsX00, w ∈ wsX0_add := by decide +kernel
  have hD := inW_self hD
  have hS : va_S (inW (wH cI cC cZ cS h tA dA eA hf tr de ea)) s.heap s.heap [] := va_S.rf
  generalize hA : inW (wH cI cC cZ cS h tA dA eA hf tr de ea) = A at hD hS ⊢
  generalize hres : d_X0_add hf tr de ea x y z kn n = R
  replace hres := hres.symm
  rw [d_X0_add] at hres
  have hl := lv_entry ([.ref h, .int x, .int y, .int z, .int kn]) (n := 5) (Nat.le_of_ble_eq_true rfl)
  rw [lg_entry_eq]
  generalize (lg_sl ([.ref h, .int x, .int y, .int z, .int kn]) ++ List.replicate (5 - (lg_sl ([.ref h, .int x, .int y, .int z, .int kn])).length) Slot.unset).toArray = ls at hl ⊢
  have hl : lv_has ls 5 [(0, .ref h), (1, .int x), (2, .int y), (3, .int z), (4, .int kn)] := hl
  refine lv_aload_n hx hb dX0_add_0 rfl (lv_at hl 0 rfl) ?_
  have hPc := hP.sub (ws' := (wH cI cC cZ cS h tA dA eA hf tr de ea)) [0, 1, 2, 3] rfl
  have hDc := hD.sub (ws' := (wH cI cC cZ cS h tA dA eA hf tr de ea)) [0, 1, 2, 3] (by decide) rfl
  refine m_callR (W.runV (As := []) (rest := []) ⟨hx, hb, hml, hown, hts⟩ (c_X0_hasRoom l D cI cC cZ cS h tA dA eA hf tr de ea) (cwV 0 hts gX0_add_X0_hasRoom rfl rfl rfl (by decide +kernel) ⟨Nat.le_of_ble_eq_true rfl, Nat.le_of_ble_eq_true rfl⟩) (preV_of hPc hDc hE (va_recv hK hPc (ci := 0) (q0 := 0) rfl rfl)) rfl rfl hl.1 rfl (lv_room (Nat.le_of_ble_eq_true rfl)) dX0_add_1 ⟨Nat.zero_le _, Nat.zero_le _⟩) ?_
  refine W.eq (g2 := F0 m 4 ls [.int (d_X0_hasRoom hf)]) rfl ?_
  refine lv_if_ne (tgt := 8) hx hb dX0_add_4 (by decide) (fun c_1 => ?_) (fun c_1 => ?_)
  · skip
    rw [if_neg c_1] at hres
    have hlt : n < 7 := hasRoom_lt c_1 hn h7
    refine lv_aload_n hx hb dX0_add_8 rfl (lv_at hl 0 rfl) ?_
    refine va_get (D := D) (ci := 0) (v := .ref tA) (C := RX0) (T := TX0) (N := 9) hx hb hts hinX0 hown hK hP 0 rfl rfl 0 (by decide) (hts (.fieldLink RX0 9 "FirstOut$House" "traits" "[I") (by decide +kernel)) (fun _ h9 => h9) rfl dX0_add_9 ?_
    refine lv_aload_n hx hb dX0_add_12 rfl (lv_at hl 0 rfl) ?_
    refine va_get (D := D) (ci := 0) (v := .int (hf 3)) (C := RX0) (T := TX0) (N := 9) hx hb hts hinX0 hown hK hP 0 rfl rfl 3 (by decide) (hts (.fieldLink RX0 24 "FirstOut$House" "things" "I") (by decide +kernel)) (fun _ h9 => h9) rfl dX0_add_13 ?_
    refine lv_to (show (hf 3) = nI n from hn) ?_
    refine lv_iload_n hx hb dX0_add_16 rfl (lv_at hl 1 rfl) ?_
    refine m_iast hx hb hK hP hD hS 1 0 rfl rfl n rfl (by omega) (by decide) dX0_add_17 (fun H locs hP hD hS => ?_)
    have hP : va_P D vwCl (wH cI cC cZ cS h tA dA eA hf (upd tr n x) de ea) H := hP
    have hD : va_D A (wH cI cC cZ cS h tA dA eA hf (upd tr n x) de ea) := hD
    refine lv_aload_n hx hb dX0_add_18 rfl (lv_at hl 0 rfl) ?_
    refine va_get (D := D) (ci := 0) (v := .ref dA) (C := RX0) (T := TX0) (N := 9) hx hb hts hinX0 hown hK hP 0 rfl rfl 1 (by decide) (hts (.fieldLink RX0 15 "FirstOut$House" "dear" "[I") (by decide +kernel)) (fun _ h9 => h9) rfl dX0_add_19 ?_
    refine lv_aload_n hx hb dX0_add_22 rfl (lv_at hl 0 rfl) ?_
    refine va_get (D := D) (ci := 0) (v := .int (hf 3)) (C := RX0) (T := TX0) (N := 9) hx hb hts hinX0 hown hK hP 0 rfl rfl 3 (by decide) (hts (.fieldLink RX0 24 "FirstOut$House" "things" "I") (by decide +kernel)) (fun _ h9 => h9) rfl dX0_add_23 ?_
    refine lv_to (show (hf 3) = nI n from hn) ?_
    refine lv_iload_n hx hb dX0_add_26 rfl (lv_at hl 2 rfl) ?_
    refine m_iast hx hb hK hP hD hS 2 0 rfl rfl n rfl (by omega) (by decide) dX0_add_27 (fun H locs hP hD hS => ?_)
    have hP : va_P D vwCl (wH cI cC cZ cS h tA dA eA hf (upd tr n x) (upd de n y) ea) H := hP
    have hD : va_D A (wH cI cC cZ cS h tA dA eA hf (upd tr n x) (upd de n y) ea) := hD
    refine lv_aload_n hx hb dX0_add_28 rfl (lv_at hl 0 rfl) ?_
    refine va_get (D := D) (ci := 0) (v := .ref eA) (C := RX0) (T := TX0) (N := 9) hx hb hts hinX0 hown hK hP 0 rfl rfl 2 (by decide) (hts (.fieldLink RX0 18 "FirstOut$House" "eager" "[I") (by decide +kernel)) (fun _ h9 => h9) rfl dX0_add_29 ?_
    refine lv_aload_n hx hb dX0_add_32 rfl (lv_at hl 0 rfl) ?_
    refine va_get (D := D) (ci := 0) (v := .int (hf 3)) (C := RX0) (T := TX0) (N := 9) hx hb hts hinX0 hown hK hP 0 rfl rfl 3 (by decide) (hts (.fieldLink RX0 24 "FirstOut$House" "things" "I") (by decide +kernel)) (fun _ h9 => h9) rfl dX0_add_33 ?_
    refine lv_to (show (hf 3) = nI n from hn) ?_
    refine lv_iload_n hx hb dX0_add_36 rfl (lv_at hl 3 rfl) ?_
    refine m_iast hx hb hK hP hD hS 3 0 rfl rfl n rfl (by omega) (by decide) dX0_add_37 (fun H locs hP hD hS => ?_)
    have hP : va_P D vwCl (wH cI cC cZ cS h tA dA eA hf (upd tr n x) (upd de n y) (upd ea n z)) H := hP
    have hD : va_D A (wH cI cC cZ cS h tA dA eA hf (upd tr n x) (upd de n y) (upd ea n z)) := hD
    refine lv_aload_n hx hb dX0_add_38 rfl (lv_at hl 0 rfl) ?_
    refine lv_dup hx hb dX0_add_39 rfl ?_
    refine va_get (D := D) (ci := 0) (v := .int (hf 4)) (C := RX0) (T := TX0) (N := 9) hx hb hts hinX0 hown hK hP 0 rfl rfl 4 (by decide) (hts (.fieldLink RX0 28 "FirstOut$House" "knowing" "I") (by decide +kernel)) (fun _ h9 => h9) rfl dX0_add_40 ?_
    refine lv_iload hx hb dX0_add_43 (lv_at hl 4 rfl) ?_
    refine lv_aload_n hx hb dX0_add_45 rfl (lv_at hl 0 rfl) ?_
    refine va_get (D := D) (ci := 0) (v := .int (hf 3)) (C := RX0) (T := TX0) (N := 9) hx hb hts hinX0 hown hK hP 0 rfl rfl 3 (by decide) (hts (.fieldLink RX0 24 "FirstOut$House" "things" "I") (by decide +kernel)) (fun _ h9 => h9) rfl dX0_add_46 ?_
    refine lv_to (show (hf 3) = nI n from hn) ?_
    refine lv_ishl hx hb dX0_add_49 ?_
    refine lv_ior hx hb dX0_add_50 ?_
    refine va_put (D := D) (ci := 0) (v := .int ((hf 4) ||| (kn <<< ((nI n) &&& 31)))) (ty := .int) (C := RX0) (T := TX0) (N := 9) hx hb hts hinX0 tyX0 tyX0_ok nmX0 hown hK hP hD hS 0 rfl rfl 4 (by decide) (hts (.fieldLink RX0 28 "FirstOut$House" "knowing" "I") (by decide +kernel)) (fun _ h9 => h9) rfl (by decide +kernel) rfl rfl (Nat.le_of_ble_eq_true rfl) dX0_add_51 (fun H locs hP hD hS => ?_)
    have hP : va_P D vwCl (wH cI cC cZ cS h tA dA eA (upd hf 4 ((hf 4) ||| (kn <<< ((nI n) &&& 31)))) (upd tr n x) (upd de n y) (upd ea n z)) H := hP
    have hD : va_D A (wH cI cC cZ cS h tA dA eA (upd hf 4 ((hf 4) ||| (kn <<< ((nI n) &&& 31)))) (upd tr n x) (upd de n y) (upd ea n z)) := hD
    refine lv_aload_n hx hb dX0_add_54 rfl (lv_at hl 0 rfl) ?_
    refine lv_dup hx hb dX0_add_55 rfl ?_
    refine va_get (D := D) (ci := 0) (v := .int (hf 3)) (C := RX0) (T := TX0) (N := 9) hx hb hts hinX0 hown hK hP 0 rfl rfl 3 (by decide) (hts (.fieldLink RX0 24 "FirstOut$House" "things" "I") (by decide +kernel)) (fun _ h9 => h9) rfl dX0_add_56 ?_
    refine lv_to (show (hf 3) = nI n from hn) ?_
    refine lv_iconst (v := 1) hx hb dX0_add_59 (by decide) ?_
    refine lv_iadd hx hb dX0_add_60 ?_
    refine va_put (D := D) (ci := 0) (v := .int ((nI n) + (1 : Int32))) (ty := .int) (C := RX0) (T := TX0) (N := 9) hx hb hts hinX0 tyX0 tyX0_ok nmX0 hown hK hP hD hS 0 rfl rfl 3 (by decide) (hts (.fieldLink RX0 24 "FirstOut$House" "things" "I") (by decide +kernel)) (fun _ h9 => h9) rfl (by decide +kernel) rfl rfl (Nat.le_of_ble_eq_true rfl) dX0_add_61 (fun H locs hP hD hS => ?_)
    have hP : va_P D vwCl (wH cI cC cZ cS h tA dA eA (upd (upd hf 4 ((hf 4) ||| (kn <<< ((nI n) &&& 31)))) 3 ((nI n) + (1 : Int32))) (upd tr n x) (upd de n y) (upd ea n z)) H := hP
    have hD : va_D A (wH cI cC cZ cS h tA dA eA (upd (upd hf 4 ((hf 4) ||| (kn <<< ((nI n) &&& 31)))) 3 ((nI n) + (1 : Int32))) (upd tr n x) (upd de n y) (upd ea n z)) := hD
    rw [hres]
    exact W.vret hx hb hr (fun t ht hW => ⟨rfl, by rw [ht]; exact hP, by rw [hA]; exact hS.F ht⟩) hS.2.2 dX0_add_64
  · skip
    rw [if_pos c_1] at hres
    rw [hres]
    exact W.vret hx hb hr (fun t ht hW => ⟨rfl, by rw [ht]; exact hP, by rw [hA]; exact hS.F ht⟩) hS.2.2 dX0_add_7
def d_X3_become (u : Nat → Int32) (v : Nat → Int32) : (Nat → Int32) :=
  (upd (upd (upd (upd (upd u 0 (v 0)) 1 (v 1)) 2 (v 2)) 3 (v 3)) 4 (v 4))
set_option maxHeartbeats 4000000 in
set_option maxRecDepth 100000 in
theorem c_X3_become (l : Launch) (D : va_G) (cI cC cZ cS : ClassId) (sA : Nat) (oA : Nat) (u : Nat → Int32) (v : Nat → Int32) : Met l yX3_become wsX3_become { frames := 0, cells := 0, slots := 0, locals := 0 } (PcE D cI cC cZ cS [.ref sA, .ref oA] (wS2 cI cC cZ cS sA oA u v)) (QcM none D (wS2 cI cC cZ cS sA oA u v) (wS2 cI cC cZ cS sA oA (d_X3_become u v) v)) 0 0 (inW (wS2 cI cC cZ cS sA oA u v)) := by
  refine Met.ofW (cc := cX3_become) (maxL := 2) (ret := none) (by decide) rfl ?_
  intro p e s m args below meth c s₁ B hml hv
  obtain ⟨rfl, hP, hD, hE⟩ := hv
  have hK := hE.1
  have hx := B.exec
  have hb := B.bytes
  have hr := B.returns
  have hts := atoms_spec (ws := wsX3_become) B.pre
  have hown : s.vm.findClass RX3 = some m.cls := findClass_of_methodNamed B.named
  have hlocks := B.notSynchronized
  have hinX3 : ∀ w ∈ wsX30, w ∈ wsX3_become := by decide +kernel
  have hD := inW_self hD
  have hS : va_S (inW (wS2 cI cC cZ cS sA oA u v)) s.heap s.heap [] := va_S.rf
  generalize hA : inW (wS2 cI cC cZ cS sA oA u v) = A at hD hS ⊢
  generalize hres : d_X3_become u v = R
  replace hres := hres.symm
  rw [d_X3_become] at hres
  have hl := lv_entry ([.ref sA, .ref oA]) (n := 2) (Nat.le_of_ble_eq_true rfl)
  rw [lg_entry_eq]
  generalize (lg_sl ([.ref sA, .ref oA]) ++ List.replicate (2 - (lg_sl ([.ref sA, .ref oA])).length) Slot.unset).toArray = ls at hl ⊢
  have hl : lv_has ls 2 [(0, .ref sA), (1, .ref oA)] := hl
  refine lv_aload_n hx hb dX3_become_0 rfl (lv_at hl 0 rfl) ?_
  refine lv_aload_n hx hb dX3_become_1 rfl (lv_at hl 1 rfl) ?_
  refine va_get (D := D) (ci := 3) (v := .int (v 0)) (C := RX3) (T := TX3) (N := 5) hx hb hts hinX3 hown hK hP 1 rfl rfl 0 (by decide) (hts (.fieldLink RX3 7 "FirstOut$Standing" "words" "I") (by decide +kernel)) (fun _ h9 => h9) rfl dX3_become_2 ?_
  refine va_put (D := D) (ci := 3) (v := .int (v 0)) (ty := .int) (C := RX3) (T := TX3) (N := 5) hx hb hts hinX3 tyX3 tyX3_ok nmX3 hown hK hP hD hS 0 rfl rfl 0 (by decide) (hts (.fieldLink RX3 7 "FirstOut$Standing" "words" "I") (by decide +kernel)) (fun _ h9 => h9) rfl (by decide +kernel) rfl rfl (Nat.le_of_ble_eq_true rfl) dX3_become_5 (fun H locs hP hD hS => ?_)
  have hP : va_P D vwCl (wS2 cI cC cZ cS sA oA (upd u 0 (v 0)) v) H := hP
  have hD : va_D A (wS2 cI cC cZ cS sA oA (upd u 0 (v 0)) v) := hD
  refine lv_aload_n hx hb dX3_become_8 rfl (lv_at hl 0 rfl) ?_
  refine lv_aload_n hx hb dX3_become_9 rfl (lv_at hl 1 rfl) ?_
  refine va_get (D := D) (ci := 3) (v := .int (v 1)) (C := RX3) (T := TX3) (N := 5) hx hb hts hinX3 hown hK hP 1 rfl rfl 1 (by decide) (hts (.fieldLink RX3 13 "FirstOut$Standing" "knowing" "I") (by decide +kernel)) (fun _ h9 => h9) rfl dX3_become_10 ?_
  refine va_put (D := D) (ci := 3) (v := .int (v 1)) (ty := .int) (C := RX3) (T := TX3) (N := 5) hx hb hts hinX3 tyX3 tyX3_ok nmX3 hown hK hP hD hS 0 rfl rfl 1 (by decide) (hts (.fieldLink RX3 13 "FirstOut$Standing" "knowing" "I") (by decide +kernel)) (fun _ h9 => h9) rfl (by decide +kernel) rfl rfl (Nat.le_of_ble_eq_true rfl) dX3_become_13 (fun H locs hP hD hS => ?_)
  have hP : va_P D vwCl (wS2 cI cC cZ cS sA oA (upd (upd u 0 (v 0)) 1 (v 1)) v) H := hP
  have hD : va_D A (wS2 cI cC cZ cS sA oA (upd (upd u 0 (v 0)) 1 (v 1)) v) := hD
  refine lv_aload_n hx hb dX3_become_16 rfl (lv_at hl 0 rfl) ?_
  refine lv_aload_n hx hb dX3_become_17 rfl (lv_at hl 1 rfl) ?_
  refine va_get (D := D) (ci := 3) (v := .int (v 2)) (C := RX3) (T := TX3) (N := 5) hx hb hts hinX3 hown hK hP 1 rfl rfl 2 (by decide) (hts (.fieldLink RX3 16 "FirstOut$Standing" "kept" "I") (by decide +kernel)) (fun _ h9 => h9) rfl dX3_become_18 ?_
  refine va_put (D := D) (ci := 3) (v := .int (v 2)) (ty := .int) (C := RX3) (T := TX3) (N := 5) hx hb hts hinX3 tyX3 tyX3_ok nmX3 hown hK hP hD hS 0 rfl rfl 2 (by decide) (hts (.fieldLink RX3 16 "FirstOut$Standing" "kept" "I") (by decide +kernel)) (fun _ h9 => h9) rfl (by decide +kernel) rfl rfl (Nat.le_of_ble_eq_true rfl) dX3_become_21 (fun H locs hP hD hS => ?_)
  have hP : va_P D vwCl (wS2 cI cC cZ cS sA oA (upd (upd (upd u 0 (v 0)) 1 (v 1)) 2 (v 2)) v) H := hP
  have hD : va_D A (wS2 cI cC cZ cS sA oA (upd (upd (upd u 0 (v 0)) 1 (v 1)) 2 (v 2)) v) := hD
  refine lv_aload_n hx hb dX3_become_24 rfl (lv_at hl 0 rfl) ?_
  refine lv_aload_n hx hb dX3_become_25 rfl (lv_at hl 1 rfl) ?_
  refine va_get (D := D) (ci := 3) (v := .int (v 3)) (C := RX3) (T := TX3) (N := 5) hx hb hts hinX3 hown hK hP 1 rfl rfl 3 (by decide) (hts (.fieldLink RX3 19 "FirstOut$Standing" "given" "I") (by decide +kernel)) (fun _ h9 => h9) rfl dX3_become_26 ?_
  refine va_put (D := D) (ci := 3) (v := .int (v 3)) (ty := .int) (C := RX3) (T := TX3) (N := 5) hx hb hts hinX3 tyX3 tyX3_ok nmX3 hown hK hP hD hS 0 rfl rfl 3 (by decide) (hts (.fieldLink RX3 19 "FirstOut$Standing" "given" "I") (by decide +kernel)) (fun _ h9 => h9) rfl (by decide +kernel) rfl rfl (Nat.le_of_ble_eq_true rfl) dX3_become_29 (fun H locs hP hD hS => ?_)
  have hP : va_P D vwCl (wS2 cI cC cZ cS sA oA (upd (upd (upd (upd u 0 (v 0)) 1 (v 1)) 2 (v 2)) 3 (v 3)) v) H := hP
  have hD : va_D A (wS2 cI cC cZ cS sA oA (upd (upd (upd (upd u 0 (v 0)) 1 (v 1)) 2 (v 2)) 3 (v 3)) v) := hD
  refine lv_aload_n hx hb dX3_become_32 rfl (lv_at hl 0 rfl) ?_
  refine lv_aload_n hx hb dX3_become_33 rfl (lv_at hl 1 rfl) ?_
  refine va_get (D := D) (ci := 3) (v := .int (v 4)) (C := RX3) (T := TX3) (N := 5) hx hb hts hinX3 hown hK hP 1 rfl rfl 4 (by decide) (hts (.fieldLink RX3 22 "FirstOut$Standing" "date" "I") (by decide +kernel)) (fun _ h9 => h9) rfl dX3_become_34 ?_
  refine va_put (D := D) (ci := 3) (v := .int (v 4)) (ty := .int) (C := RX3) (T := TX3) (N := 5) hx hb hts hinX3 tyX3 tyX3_ok nmX3 hown hK hP hD hS 0 rfl rfl 4 (by decide) (hts (.fieldLink RX3 22 "FirstOut$Standing" "date" "I") (by decide +kernel)) (fun _ h9 => h9) rfl (by decide +kernel) rfl rfl (Nat.le_of_ble_eq_true rfl) dX3_become_37 (fun H locs hP hD hS => ?_)
  have hP : va_P D vwCl (wS2 cI cC cZ cS sA oA (upd (upd (upd (upd (upd u 0 (v 0)) 1 (v 1)) 2 (v 2)) 3 (v 3)) 4 (v 4)) v) H := hP
  have hD : va_D A (wS2 cI cC cZ cS sA oA (upd (upd (upd (upd (upd u 0 (v 0)) 1 (v 1)) 2 (v 2)) 3 (v 3)) 4 (v 4)) v) := hD
  rw [hres]
  exact W.vret hx hb hr (fun t ht hW => ⟨rfl, by rw [ht]; exact hP, by rw [hA]; exact hS.F ht⟩) hS.2.2 dX3_become_40
def d_X2_add (sf : Nat → Int32) (wh : Nat → Int32) (gv : Nat → Int32) (t : Int32) (g : Int32) (sk : Nat) : Int32 × (Nat → Int32) × (Nat → Int32) × (Nat → Int32) :=
  if (nI sk) < (6 : Int32) then
      (1, (upd sf 2 ((nI sk) + (1 : Int32))), (upd wh sk t), (upd gv sk g))
    else
      (0, sf, wh, gv)
set_option maxHeartbeats 4000000 in
set_option maxRecDepth 100000 in
theorem c_X2_add (l : Launch) (D : va_G) (cI cC cZ cS : ClassId) (nA : Nat) (wA : Nat) (gA : Nat) (sf : Nat → Int32) (wh : Nat → Int32) (gv : Nat → Int32) (t : Int32) (g : Int32) (sk : Nat) (hsk : sf 2 = nI sk) (hs6 : sk ≤ 6) : Met l yX2_add wsX2_add { frames := 0, cells := 0, slots := 0, locals := 0 } (PcE D cI cC cZ cS [.ref nA, .int t, .int g] (wN cI cC cZ cS nA wA gA sf wh gv)) (QcM (some (.int ((d_X2_add sf wh gv t g sk).1))) D (wN cI cC cZ cS nA wA gA sf wh gv) (wN cI cC cZ cS nA wA gA ((d_X2_add sf wh gv t g sk).2.1) ((d_X2_add sf wh gv t g sk).2.2.1) ((d_X2_add sf wh gv t g sk).2.2.2))) 0 0 (inW (wN cI cC cZ cS nA wA gA sf wh gv)) := by
  refine Met.ofW (cc := cX2_add) (maxL := 3) (ret := (some .boolean)) (by decide) rfl ?_
  intro p e s m args below meth c s₁ B hml hv
  obtain ⟨rfl, hP, hD, hE⟩ := hv
  have hK := hE.1
  have hx := B.exec
  have hb := B.bytes
  have hr := B.returns
  have hts := atoms_spec (ws := wsX2_add) B.pre
  have hown : s.vm.findClass RX2 = some m.cls := findClass_of_methodNamed B.named
  have hlocks := B.notSynchronized
  have hinX2 : ∀ w ∈ wsX20, w ∈ wsX2_add := by decide +kernel
  have hD := inW_self hD
  have hS : va_S (inW (wN cI cC cZ cS nA wA gA sf wh gv)) s.heap s.heap [] := va_S.rf
  generalize hA : inW (wN cI cC cZ cS nA wA gA sf wh gv) = A at hD hS ⊢
  generalize hres : d_X2_add sf wh gv t g sk = R
  replace hres := hres.symm
  rw [d_X2_add] at hres
  have hl := lv_entry ([.ref nA, .int t, .int g]) (n := 3) (Nat.le_of_ble_eq_true rfl)
  rw [lg_entry_eq]
  generalize (lg_sl ([.ref nA, .int t, .int g]) ++ List.replicate (3 - (lg_sl ([.ref nA, .int t, .int g])).length) Slot.unset).toArray = ls at hl ⊢
  have hl : lv_has ls 3 [(0, .ref nA), (1, .int t), (2, .int g)] := hl
  refine lv_aload_n hx hb dX2_add_0 rfl (lv_at hl 0 rfl) ?_
  refine va_get (D := D) (ci := 2) (v := .int (sf 2)) (C := RX2) (T := TX2) (N := 3) hx hb hts hinX2 hown hK hP 0 rfl rfl 2 (by decide) (hts (.fieldLink RX2 18 "FirstOut$Seen" "known" "I") (by decide +kernel)) (fun _ h9 => h9) rfl dX2_add_1 ?_
  refine lv_to (show (sf 2) = nI sk from hsk) ?_
  refine lv_bipush (v := 6) hx hb dX2_add_4 (by decide) ?_
  refine lv_icmp_lt (tgt := 11) hx hb dX2_add_6 (by decide) (fun c_1 => ?_) (fun c_1 => ?_)
  · skip
    rw [if_pos c_1] at hres
    have hlt : sk < 6 := (nI_ltI (b := 6) (by omega) (by omega)).mp c_1
    refine lv_aload_n hx hb dX2_add_11 rfl (lv_at hl 0 rfl) ?_
    refine va_get (D := D) (ci := 2) (v := .ref wA) (C := RX2) (T := TX2) (N := 3) hx hb hts hinX2 hown hK hP 0 rfl rfl 0 (by decide) (hts (.fieldLink RX2 9 "FirstOut$Seen" "who" "[I") (by decide +kernel)) (fun _ h9 => h9) rfl dX2_add_12 ?_
    refine lv_aload_n hx hb dX2_add_15 rfl (lv_at hl 0 rfl) ?_
    refine va_get (D := D) (ci := 2) (v := .int (sf 2)) (C := RX2) (T := TX2) (N := 3) hx hb hts hinX2 hown hK hP 0 rfl rfl 2 (by decide) (hts (.fieldLink RX2 18 "FirstOut$Seen" "known" "I") (by decide +kernel)) (fun _ h9 => h9) rfl dX2_add_16 ?_
    refine lv_to (show (sf 2) = nI sk from hsk) ?_
    refine lv_iload_n hx hb dX2_add_19 rfl (lv_at hl 1 rfl) ?_
    refine m_iast hx hb hK hP hD hS 1 0 rfl rfl sk rfl (by omega) (by decide) dX2_add_20 (fun H locs hP hD hS => ?_)
    have hP : va_P D vwCl (wN cI cC cZ cS nA wA gA sf (upd wh sk t) gv) H := hP
    have hD : va_D A (wN cI cC cZ cS nA wA gA sf (upd wh sk t) gv) := hD
    refine lv_aload_n hx hb dX2_add_21 rfl (lv_at hl 0 rfl) ?_
    refine va_get (D := D) (ci := 2) (v := .ref gA) (C := RX2) (T := TX2) (N := 3) hx hb hts hinX2 hown hK hP 0 rfl rfl 1 (by decide) (hts (.fieldLink RX2 15 "FirstOut$Seen" "wasGiven" "[I") (by decide +kernel)) (fun _ h9 => h9) rfl dX2_add_22 ?_
    refine lv_aload_n hx hb dX2_add_25 rfl (lv_at hl 0 rfl) ?_
    refine va_get (D := D) (ci := 2) (v := .int (sf 2)) (C := RX2) (T := TX2) (N := 3) hx hb hts hinX2 hown hK hP 0 rfl rfl 2 (by decide) (hts (.fieldLink RX2 18 "FirstOut$Seen" "known" "I") (by decide +kernel)) (fun _ h9 => h9) rfl dX2_add_26 ?_
    refine lv_to (show (sf 2) = nI sk from hsk) ?_
    refine lv_iload_n hx hb dX2_add_29 rfl (lv_at hl 2 rfl) ?_
    refine m_iast hx hb hK hP hD hS 2 0 rfl rfl sk rfl (by omega) (by decide) dX2_add_30 (fun H locs hP hD hS => ?_)
    have hP : va_P D vwCl (wN cI cC cZ cS nA wA gA sf (upd wh sk t) (upd gv sk g)) H := hP
    have hD : va_D A (wN cI cC cZ cS nA wA gA sf (upd wh sk t) (upd gv sk g)) := hD
    refine lv_aload_n hx hb dX2_add_31 rfl (lv_at hl 0 rfl) ?_
    refine lv_dup hx hb dX2_add_32 rfl ?_
    refine va_get (D := D) (ci := 2) (v := .int (sf 2)) (C := RX2) (T := TX2) (N := 3) hx hb hts hinX2 hown hK hP 0 rfl rfl 2 (by decide) (hts (.fieldLink RX2 18 "FirstOut$Seen" "known" "I") (by decide +kernel)) (fun _ h9 => h9) rfl dX2_add_33 ?_
    refine lv_to (show (sf 2) = nI sk from hsk) ?_
    refine lv_iconst (v := 1) hx hb dX2_add_36 (by decide) ?_
    refine lv_iadd hx hb dX2_add_37 ?_
    refine va_put (D := D) (ci := 2) (v := .int ((nI sk) + (1 : Int32))) (ty := .int) (C := RX2) (T := TX2) (N := 3) hx hb hts hinX2 tyX2 tyX2_ok nmX2 hown hK hP hD hS 0 rfl rfl 2 (by decide) (hts (.fieldLink RX2 18 "FirstOut$Seen" "known" "I") (by decide +kernel)) (fun _ h9 => h9) rfl (by decide +kernel) rfl rfl (Nat.le_of_ble_eq_true rfl) dX2_add_38 (fun H locs hP hD hS => ?_)
    have hP : va_P D vwCl (wN cI cC cZ cS nA wA gA (upd sf 2 ((nI sk) + (1 : Int32))) (upd wh sk t) (upd gv sk g)) H := hP
    have hD : va_D A (wN cI cC cZ cS nA wA gA (upd sf 2 ((nI sk) + (1 : Int32))) (upd wh sk t) (upd gv sk g)) := hD
    refine lv_iconst (v := 1) hx hb dX2_add_41 (by decide) ?_
    rw [hres]
    exact W.zret (v := 1) hx hb hr rfl (fun t ht hW => ⟨rfl, by rw [ht]; exact hP, by rw [hA]; exact hS.F ht⟩) hS.2.2 dX2_add_42
  · skip
    rw [if_neg c_1] at hres
    refine lv_iconst (v := 0) hx hb dX2_add_9 (by decide) ?_
    rw [hres]
    exact W.zret (v := 0) hx hb hr rfl (fun t ht hW => ⟨rfl, by rw [ht]; exact hP, by rw [hA]; exact hS.F ht⟩) hS.2.2 dX2_add_10
def lp_X2_isSoBy_2 (wh : Nat → Int32) (gv : Nat → Int32) (hav : Int32) (sk : Nat) : Nat → Nat → Int32
  | 0, _ => 0
  | k2 + 1, i => if (nI sk) ≤ (nI i) then
      1
    else
      if (d_X5_bitOf hav (wh i)) = (gv i) then
        lp_X2_isSoBy_2 wh gv hav sk k2 (i + 1)
      else
        0
def d_X2_isSoBy (wh : Nat → Int32) (gv : Nat → Int32) (hav : Int32) (sk : Nat) : Int32 :=
  lp_X2_isSoBy_2 wh gv hav sk (sk + 1) 0
set_option maxHeartbeats 4000000 in
set_option maxRecDepth 100000 in
theorem c_X2_isSoBy (l : Launch) (D : va_G) (cI cC cZ cS : ClassId) (nA : Nat) (wA : Nat) (gA : Nat) (sf : Nat → Int32) (wh : Nat → Int32) (gv : Nat → Int32) (hav : Int32) (sk : Nat) (hsk : sf 2 = nI sk) (hs6 : sk ≤ 6) : Met l yX2_isSoBy wsX2_isSoBy { frames := 1, cells := 0, slots := 0, locals := 21 } (PcE D cI cC cZ cS [.ref nA, .int hav] (wN cI cC cZ cS nA wA gA sf wh gv)) (QcR (some (.int (d_X2_isSoBy wh gv hav sk)))) 0 0 (fun _ => False) := by
  refine Met.ofW (cc := cX2_isSoBy) (maxL := 3) (ret := (some .boolean)) (by decide) rfl ?_
  intro p e s m args below meth c s₁ B hml hv
  obtain ⟨rfl, hP, hD, hE⟩ := hv
  have hK := hE.1
  have hx := B.exec
  have hb := B.bytes
  have hr := B.returns
  have hts := atoms_spec (ws := wsX2_isSoBy) B.pre
  have hown : s.vm.findClass RX2 = some m.cls := findClass_of_methodNamed B.named
  have hlocks := B.notSynchronized
  have hinX2 : ∀ w ∈ wsX20, w ∈ wsX2_isSoBy := by decide +kernel
  generalize hres : d_X2_isSoBy wh gv hav sk = R
  replace hres := hres.symm
  rw [d_X2_isSoBy] at hres
  have hl := lv_entry ([.ref nA, .int hav]) (n := 3) (Nat.le_of_ble_eq_true rfl)
  rw [lg_entry_eq]
  generalize (lg_sl ([.ref nA, .int hav]) ++ List.replicate (3 - (lg_sl ([.ref nA, .int hav])).length) Slot.unset).toArray = ls at hl ⊢
  have hl : lv_has ls 3 [(0, .ref nA), (1, .int hav)] := hl
  refine lv_iconst (v := 0) hx hb dX2_isSoBy_0 (by decide) ?_
  refine lv_istore_n (lv' := [(2, .int 0), (0, .ref nA), (1, .int hav)]) hx hb dX2_isSoBy_1 rfl hl (by decide) rfl (fun ls hl => ?_)
  have loop2 : ∀ (k2 : Nat) (i : Nat), sk - i < k2 → i ≤ sk → R = lp_X2_isSoBy_2 wh gv hav sk k2 i → ∀ ls : Array Slot, lv_has ls 3 [(0, .ref nA), (1, .int hav), (2, .int (nI i))] → W p l e (headSpec wsX2_isSoBy { frames := 1, cells := 0, slots := 0, locals := 21 }).room s m (([.ref nA, .int hav] : List Value).toArray) below meth c s.heap [] 0 0 (MQ below (QcR (some (.int R))) (([.ref nA, .int hav] : List Value).toArray) s 0 0 (fun _ => False)) (F0 m 2 ls []) := by
    intro k2
    induction k2 with
    | zero => intro i hk; exact absurd hk (Nat.not_lt_zero _)
    | succ k2 ih2 =>
      intro i hk2 hi hres ls hl
      rw [lp_X2_isSoBy_2] at hres
      refine lv_iload_n hx hb dX2_isSoBy_2 rfl (lv_at hl 2 rfl) ?_
      refine lv_aload_n hx hb dX2_isSoBy_3 rfl (lv_at hl 0 rfl) ?_
      refine va_get (D := D) (ci := 2) (v := .int (sf 2)) (C := RX2) (T := TX2) (N := 3) hx hb hts hinX2 hown hK hP 0 rfl rfl 2 (by decide) (hts (.fieldLink RX2 18 "FirstOut$Seen" "known" "I") (by decide +kernel)) (fun _ h9 => h9) rfl dX2_isSoBy_4 ?_
      refine lv_to (show (sf 2) = nI sk from hsk) ?_
      refine lv_icmp_ge (tgt := 37) hx hb dX2_isSoBy_7 (by decide) (fun c_1 => ?_) (fun c_1 => ?_)
      · skip
        rw [if_pos c_1] at hres
        refine lv_iconst (v := 1) hx hb dX2_isSoBy_37 (by decide) ?_
        rw [hres]
        exact W.zret (v := 1) hx hb hr rfl (fun t ht hW => ⟨rfl, ht⟩) (fun _ h => by cases h) dX2_isSoBy_38
      · skip
        rw [if_neg c_1] at hres
        have hlt : i < sk := nlt_of c_1 (by omega) (by omega)
        refine lv_iload_n hx hb dX2_isSoBy_10 rfl (lv_at hl 1 rfl) ?_
        refine lv_aload_n hx hb dX2_isSoBy_11 rfl (lv_at hl 0 rfl) ?_
        refine va_get (D := D) (ci := 2) (v := .ref wA) (C := RX2) (T := TX2) (N := 3) hx hb hts hinX2 hown hK hP 0 rfl rfl 0 (by decide) (hts (.fieldLink RX2 9 "FirstOut$Seen" "who" "[I") (by decide +kernel)) (fun _ h9 => h9) rfl dX2_isSoBy_12 ?_
        refine lv_iload_n hx hb dX2_isSoBy_15 rfl (lv_at hl 2 rfl) ?_
        refine m_iald hx hb hK hP 1 0 rfl rfl i rfl (by omega) (by decide) dX2_isSoBy_16 ?_
        refine lv_to (show _ = (wh i) from rfl) ?_
        have hPc := hP.sub (ws' := []) [] rfl
        have hDc := hD.sub (ws' := []) [] (by decide) rfl
        refine m_callR (cr_of (va_runSN (As := [.int hav, .int (wh i)]) (rest := []) ⟨hx, hb, hml, hown, hts⟩ (c_X5_bitOf l D cI cC cZ cS hav (wh i)) ⟨va_cnB 2 hts gX2_isSoBy_X5_bitOf_n22 rfl rfl rfl hE.2.2.1 (hts (.initialized RX5) (by decide +kernel)) (by decide +kernel) ⟨Nat.le_of_ble_eq_true rfl, Nat.le_of_ble_eq_true rfl⟩, hts (.static yX5_bitOf) (by decide +kernel), trivial⟩ (preS_of hPc hDc hE) rfl rfl hl.1 rfl (lv_room (Nat.le_of_ble_eq_true rfl)) dX2_isSoBy_17 ⟨Nat.zero_le _, Nat.zero_le _⟩)) ?_
        refine W.eq (g2 := F0 m 20 ls [.int (d_X5_bitOf hav (wh i))]) rfl ?_
        refine lv_aload_n hx hb dX2_isSoBy_20 rfl (lv_at hl 0 rfl) ?_
        refine va_get (D := D) (ci := 2) (v := .ref gA) (C := RX2) (T := TX2) (N := 3) hx hb hts hinX2 hown hK hP 0 rfl rfl 1 (by decide) (hts (.fieldLink RX2 15 "FirstOut$Seen" "wasGiven" "[I") (by decide +kernel)) (fun _ h9 => h9) rfl dX2_isSoBy_21 ?_
        refine lv_iload_n hx hb dX2_isSoBy_24 rfl (lv_at hl 2 rfl) ?_
        refine m_iald hx hb hK hP 2 0 rfl rfl i rfl (by omega) (by decide) dX2_isSoBy_25 ?_
        refine lv_to (show _ = (gv i) from rfl) ?_
        refine lv_icmp_eq (tgt := 31) hx hb dX2_isSoBy_26 (by decide) (fun c_2 => ?_) (fun c_2 => ?_)
        · skip
          rw [if_pos c_2] at hres
          refine lv_iinc (v := nI (i + 1)) (lv' := [(2, .int (nI (i + 1))), (0, .ref nA), (1, .int hav)]) hx hb dX2_isSoBy_31 hl (k := 2) rfl ((nI_add i 1)) (by decide) rfl (fun ls hl => ?_)
          refine lv_goto (tgt := 2) hx hb dX2_isSoBy_34 (by decide) ?_
          exact ih2 (i + 1) (by omega) (by omega) hres ls (lv_sub hl [1, 2, 0] rfl)
        · skip
          rw [if_neg c_2] at hres
          refine lv_iconst (v := 0) hx hb dX2_isSoBy_29 (by decide) ?_
          rw [hres]
          exact W.zret (v := 0) hx hb hr rfl (fun t ht hW => ⟨rfl, ht⟩) (fun _ h => by cases h) dX2_isSoBy_30
  exact loop2 (sk + 1) 0 (by omega) (Nat.zero_le _) hres ls (lv_sub hl [1, 2, 0] rfl)
def d_X1_push (G : Nat → Nat → Int32) : (Nat → Nat → Int32) :=
  if (G 0 1) = 0 then
      (va_up (va_up G 0 (upd (upd (G 0) 1 (((G 0 1) + (1 : Int32)) - ((G 0 1) + (1 : Int32)) / (10 : Int32) * (10 : Int32))) 2 (if (10 : Int32) < ((G 0 2) + (1 : Int32)) then (10 : Int32) else ((G 0 2) + (1 : Int32))))) 2 (d_X3_become (G 2) (G 12)))
    else
      if (G 0 1) = 1 then
        (va_up (va_up G 0 (upd (upd (G 0) 1 (((G 0 1) + (1 : Int32)) - ((G 0 1) + (1 : Int32)) / (10 : Int32) * (10 : Int32))) 2 (if (10 : Int32) < ((G 0 2) + (1 : Int32)) then (10 : Int32) else ((G 0 2) + (1 : Int32))))) 3 (d_X3_become (G 3) (G 12)))
      else
        if (G 0 1) = 2 then
          (va_up (va_up G 0 (upd (upd (G 0) 1 (((G 0 1) + (1 : Int32)) - ((G 0 1) + (1 : Int32)) / (10 : Int32) * (10 : Int32))) 2 (if (10 : Int32) < ((G 0 2) + (1 : Int32)) then (10 : Int32) else ((G 0 2) + (1 : Int32))))) 4 (d_X3_become (G 4) (G 12)))
        else
          if (G 0 1) = 3 then
            (va_up (va_up G 0 (upd (upd (G 0) 1 (((G 0 1) + (1 : Int32)) - ((G 0 1) + (1 : Int32)) / (10 : Int32) * (10 : Int32))) 2 (if (10 : Int32) < ((G 0 2) + (1 : Int32)) then (10 : Int32) else ((G 0 2) + (1 : Int32))))) 5 (d_X3_become (G 5) (G 12)))
          else
            if (G 0 1) = 4 then
              (va_up (va_up G 0 (upd (upd (G 0) 1 (((G 0 1) + (1 : Int32)) - ((G 0 1) + (1 : Int32)) / (10 : Int32) * (10 : Int32))) 2 (if (10 : Int32) < ((G 0 2) + (1 : Int32)) then (10 : Int32) else ((G 0 2) + (1 : Int32))))) 6 (d_X3_become (G 6) (G 12)))
            else
              if (G 0 1) = 5 then
                (va_up (va_up G 0 (upd (upd (G 0) 1 (((G 0 1) + (1 : Int32)) - ((G 0 1) + (1 : Int32)) / (10 : Int32) * (10 : Int32))) 2 (if (10 : Int32) < ((G 0 2) + (1 : Int32)) then (10 : Int32) else ((G 0 2) + (1 : Int32))))) 7 (d_X3_become (G 7) (G 12)))
              else
                if (G 0 1) = 6 then
                  (va_up (va_up G 0 (upd (upd (G 0) 1 (((G 0 1) + (1 : Int32)) - ((G 0 1) + (1 : Int32)) / (10 : Int32) * (10 : Int32))) 2 (if (10 : Int32) < ((G 0 2) + (1 : Int32)) then (10 : Int32) else ((G 0 2) + (1 : Int32))))) 8 (d_X3_become (G 8) (G 12)))
                else
                  if (G 0 1) = 7 then
                    (va_up (va_up G 0 (upd (upd (G 0) 1 (((G 0 1) + (1 : Int32)) - ((G 0 1) + (1 : Int32)) / (10 : Int32) * (10 : Int32))) 2 (if (10 : Int32) < ((G 0 2) + (1 : Int32)) then (10 : Int32) else ((G 0 2) + (1 : Int32))))) 9 (d_X3_become (G 9) (G 12)))
                  else
                    if (G 0 1) = 8 then
                      (va_up (va_up G 0 (upd (upd (G 0) 1 (((G 0 1) + (1 : Int32)) - ((G 0 1) + (1 : Int32)) / (10 : Int32) * (10 : Int32))) 2 (if (10 : Int32) < ((G 0 2) + (1 : Int32)) then (10 : Int32) else ((G 0 2) + (1 : Int32))))) 10 (d_X3_become (G 10) (G 12)))
                    else
                      (va_up (va_up G 0 (upd (upd (G 0) 1 (((G 0 1) + (1 : Int32)) - ((G 0 1) + (1 : Int32)) / (10 : Int32) * (10 : Int32))) 2 (if (10 : Int32) < ((G 0 2) + (1 : Int32)) then (10 : Int32) else ((G 0 2) + (1 : Int32))))) 11 (d_X3_become (G 11) (G 12)))
set_option maxHeartbeats 4000000 in
set_option maxRecDepth 100000 in
theorem c_X1_push (l : Launch) (D : va_G) (cI cC cZ cS : ClassId) (b : Nat → Nat) (G : Nat → Nat → Int32) (nx : Nat) (hnx : G 0 1 = nI nx) (hx10 : nx < 10) : Met l yX1_push wsX1_push { frames := 1, cells := 0, slots := 0, locals := 21 } (PcE D cI cC cZ cS [.ref (b 0), .ref (b 12)] (wP cI cC cZ cS b G)) (QcM none D (wP cI cC cZ cS b G) (wP cI cC cZ cS b (d_X1_push G))) 0 0 (inW (wP cI cC cZ cS b G)) := by
  refine Met.ofW (cc := cX1_push) (maxL := 2) (ret := none) (by decide) rfl ?_
  intro p e s m args below meth c s₁ B hml hv
  obtain ⟨rfl, hP, hD, hE⟩ := hv
  have hK := hE.1
  have hx := B.exec
  have hb := B.bytes
  have hr := B.returns
  have hts := atoms_spec (ws := wsX1_push) B.pre
  have hown : s.vm.findClass RX1 = some m.cls := findClass_of_methodNamed B.named
  have hlocks := B.notSynchronized
  have hinX1 : ∀ w ∈ wsX10, w ∈ wsX1_push := by decide +kernel
  have hD := inW_self hD
  have hS : va_S (inW (wP cI cC cZ cS b G)) s.heap s.heap [] := va_S.rf
  generalize hA : inW (wP cI cC cZ cS b G) = A at hD hS ⊢
  generalize hres : d_X1_push G = R
  replace hres := hres.symm
  rw [d_X1_push] at hres
  have hl := lv_entry ([.ref (b 0), .ref (b 12)]) (n := 2) (Nat.le_of_ble_eq_true rfl)
  rw [lg_entry_eq]
  generalize (lg_sl ([.ref (b 0), .ref (b 12)]) ++ List.replicate (2 - (lg_sl ([.ref (b 0), .ref (b 12)])).length) Slot.unset).toArray = ls at hl ⊢
  have hl : lv_has ls 2 [(0, .ref (b 0)), (1, .ref (b 12))] := hl
  by_cases c_1 : (G 0 1) = 0
  · rw [if_pos c_1] at hres
    refine lv_aload_n hx hb dX1_push_0 rfl (lv_at hl 0 rfl) ?_
    refine va_get (D := D) (ci := 1) (v := .ref (b 1)) (C := RX1) (T := TX1) (N := 3) hx hb hts hinX1 hown hK hP 0 rfl rfl 0 (by decide) (hts (.fieldLink RX1 11 "FirstOut$Past" "steps" "[LFirstOut$Standing;") (by decide +kernel)) (fun _ h9 => h9) rfl dX1_push_1 ?_
    refine lv_aload_n hx hb dX1_push_4 rfl (lv_at hl 0 rfl) ?_
    refine va_get (D := D) (ci := 1) (v := .int (G 0 1)) (C := RX1) (T := TX1) (N := 3) hx hb hts hinX1 hown hK hP 0 rfl rfl 1 (by decide) (hts (.fieldLink RX1 18 "FirstOut$Past" "next" "I") (by decide +kernel)) (fun _ h9 => h9) rfl dX1_push_5 ?_
    refine m_aald hx hb hK hP 1 3 rfl rfl 0 c_1 (by decide) (by decide) (r := (b 2)) rfl dX1_push_8 ?_
    refine lv_aload_n hx hb dX1_push_9 rfl (lv_at hl 1 rfl) ?_
    have hPc := hP.sub (ws' := (wS2 cI cC cZ cS (b 2) (b 12) (G 2) (G 12))) [2, 12] rfl
    have hDc := hD.sub (ws' := (wS2 cI cC cZ cS (b 2) (b 12) (G 2) (G 12))) [2, 12] (by decide) rfl
    refine m_callM (W.runV (As := [.ref (b 12)]) (rest := []) ⟨hx, hb, hml, hown, hts⟩ (c_X3_become l D cI cC cZ cS (b 2) (b 12) (G 2) (G 12)) (cwV 1 hts gX1_push_X3_become rfl rfl rfl (by decide +kernel) ⟨Nat.le_of_ble_eq_true rfl, Nat.le_of_ble_eq_true rfl⟩) (preV_of hPc hDc hE (va_recv hK hPc (ci := 3) (q0 := 0) rfl rfl)) rfl rfl hl.1 rfl (lv_room (Nat.le_of_ble_eq_true rfl)) dX1_push_10 ⟨Nat.zero_le _, Nat.zero_le _⟩) hP hD hS [2, 12] rfl rfl (fun H locs hP hD hS => ?_)
    have hP : va_P D vwCl (wP cI cC cZ cS b (va_up G 2 (d_X3_become (G 2) (G 12)))) H := hP
    have hD : va_D A (wP cI cC cZ cS b (va_up G 2 (d_X3_become (G 2) (G 12)))) := hD
    refine W.eq (g2 := F0 m 13 ls []) rfl ?_
    refine lv_aload_n hx hb dX1_push_13 rfl (lv_at hl 0 rfl) ?_
    refine lv_aload_n hx hb dX1_push_14 rfl (lv_at hl 0 rfl) ?_
    refine va_get (D := D) (ci := 1) (v := .int (G 0 1)) (C := RX1) (T := TX1) (N := 3) hx hb hts hinX1 hown hK hP 0 rfl rfl 1 (by decide) (hts (.fieldLink RX1 18 "FirstOut$Past" "next" "I") (by decide +kernel)) (fun _ h9 => h9) rfl dX1_push_15 ?_
    refine lv_iconst (v := 1) hx hb dX1_push_18 (by decide) ?_
    refine lv_iadd hx hb dX1_push_19 ?_
    refine lv_bipush (v := 10) hx hb dX1_push_20 (by decide) ?_
    refine lv_irem hx hb dX1_push_22 (by decide) ?_
    refine va_put (D := D) (ci := 1) (v := .int (((G 0 1) + (1 : Int32)) - ((G 0 1) + (1 : Int32)) / (10 : Int32) * (10 : Int32))) (ty := .int) (C := RX1) (T := TX1) (N := 3) hx hb hts hinX1 tyX1 tyX1_ok nmX1 hown hK hP hD hS 0 rfl rfl 1 (by decide) (hts (.fieldLink RX1 18 "FirstOut$Past" "next" "I") (by decide +kernel)) (fun _ h9 => h9) rfl (by decide +kernel) rfl rfl (Nat.le_of_ble_eq_true rfl) dX1_push_23 (fun H locs hP hD hS => ?_)
    have hP : va_P D vwCl (wP cI cC cZ cS b (va_up (va_up G 0 (upd (G 0) 1 (((G 0 1) + (1 : Int32)) - ((G 0 1) + (1 : Int32)) / (10 : Int32) * (10 : Int32)))) 2 (d_X3_become (G 2) (G 12)))) H := hP
    have hD : va_D A (wP cI cC cZ cS b (va_up (va_up G 0 (upd (G 0) 1 (((G 0 1) + (1 : Int32)) - ((G 0 1) + (1 : Int32)) / (10 : Int32) * (10 : Int32)))) 2 (d_X3_become (G 2) (G 12)))) := hD
    refine lv_aload_n hx hb dX1_push_26 rfl (lv_at hl 0 rfl) ?_
    refine lv_aload_n hx hb dX1_push_27 rfl (lv_at hl 0 rfl) ?_
    refine va_get (D := D) (ci := 1) (v := .int (G 0 2)) (C := RX1) (T := TX1) (N := 3) hx hb hts hinX1 hown hK hP 0 rfl rfl 2 (by decide) (hts (.fieldLink RX1 26 "FirstOut$Past" "known" "I") (by decide +kernel)) (fun _ h9 => h9) rfl dX1_push_28 ?_
    refine lv_iconst (v := 1) hx hb dX1_push_31 (by decide) ?_
    refine lv_iadd hx hb dX1_push_32 ?_
    refine lv_bipush (v := 10) hx hb dX1_push_33 (by decide) ?_
    refine va_mmin hx hb (by rw [hml]; exact hl.1.symm) hown (hts (.methodLink RX1 29 Lib.Math.min.name) (by decide +kernel)) (hts (.static Lib.Math.min.name) (by decide +kernel)) (hts (.initialized "java/lang/Math") (by decide +kernel)) (hts (.code Lib.Math.min.name Lib.Math.min.code 2 (some .int)) (by decide +kernel)) (Nat.le_of_ble_eq_true rfl) (Nat.le_of_ble_eq_true rfl) (Nat.zero_le _) (Nat.zero_le _) dX1_push_35 ?_
    refine va_put (D := D) (ci := 1) (v := .int (if (10 : Int32) < ((G 0 2) + (1 : Int32)) then (10 : Int32) else ((G 0 2) + (1 : Int32)))) (ty := .int) (C := RX1) (T := TX1) (N := 3) hx hb hts hinX1 tyX1 tyX1_ok nmX1 hown hK hP hD hS 0 rfl rfl 2 (by decide) (hts (.fieldLink RX1 26 "FirstOut$Past" "known" "I") (by decide +kernel)) (fun _ h9 => h9) rfl (by decide +kernel) rfl rfl (Nat.le_of_ble_eq_true rfl) dX1_push_38 (fun H locs hP hD hS => ?_)
    have hP : va_P D vwCl (wP cI cC cZ cS b (va_up (va_up G 0 (upd (upd (G 0) 1 (((G 0 1) + (1 : Int32)) - ((G 0 1) + (1 : Int32)) / (10 : Int32) * (10 : Int32))) 2 (if (10 : Int32) < ((G 0 2) + (1 : Int32)) then (10 : Int32) else ((G 0 2) + (1 : Int32))))) 2 (d_X3_become (G 2) (G 12)))) H := hP
    have hD : va_D A (wP cI cC cZ cS b (va_up (va_up G 0 (upd (upd (G 0) 1 (((G 0 1) + (1 : Int32)) - ((G 0 1) + (1 : Int32)) / (10 : Int32) * (10 : Int32))) 2 (if (10 : Int32) < ((G 0 2) + (1 : Int32)) then (10 : Int32) else ((G 0 2) + (1 : Int32))))) 2 (d_X3_become (G 2) (G 12)))) := hD
    rw [hres]
    exact W.vret hx hb hr (fun t ht hW => ⟨rfl, by rw [ht]; exact hP, by rw [hA]; exact hS.F ht⟩) hS.2.2 dX1_push_41
  · rw [if_neg c_1] at hres
    by_cases c_2 : (G 0 1) = 1
    · rw [if_pos c_2] at hres
      refine lv_aload_n hx hb dX1_push_0 rfl (lv_at hl 0 rfl) ?_
      refine va_get (D := D) (ci := 1) (v := .ref (b 1)) (C := RX1) (T := TX1) (N := 3) hx hb hts hinX1 hown hK hP 0 rfl rfl 0 (by decide) (hts (.fieldLink RX1 11 "FirstOut$Past" "steps" "[LFirstOut$Standing;") (by decide +kernel)) (fun _ h9 => h9) rfl dX1_push_1 ?_
      refine lv_aload_n hx hb dX1_push_4 rfl (lv_at hl 0 rfl) ?_
      refine va_get (D := D) (ci := 1) (v := .int (G 0 1)) (C := RX1) (T := TX1) (N := 3) hx hb hts hinX1 hown hK hP 0 rfl rfl 1 (by decide) (hts (.fieldLink RX1 18 "FirstOut$Past" "next" "I") (by decide +kernel)) (fun _ h9 => h9) rfl dX1_push_5 ?_
      refine m_aald hx hb hK hP 1 3 rfl rfl 1 c_2 (by decide) (by decide) (r := (b 3)) rfl dX1_push_8 ?_
      refine lv_aload_n hx hb dX1_push_9 rfl (lv_at hl 1 rfl) ?_
      have hPc := hP.sub (ws' := (wS2 cI cC cZ cS (b 3) (b 12) (G 3) (G 12))) [3, 12] rfl
      have hDc := hD.sub (ws' := (wS2 cI cC cZ cS (b 3) (b 12) (G 3) (G 12))) [3, 12] (by decide) rfl
      refine m_callM (W.runV (As := [.ref (b 12)]) (rest := []) ⟨hx, hb, hml, hown, hts⟩ (c_X3_become l D cI cC cZ cS (b 3) (b 12) (G 3) (G 12)) (cwV 1 hts gX1_push_X3_become rfl rfl rfl (by decide +kernel) ⟨Nat.le_of_ble_eq_true rfl, Nat.le_of_ble_eq_true rfl⟩) (preV_of hPc hDc hE (va_recv hK hPc (ci := 3) (q0 := 0) rfl rfl)) rfl rfl hl.1 rfl (lv_room (Nat.le_of_ble_eq_true rfl)) dX1_push_10 ⟨Nat.zero_le _, Nat.zero_le _⟩) hP hD hS [3, 12] rfl rfl (fun H locs hP hD hS => ?_)
      have hP : va_P D vwCl (wP cI cC cZ cS b (va_up G 3 (d_X3_become (G 3) (G 12)))) H := hP
      have hD : va_D A (wP cI cC cZ cS b (va_up G 3 (d_X3_become (G 3) (G 12)))) := hD
      refine W.eq (g2 := F0 m 13 ls []) rfl ?_
      refine lv_aload_n hx hb dX1_push_13 rfl (lv_at hl 0 rfl) ?_
      refine lv_aload_n hx hb dX1_push_14 rfl (lv_at hl 0 rfl) ?_
      refine va_get (D := D) (ci := 1) (v := .int (G 0 1)) (C := RX1) (T := TX1) (N := 3) hx hb hts hinX1 hown hK hP 0 rfl rfl 1 (by decide) (hts (.fieldLink RX1 18 "FirstOut$Past" "next" "I") (by decide +kernel)) (fun _ h9 => h9) rfl dX1_push_15 ?_
      refine lv_iconst (v := 1) hx hb dX1_push_18 (by decide) ?_
      refine lv_iadd hx hb dX1_push_19 ?_
      refine lv_bipush (v := 10) hx hb dX1_push_20 (by decide) ?_
      refine lv_irem hx hb dX1_push_22 (by decide) ?_
      refine va_put (D := D) (ci := 1) (v := .int (((G 0 1) + (1 : Int32)) - ((G 0 1) + (1 : Int32)) / (10 : Int32) * (10 : Int32))) (ty := .int) (C := RX1) (T := TX1) (N := 3) hx hb hts hinX1 tyX1 tyX1_ok nmX1 hown hK hP hD hS 0 rfl rfl 1 (by decide) (hts (.fieldLink RX1 18 "FirstOut$Past" "next" "I") (by decide +kernel)) (fun _ h9 => h9) rfl (by decide +kernel) rfl rfl (Nat.le_of_ble_eq_true rfl) dX1_push_23 (fun H locs hP hD hS => ?_)
      have hP : va_P D vwCl (wP cI cC cZ cS b (va_up (va_up G 0 (upd (G 0) 1 (((G 0 1) + (1 : Int32)) - ((G 0 1) + (1 : Int32)) / (10 : Int32) * (10 : Int32)))) 3 (d_X3_become (G 3) (G 12)))) H := hP
      have hD : va_D A (wP cI cC cZ cS b (va_up (va_up G 0 (upd (G 0) 1 (((G 0 1) + (1 : Int32)) - ((G 0 1) + (1 : Int32)) / (10 : Int32) * (10 : Int32)))) 3 (d_X3_become (G 3) (G 12)))) := hD
      refine lv_aload_n hx hb dX1_push_26 rfl (lv_at hl 0 rfl) ?_
      refine lv_aload_n hx hb dX1_push_27 rfl (lv_at hl 0 rfl) ?_
      refine va_get (D := D) (ci := 1) (v := .int (G 0 2)) (C := RX1) (T := TX1) (N := 3) hx hb hts hinX1 hown hK hP 0 rfl rfl 2 (by decide) (hts (.fieldLink RX1 26 "FirstOut$Past" "known" "I") (by decide +kernel)) (fun _ h9 => h9) rfl dX1_push_28 ?_
      refine lv_iconst (v := 1) hx hb dX1_push_31 (by decide) ?_
      refine lv_iadd hx hb dX1_push_32 ?_
      refine lv_bipush (v := 10) hx hb dX1_push_33 (by decide) ?_
      refine va_mmin hx hb (by rw [hml]; exact hl.1.symm) hown (hts (.methodLink RX1 29 Lib.Math.min.name) (by decide +kernel)) (hts (.static Lib.Math.min.name) (by decide +kernel)) (hts (.initialized "java/lang/Math") (by decide +kernel)) (hts (.code Lib.Math.min.name Lib.Math.min.code 2 (some .int)) (by decide +kernel)) (Nat.le_of_ble_eq_true rfl) (Nat.le_of_ble_eq_true rfl) (Nat.zero_le _) (Nat.zero_le _) dX1_push_35 ?_
      refine va_put (D := D) (ci := 1) (v := .int (if (10 : Int32) < ((G 0 2) + (1 : Int32)) then (10 : Int32) else ((G 0 2) + (1 : Int32)))) (ty := .int) (C := RX1) (T := TX1) (N := 3) hx hb hts hinX1 tyX1 tyX1_ok nmX1 hown hK hP hD hS 0 rfl rfl 2 (by decide) (hts (.fieldLink RX1 26 "FirstOut$Past" "known" "I") (by decide +kernel)) (fun _ h9 => h9) rfl (by decide +kernel) rfl rfl (Nat.le_of_ble_eq_true rfl) dX1_push_38 (fun H locs hP hD hS => ?_)
      have hP : va_P D vwCl (wP cI cC cZ cS b (va_up (va_up G 0 (upd (upd (G 0) 1 (((G 0 1) + (1 : Int32)) - ((G 0 1) + (1 : Int32)) / (10 : Int32) * (10 : Int32))) 2 (if (10 : Int32) < ((G 0 2) + (1 : Int32)) then (10 : Int32) else ((G 0 2) + (1 : Int32))))) 3 (d_X3_become (G 3) (G 12)))) H := hP
      have hD : va_D A (wP cI cC cZ cS b (va_up (va_up G 0 (upd (upd (G 0) 1 (((G 0 1) + (1 : Int32)) - ((G 0 1) + (1 : Int32)) / (10 : Int32) * (10 : Int32))) 2 (if (10 : Int32) < ((G 0 2) + (1 : Int32)) then (10 : Int32) else ((G 0 2) + (1 : Int32))))) 3 (d_X3_become (G 3) (G 12)))) := hD
      rw [hres]
      exact W.vret hx hb hr (fun t ht hW => ⟨rfl, by rw [ht]; exact hP, by rw [hA]; exact hS.F ht⟩) hS.2.2 dX1_push_41
    · rw [if_neg c_2] at hres
      by_cases c_3 : (G 0 1) = 2
      · rw [if_pos c_3] at hres
        refine lv_aload_n hx hb dX1_push_0 rfl (lv_at hl 0 rfl) ?_
        refine va_get (D := D) (ci := 1) (v := .ref (b 1)) (C := RX1) (T := TX1) (N := 3) hx hb hts hinX1 hown hK hP 0 rfl rfl 0 (by decide) (hts (.fieldLink RX1 11 "FirstOut$Past" "steps" "[LFirstOut$Standing;") (by decide +kernel)) (fun _ h9 => h9) rfl dX1_push_1 ?_
        refine lv_aload_n hx hb dX1_push_4 rfl (lv_at hl 0 rfl) ?_
        refine va_get (D := D) (ci := 1) (v := .int (G 0 1)) (C := RX1) (T := TX1) (N := 3) hx hb hts hinX1 hown hK hP 0 rfl rfl 1 (by decide) (hts (.fieldLink RX1 18 "FirstOut$Past" "next" "I") (by decide +kernel)) (fun _ h9 => h9) rfl dX1_push_5 ?_
        refine m_aald hx hb hK hP 1 3 rfl rfl 2 c_3 (by decide) (by decide) (r := (b 4)) rfl dX1_push_8 ?_
        refine lv_aload_n hx hb dX1_push_9 rfl (lv_at hl 1 rfl) ?_
        have hPc := hP.sub (ws' := (wS2 cI cC cZ cS (b 4) (b 12) (G 4) (G 12))) [4, 12] rfl
        have hDc := hD.sub (ws' := (wS2 cI cC cZ cS (b 4) (b 12) (G 4) (G 12))) [4, 12] (by decide) rfl
        refine m_callM (W.runV (As := [.ref (b 12)]) (rest := []) ⟨hx, hb, hml, hown, hts⟩ (c_X3_become l D cI cC cZ cS (b 4) (b 12) (G 4) (G 12)) (cwV 1 hts gX1_push_X3_become rfl rfl rfl (by decide +kernel) ⟨Nat.le_of_ble_eq_true rfl, Nat.le_of_ble_eq_true rfl⟩) (preV_of hPc hDc hE (va_recv hK hPc (ci := 3) (q0 := 0) rfl rfl)) rfl rfl hl.1 rfl (lv_room (Nat.le_of_ble_eq_true rfl)) dX1_push_10 ⟨Nat.zero_le _, Nat.zero_le _⟩) hP hD hS [4, 12] rfl rfl (fun H locs hP hD hS => ?_)
        have hP : va_P D vwCl (wP cI cC cZ cS b (va_up G 4 (d_X3_become (G 4) (G 12)))) H := hP
        have hD : va_D A (wP cI cC cZ cS b (va_up G 4 (d_X3_become (G 4) (G 12)))) := hD
        refine W.eq (g2 := F0 m 13 ls []) rfl ?_
        refine lv_aload_n hx hb dX1_push_13 rfl (lv_at hl 0 rfl) ?_
        refine lv_aload_n hx hb dX1_push_14 rfl (lv_at hl 0 rfl) ?_
        refine va_get (D := D) (ci := 1) (v := .int (G 0 1)) (C := RX1) (T := TX1) (N := 3) hx hb hts hinX1 hown hK hP 0 rfl rfl 1 (by decide) (hts (.fieldLink RX1 18 "FirstOut$Past" "next" "I") (by decide +kernel)) (fun _ h9 => h9) rfl dX1_push_15 ?_
        refine lv_iconst (v := 1) hx hb dX1_push_18 (by decide) ?_
        refine lv_iadd hx hb dX1_push_19 ?_
        refine lv_bipush (v := 10) hx hb dX1_push_20 (by decide) ?_
        refine lv_irem hx hb dX1_push_22 (by decide) ?_
        refine va_put (D := D) (ci := 1) (v := .int (((G 0 1) + (1 : Int32)) - ((G 0 1) + (1 : Int32)) / (10 : Int32) * (10 : Int32))) (ty := .int) (C := RX1) (T := TX1) (N := 3) hx hb hts hinX1 tyX1 tyX1_ok nmX1 hown hK hP hD hS 0 rfl rfl 1 (by decide) (hts (.fieldLink RX1 18 "FirstOut$Past" "next" "I") (by decide +kernel)) (fun _ h9 => h9) rfl (by decide +kernel) rfl rfl (Nat.le_of_ble_eq_true rfl) dX1_push_23 (fun H locs hP hD hS => ?_)
        have hP : va_P D vwCl (wP cI cC cZ cS b (va_up (va_up G 0 (upd (G 0) 1 (((G 0 1) + (1 : Int32)) - ((G 0 1) + (1 : Int32)) / (10 : Int32) * (10 : Int32)))) 4 (d_X3_become (G 4) (G 12)))) H := hP
        have hD : va_D A (wP cI cC cZ cS b (va_up (va_up G 0 (upd (G 0) 1 (((G 0 1) + (1 : Int32)) - ((G 0 1) + (1 : Int32)) / (10 : Int32) * (10 : Int32)))) 4 (d_X3_become (G 4) (G 12)))) := hD
        refine lv_aload_n hx hb dX1_push_26 rfl (lv_at hl 0 rfl) ?_
        refine lv_aload_n hx hb dX1_push_27 rfl (lv_at hl 0 rfl) ?_
        refine va_get (D := D) (ci := 1) (v := .int (G 0 2)) (C := RX1) (T := TX1) (N := 3) hx hb hts hinX1 hown hK hP 0 rfl rfl 2 (by decide) (hts (.fieldLink RX1 26 "FirstOut$Past" "known" "I") (by decide +kernel)) (fun _ h9 => h9) rfl dX1_push_28 ?_
        refine lv_iconst (v := 1) hx hb dX1_push_31 (by decide) ?_
        refine lv_iadd hx hb dX1_push_32 ?_
        refine lv_bipush (v := 10) hx hb dX1_push_33 (by decide) ?_
        refine va_mmin hx hb (by rw [hml]; exact hl.1.symm) hown (hts (.methodLink RX1 29 Lib.Math.min.name) (by decide +kernel)) (hts (.static Lib.Math.min.name) (by decide +kernel)) (hts (.initialized "java/lang/Math") (by decide +kernel)) (hts (.code Lib.Math.min.name Lib.Math.min.code 2 (some .int)) (by decide +kernel)) (Nat.le_of_ble_eq_true rfl) (Nat.le_of_ble_eq_true rfl) (Nat.zero_le _) (Nat.zero_le _) dX1_push_35 ?_
        refine va_put (D := D) (ci := 1) (v := .int (if (10 : Int32) < ((G 0 2) + (1 : Int32)) then (10 : Int32) else ((G 0 2) + (1 : Int32)))) (ty := .int) (C := RX1) (T := TX1) (N := 3) hx hb hts hinX1 tyX1 tyX1_ok nmX1 hown hK hP hD hS 0 rfl rfl 2 (by decide) (hts (.fieldLink RX1 26 "FirstOut$Past" "known" "I") (by decide +kernel)) (fun _ h9 => h9) rfl (by decide +kernel) rfl rfl (Nat.le_of_ble_eq_true rfl) dX1_push_38 (fun H locs hP hD hS => ?_)
        have hP : va_P D vwCl (wP cI cC cZ cS b (va_up (va_up G 0 (upd (upd (G 0) 1 (((G 0 1) + (1 : Int32)) - ((G 0 1) + (1 : Int32)) / (10 : Int32) * (10 : Int32))) 2 (if (10 : Int32) < ((G 0 2) + (1 : Int32)) then (10 : Int32) else ((G 0 2) + (1 : Int32))))) 4 (d_X3_become (G 4) (G 12)))) H := hP
        have hD : va_D A (wP cI cC cZ cS b (va_up (va_up G 0 (upd (upd (G 0) 1 (((G 0 1) + (1 : Int32)) - ((G 0 1) + (1 : Int32)) / (10 : Int32) * (10 : Int32))) 2 (if (10 : Int32) < ((G 0 2) + (1 : Int32)) then (10 : Int32) else ((G 0 2) + (1 : Int32))))) 4 (d_X3_become (G 4) (G 12)))) := hD
        rw [hres]
        exact W.vret hx hb hr (fun t ht hW => ⟨rfl, by rw [ht]; exact hP, by rw [hA]; exact hS.F ht⟩) hS.2.2 dX1_push_41
      · rw [if_neg c_3] at hres
        by_cases c_4 : (G 0 1) = 3
        · rw [if_pos c_4] at hres
          refine lv_aload_n hx hb dX1_push_0 rfl (lv_at hl 0 rfl) ?_
          refine va_get (D := D) (ci := 1) (v := .ref (b 1)) (C := RX1) (T := TX1) (N := 3) hx hb hts hinX1 hown hK hP 0 rfl rfl 0 (by decide) (hts (.fieldLink RX1 11 "FirstOut$Past" "steps" "[LFirstOut$Standing;") (by decide +kernel)) (fun _ h9 => h9) rfl dX1_push_1 ?_
          refine lv_aload_n hx hb dX1_push_4 rfl (lv_at hl 0 rfl) ?_
          refine va_get (D := D) (ci := 1) (v := .int (G 0 1)) (C := RX1) (T := TX1) (N := 3) hx hb hts hinX1 hown hK hP 0 rfl rfl 1 (by decide) (hts (.fieldLink RX1 18 "FirstOut$Past" "next" "I") (by decide +kernel)) (fun _ h9 => h9) rfl dX1_push_5 ?_
          refine m_aald hx hb hK hP 1 3 rfl rfl 3 c_4 (by decide) (by decide) (r := (b 5)) rfl dX1_push_8 ?_
          refine lv_aload_n hx hb dX1_push_9 rfl (lv_at hl 1 rfl) ?_
          have hPc := hP.sub (ws' := (wS2 cI cC cZ cS (b 5) (b 12) (G 5) (G 12))) [5, 12] rfl
          have hDc := hD.sub (ws' := (wS2 cI cC cZ cS (b 5) (b 12) (G 5) (G 12))) [5, 12] (by decide) rfl
          refine m_callM (W.runV (As := [.ref (b 12)]) (rest := []) ⟨hx, hb, hml, hown, hts⟩ (c_X3_become l D cI cC cZ cS (b 5) (b 12) (G 5) (G 12)) (cwV 1 hts gX1_push_X3_become rfl rfl rfl (by decide +kernel) ⟨Nat.le_of_ble_eq_true rfl, Nat.le_of_ble_eq_true rfl⟩) (preV_of hPc hDc hE (va_recv hK hPc (ci := 3) (q0 := 0) rfl rfl)) rfl rfl hl.1 rfl (lv_room (Nat.le_of_ble_eq_true rfl)) dX1_push_10 ⟨Nat.zero_le _, Nat.zero_le _⟩) hP hD hS [5, 12] rfl rfl (fun H locs hP hD hS => ?_)
          have hP : va_P D vwCl (wP cI cC cZ cS b (va_up G 5 (d_X3_become (G 5) (G 12)))) H := hP
          have hD : va_D A (wP cI cC cZ cS b (va_up G 5 (d_X3_become (G 5) (G 12)))) := hD
          refine W.eq (g2 := F0 m 13 ls []) rfl ?_
          refine lv_aload_n hx hb dX1_push_13 rfl (lv_at hl 0 rfl) ?_
          refine lv_aload_n hx hb dX1_push_14 rfl (lv_at hl 0 rfl) ?_
          refine va_get (D := D) (ci := 1) (v := .int (G 0 1)) (C := RX1) (T := TX1) (N := 3) hx hb hts hinX1 hown hK hP 0 rfl rfl 1 (by decide) (hts (.fieldLink RX1 18 "FirstOut$Past" "next" "I") (by decide +kernel)) (fun _ h9 => h9) rfl dX1_push_15 ?_
          refine lv_iconst (v := 1) hx hb dX1_push_18 (by decide) ?_
          refine lv_iadd hx hb dX1_push_19 ?_
          refine lv_bipush (v := 10) hx hb dX1_push_20 (by decide) ?_
          refine lv_irem hx hb dX1_push_22 (by decide) ?_
          refine va_put (D := D) (ci := 1) (v := .int (((G 0 1) + (1 : Int32)) - ((G 0 1) + (1 : Int32)) / (10 : Int32) * (10 : Int32))) (ty := .int) (C := RX1) (T := TX1) (N := 3) hx hb hts hinX1 tyX1 tyX1_ok nmX1 hown hK hP hD hS 0 rfl rfl 1 (by decide) (hts (.fieldLink RX1 18 "FirstOut$Past" "next" "I") (by decide +kernel)) (fun _ h9 => h9) rfl (by decide +kernel) rfl rfl (Nat.le_of_ble_eq_true rfl) dX1_push_23 (fun H locs hP hD hS => ?_)
          have hP : va_P D vwCl (wP cI cC cZ cS b (va_up (va_up G 0 (upd (G 0) 1 (((G 0 1) + (1 : Int32)) - ((G 0 1) + (1 : Int32)) / (10 : Int32) * (10 : Int32)))) 5 (d_X3_become (G 5) (G 12)))) H := hP
          have hD : va_D A (wP cI cC cZ cS b (va_up (va_up G 0 (upd (G 0) 1 (((G 0 1) + (1 : Int32)) - ((G 0 1) + (1 : Int32)) / (10 : Int32) * (10 : Int32)))) 5 (d_X3_become (G 5) (G 12)))) := hD
          refine lv_aload_n hx hb dX1_push_26 rfl (lv_at hl 0 rfl) ?_
          refine lv_aload_n hx hb dX1_push_27 rfl (lv_at hl 0 rfl) ?_
          refine va_get (D := D) (ci := 1) (v := .int (G 0 2)) (C := RX1) (T := TX1) (N := 3) hx hb hts hinX1 hown hK hP 0 rfl rfl 2 (by decide) (hts (.fieldLink RX1 26 "FirstOut$Past" "known" "I") (by decide +kernel)) (fun _ h9 => h9) rfl dX1_push_28 ?_
          refine lv_iconst (v := 1) hx hb dX1_push_31 (by decide) ?_
          refine lv_iadd hx hb dX1_push_32 ?_
          refine lv_bipush (v := 10) hx hb dX1_push_33 (by decide) ?_
          refine va_mmin hx hb (by rw [hml]; exact hl.1.symm) hown (hts (.methodLink RX1 29 Lib.Math.min.name) (by decide +kernel)) (hts (.static Lib.Math.min.name) (by decide +kernel)) (hts (.initialized "java/lang/Math") (by decide +kernel)) (hts (.code Lib.Math.min.name Lib.Math.min.code 2 (some .int)) (by decide +kernel)) (Nat.le_of_ble_eq_true rfl) (Nat.le_of_ble_eq_true rfl) (Nat.zero_le _) (Nat.zero_le _) dX1_push_35 ?_
          refine va_put (D := D) (ci := 1) (v := .int (if (10 : Int32) < ((G 0 2) + (1 : Int32)) then (10 : Int32) else ((G 0 2) + (1 : Int32)))) (ty := .int) (C := RX1) (T := TX1) (N := 3) hx hb hts hinX1 tyX1 tyX1_ok nmX1 hown hK hP hD hS 0 rfl rfl 2 (by decide) (hts (.fieldLink RX1 26 "FirstOut$Past" "known" "I") (by decide +kernel)) (fun _ h9 => h9) rfl (by decide +kernel) rfl rfl (Nat.le_of_ble_eq_true rfl) dX1_push_38 (fun H locs hP hD hS => ?_)
          have hP : va_P D vwCl (wP cI cC cZ cS b (va_up (va_up G 0 (upd (upd (G 0) 1 (((G 0 1) + (1 : Int32)) - ((G 0 1) + (1 : Int32)) / (10 : Int32) * (10 : Int32))) 2 (if (10 : Int32) < ((G 0 2) + (1 : Int32)) then (10 : Int32) else ((G 0 2) + (1 : Int32))))) 5 (d_X3_become (G 5) (G 12)))) H := hP
          have hD : va_D A (wP cI cC cZ cS b (va_up (va_up G 0 (upd (upd (G 0) 1 (((G 0 1) + (1 : Int32)) - ((G 0 1) + (1 : Int32)) / (10 : Int32) * (10 : Int32))) 2 (if (10 : Int32) < ((G 0 2) + (1 : Int32)) then (10 : Int32) else ((G 0 2) + (1 : Int32))))) 5 (d_X3_become (G 5) (G 12)))) := hD
          rw [hres]
          exact W.vret hx hb hr (fun t ht hW => ⟨rfl, by rw [ht]; exact hP, by rw [hA]; exact hS.F ht⟩) hS.2.2 dX1_push_41
        · rw [if_neg c_4] at hres
          by_cases c_5 : (G 0 1) = 4
          · rw [if_pos c_5] at hres
            refine lv_aload_n hx hb dX1_push_0 rfl (lv_at hl 0 rfl) ?_
            refine va_get (D := D) (ci := 1) (v := .ref (b 1)) (C := RX1) (T := TX1) (N := 3) hx hb hts hinX1 hown hK hP 0 rfl rfl 0 (by decide) (hts (.fieldLink RX1 11 "FirstOut$Past" "steps" "[LFirstOut$Standing;") (by decide +kernel)) (fun _ h9 => h9) rfl dX1_push_1 ?_
            refine lv_aload_n hx hb dX1_push_4 rfl (lv_at hl 0 rfl) ?_
            refine va_get (D := D) (ci := 1) (v := .int (G 0 1)) (C := RX1) (T := TX1) (N := 3) hx hb hts hinX1 hown hK hP 0 rfl rfl 1 (by decide) (hts (.fieldLink RX1 18 "FirstOut$Past" "next" "I") (by decide +kernel)) (fun _ h9 => h9) rfl dX1_push_5 ?_
            refine m_aald hx hb hK hP 1 3 rfl rfl 4 c_5 (by decide) (by decide) (r := (b 6)) rfl dX1_push_8 ?_
            refine lv_aload_n hx hb dX1_push_9 rfl (lv_at hl 1 rfl) ?_
            have hPc := hP.sub (ws' := (wS2 cI cC cZ cS (b 6) (b 12) (G 6) (G 12))) [6, 12] rfl
            have hDc := hD.sub (ws' := (wS2 cI cC cZ cS (b 6) (b 12) (G 6) (G 12))) [6, 12] (by decide) rfl
            refine m_callM (W.runV (As := [.ref (b 12)]) (rest := []) ⟨hx, hb, hml, hown, hts⟩ (c_X3_become l D cI cC cZ cS (b 6) (b 12) (G 6) (G 12)) (cwV 1 hts gX1_push_X3_become rfl rfl rfl (by decide +kernel) ⟨Nat.le_of_ble_eq_true rfl, Nat.le_of_ble_eq_true rfl⟩) (preV_of hPc hDc hE (va_recv hK hPc (ci := 3) (q0 := 0) rfl rfl)) rfl rfl hl.1 rfl (lv_room (Nat.le_of_ble_eq_true rfl)) dX1_push_10 ⟨Nat.zero_le _, Nat.zero_le _⟩) hP hD hS [6, 12] rfl rfl (fun H locs hP hD hS => ?_)
            have hP : va_P D vwCl (wP cI cC cZ cS b (va_up G 6 (d_X3_become (G 6) (G 12)))) H := hP
            have hD : va_D A (wP cI cC cZ cS b (va_up G 6 (d_X3_become (G 6) (G 12)))) := hD
            refine W.eq (g2 := F0 m 13 ls []) rfl ?_
            refine lv_aload_n hx hb dX1_push_13 rfl (lv_at hl 0 rfl) ?_
            refine lv_aload_n hx hb dX1_push_14 rfl (lv_at hl 0 rfl) ?_
            refine va_get (D := D) (ci := 1) (v := .int (G 0 1)) (C := RX1) (T := TX1) (N := 3) hx hb hts hinX1 hown hK hP 0 rfl rfl 1 (by decide) (hts (.fieldLink RX1 18 "FirstOut$Past" "next" "I") (by decide +kernel)) (fun _ h9 => h9) rfl dX1_push_15 ?_
            refine lv_iconst (v := 1) hx hb dX1_push_18 (by decide) ?_
            refine lv_iadd hx hb dX1_push_19 ?_
            refine lv_bipush (v := 10) hx hb dX1_push_20 (by decide) ?_
            refine lv_irem hx hb dX1_push_22 (by decide) ?_
            refine va_put (D := D) (ci := 1) (v := .int (((G 0 1) + (1 : Int32)) - ((G 0 1) + (1 : Int32)) / (10 : Int32) * (10 : Int32))) (ty := .int) (C := RX1) (T := TX1) (N := 3) hx hb hts hinX1 tyX1 tyX1_ok nmX1 hown hK hP hD hS 0 rfl rfl 1 (by decide) (hts (.fieldLink RX1 18 "FirstOut$Past" "next" "I") (by decide +kernel)) (fun _ h9 => h9) rfl (by decide +kernel) rfl rfl (Nat.le_of_ble_eq_true rfl) dX1_push_23 (fun H locs hP hD hS => ?_)
            have hP : va_P D vwCl (wP cI cC cZ cS b (va_up (va_up G 0 (upd (G 0) 1 (((G 0 1) + (1 : Int32)) - ((G 0 1) + (1 : Int32)) / (10 : Int32) * (10 : Int32)))) 6 (d_X3_become (G 6) (G 12)))) H := hP
            have hD : va_D A (wP cI cC cZ cS b (va_up (va_up G 0 (upd (G 0) 1 (((G 0 1) + (1 : Int32)) - ((G 0 1) + (1 : Int32)) / (10 : Int32) * (10 : Int32)))) 6 (d_X3_become (G 6) (G 12)))) := hD
            refine lv_aload_n hx hb dX1_push_26 rfl (lv_at hl 0 rfl) ?_
            refine lv_aload_n hx hb dX1_push_27 rfl (lv_at hl 0 rfl) ?_
            refine va_get (D := D) (ci := 1) (v := .int (G 0 2)) (C := RX1) (T := TX1) (N := 3) hx hb hts hinX1 hown hK hP 0 rfl rfl 2 (by decide) (hts (.fieldLink RX1 26 "FirstOut$Past" "known" "I") (by decide +kernel)) (fun _ h9 => h9) rfl dX1_push_28 ?_
            refine lv_iconst (v := 1) hx hb dX1_push_31 (by decide) ?_
            refine lv_iadd hx hb dX1_push_32 ?_
            refine lv_bipush (v := 10) hx hb dX1_push_33 (by decide) ?_
            refine va_mmin hx hb (by rw [hml]; exact hl.1.symm) hown (hts (.methodLink RX1 29 Lib.Math.min.name) (by decide +kernel)) (hts (.static Lib.Math.min.name) (by decide +kernel)) (hts (.initialized "java/lang/Math") (by decide +kernel)) (hts (.code Lib.Math.min.name Lib.Math.min.code 2 (some .int)) (by decide +kernel)) (Nat.le_of_ble_eq_true rfl) (Nat.le_of_ble_eq_true rfl) (Nat.zero_le _) (Nat.zero_le _) dX1_push_35 ?_
            refine va_put (D := D) (ci := 1) (v := .int (if (10 : Int32) < ((G 0 2) + (1 : Int32)) then (10 : Int32) else ((G 0 2) + (1 : Int32)))) (ty := .int) (C := RX1) (T := TX1) (N := 3) hx hb hts hinX1 tyX1 tyX1_ok nmX1 hown hK hP hD hS 0 rfl rfl 2 (by decide) (hts (.fieldLink RX1 26 "FirstOut$Past" "known" "I") (by decide +kernel)) (fun _ h9 => h9) rfl (by decide +kernel) rfl rfl (Nat.le_of_ble_eq_true rfl) dX1_push_38 (fun H locs hP hD hS => ?_)
            have hP : va_P D vwCl (wP cI cC cZ cS b (va_up (va_up G 0 (upd (upd (G 0) 1 (((G 0 1) + (1 : Int32)) - ((G 0 1) + (1 : Int32)) / (10 : Int32) * (10 : Int32))) 2 (if (10 : Int32) < ((G 0 2) + (1 : Int32)) then (10 : Int32) else ((G 0 2) + (1 : Int32))))) 6 (d_X3_become (G 6) (G 12)))) H := hP
            have hD : va_D A (wP cI cC cZ cS b (va_up (va_up G 0 (upd (upd (G 0) 1 (((G 0 1) + (1 : Int32)) - ((G 0 1) + (1 : Int32)) / (10 : Int32) * (10 : Int32))) 2 (if (10 : Int32) < ((G 0 2) + (1 : Int32)) then (10 : Int32) else ((G 0 2) + (1 : Int32))))) 6 (d_X3_become (G 6) (G 12)))) := hD
            rw [hres]
            exact W.vret hx hb hr (fun t ht hW => ⟨rfl, by rw [ht]; exact hP, by rw [hA]; exact hS.F ht⟩) hS.2.2 dX1_push_41
          · rw [if_neg c_5] at hres
            by_cases c_6 : (G 0 1) = 5
            · rw [if_pos c_6] at hres
              refine lv_aload_n hx hb dX1_push_0 rfl (lv_at hl 0 rfl) ?_
              refine va_get (D := D) (ci := 1) (v := .ref (b 1)) (C := RX1) (T := TX1) (N := 3) hx hb hts hinX1 hown hK hP 0 rfl rfl 0 (by decide) (hts (.fieldLink RX1 11 "FirstOut$Past" "steps" "[LFirstOut$Standing;") (by decide +kernel)) (fun _ h9 => h9) rfl dX1_push_1 ?_
              refine lv_aload_n hx hb dX1_push_4 rfl (lv_at hl 0 rfl) ?_
              refine va_get (D := D) (ci := 1) (v := .int (G 0 1)) (C := RX1) (T := TX1) (N := 3) hx hb hts hinX1 hown hK hP 0 rfl rfl 1 (by decide) (hts (.fieldLink RX1 18 "FirstOut$Past" "next" "I") (by decide +kernel)) (fun _ h9 => h9) rfl dX1_push_5 ?_
              refine m_aald hx hb hK hP 1 3 rfl rfl 5 c_6 (by decide) (by decide) (r := (b 7)) rfl dX1_push_8 ?_
              refine lv_aload_n hx hb dX1_push_9 rfl (lv_at hl 1 rfl) ?_
              have hPc := hP.sub (ws' := (wS2 cI cC cZ cS (b 7) (b 12) (G 7) (G 12))) [7, 12] rfl
              have hDc := hD.sub (ws' := (wS2 cI cC cZ cS (b 7) (b 12) (G 7) (G 12))) [7, 12] (by decide) rfl
              refine m_callM (W.runV (As := [.ref (b 12)]) (rest := []) ⟨hx, hb, hml, hown, hts⟩ (c_X3_become l D cI cC cZ cS (b 7) (b 12) (G 7) (G 12)) (cwV 1 hts gX1_push_X3_become rfl rfl rfl (by decide +kernel) ⟨Nat.le_of_ble_eq_true rfl, Nat.le_of_ble_eq_true rfl⟩) (preV_of hPc hDc hE (va_recv hK hPc (ci := 3) (q0 := 0) rfl rfl)) rfl rfl hl.1 rfl (lv_room (Nat.le_of_ble_eq_true rfl)) dX1_push_10 ⟨Nat.zero_le _, Nat.zero_le _⟩) hP hD hS [7, 12] rfl rfl (fun H locs hP hD hS => ?_)
              have hP : va_P D vwCl (wP cI cC cZ cS b (va_up G 7 (d_X3_become (G 7) (G 12)))) H := hP
              have hD : va_D A (wP cI cC cZ cS b (va_up G 7 (d_X3_become (G 7) (G 12)))) := hD
              refine W.eq (g2 := F0 m 13 ls []) rfl ?_
              refine lv_aload_n hx hb dX1_push_13 rfl (lv_at hl 0 rfl) ?_
              refine lv_aload_n hx hb dX1_push_14 rfl (lv_at hl 0 rfl) ?_
              refine va_get (D := D) (ci := 1) (v := .int (G 0 1)) (C := RX1) (T := TX1) (N := 3) hx hb hts hinX1 hown hK hP 0 rfl rfl 1 (by decide) (hts (.fieldLink RX1 18 "FirstOut$Past" "next" "I") (by decide +kernel)) (fun _ h9 => h9) rfl dX1_push_15 ?_
              refine lv_iconst (v := 1) hx hb dX1_push_18 (by decide) ?_
              refine lv_iadd hx hb dX1_push_19 ?_
              refine lv_bipush (v := 10) hx hb dX1_push_20 (by decide) ?_
              refine lv_irem hx hb dX1_push_22 (by decide) ?_
              refine va_put (D := D) (ci := 1) (v := .int (((G 0 1) + (1 : Int32)) - ((G 0 1) + (1 : Int32)) / (10 : Int32) * (10 : Int32))) (ty := .int) (C := RX1) (T := TX1) (N := 3) hx hb hts hinX1 tyX1 tyX1_ok nmX1 hown hK hP hD hS 0 rfl rfl 1 (by decide) (hts (.fieldLink RX1 18 "FirstOut$Past" "next" "I") (by decide +kernel)) (fun _ h9 => h9) rfl (by decide +kernel) rfl rfl (Nat.le_of_ble_eq_true rfl) dX1_push_23 (fun H locs hP hD hS => ?_)
              have hP : va_P D vwCl (wP cI cC cZ cS b (va_up (va_up G 0 (upd (G 0) 1 (((G 0 1) + (1 : Int32)) - ((G 0 1) + (1 : Int32)) / (10 : Int32) * (10 : Int32)))) 7 (d_X3_become (G 7) (G 12)))) H := hP
              have hD : va_D A (wP cI cC cZ cS b (va_up (va_up G 0 (upd (G 0) 1 (((G 0 1) + (1 : Int32)) - ((G 0 1) + (1 : Int32)) / (10 : Int32) * (10 : Int32)))) 7 (d_X3_become (G 7) (G 12)))) := hD
              refine lv_aload_n hx hb dX1_push_26 rfl (lv_at hl 0 rfl) ?_
              refine lv_aload_n hx hb dX1_push_27 rfl (lv_at hl 0 rfl) ?_
              refine va_get (D := D) (ci := 1) (v := .int (G 0 2)) (C := RX1) (T := TX1) (N := 3) hx hb hts hinX1 hown hK hP 0 rfl rfl 2 (by decide) (hts (.fieldLink RX1 26 "FirstOut$Past" "known" "I") (by decide +kernel)) (fun _ h9 => h9) rfl dX1_push_28 ?_
              refine lv_iconst (v := 1) hx hb dX1_push_31 (by decide) ?_
              refine lv_iadd hx hb dX1_push_32 ?_
              refine lv_bipush (v := 10) hx hb dX1_push_33 (by decide) ?_
              refine va_mmin hx hb (by rw [hml]; exact hl.1.symm) hown (hts (.methodLink RX1 29 Lib.Math.min.name) (by decide +kernel)) (hts (.static Lib.Math.min.name) (by decide +kernel)) (hts (.initialized "java/lang/Math") (by decide +kernel)) (hts (.code Lib.Math.min.name Lib.Math.min.code 2 (some .int)) (by decide +kernel)) (Nat.le_of_ble_eq_true rfl) (Nat.le_of_ble_eq_true rfl) (Nat.zero_le _) (Nat.zero_le _) dX1_push_35 ?_
              refine va_put (D := D) (ci := 1) (v := .int (if (10 : Int32) < ((G 0 2) + (1 : Int32)) then (10 : Int32) else ((G 0 2) + (1 : Int32)))) (ty := .int) (C := RX1) (T := TX1) (N := 3) hx hb hts hinX1 tyX1 tyX1_ok nmX1 hown hK hP hD hS 0 rfl rfl 2 (by decide) (hts (.fieldLink RX1 26 "FirstOut$Past" "known" "I") (by decide +kernel)) (fun _ h9 => h9) rfl (by decide +kernel) rfl rfl (Nat.le_of_ble_eq_true rfl) dX1_push_38 (fun H locs hP hD hS => ?_)
              have hP : va_P D vwCl (wP cI cC cZ cS b (va_up (va_up G 0 (upd (upd (G 0) 1 (((G 0 1) + (1 : Int32)) - ((G 0 1) + (1 : Int32)) / (10 : Int32) * (10 : Int32))) 2 (if (10 : Int32) < ((G 0 2) + (1 : Int32)) then (10 : Int32) else ((G 0 2) + (1 : Int32))))) 7 (d_X3_become (G 7) (G 12)))) H := hP
              have hD : va_D A (wP cI cC cZ cS b (va_up (va_up G 0 (upd (upd (G 0) 1 (((G 0 1) + (1 : Int32)) - ((G 0 1) + (1 : Int32)) / (10 : Int32) * (10 : Int32))) 2 (if (10 : Int32) < ((G 0 2) + (1 : Int32)) then (10 : Int32) else ((G 0 2) + (1 : Int32))))) 7 (d_X3_become (G 7) (G 12)))) := hD
              rw [hres]
              exact W.vret hx hb hr (fun t ht hW => ⟨rfl, by rw [ht]; exact hP, by rw [hA]; exact hS.F ht⟩) hS.2.2 dX1_push_41
            · rw [if_neg c_6] at hres
              by_cases c_7 : (G 0 1) = 6
              · rw [if_pos c_7] at hres
                refine lv_aload_n hx hb dX1_push_0 rfl (lv_at hl 0 rfl) ?_
                refine va_get (D := D) (ci := 1) (v := .ref (b 1)) (C := RX1) (T := TX1) (N := 3) hx hb hts hinX1 hown hK hP 0 rfl rfl 0 (by decide) (hts (.fieldLink RX1 11 "FirstOut$Past" "steps" "[LFirstOut$Standing;") (by decide +kernel)) (fun _ h9 => h9) rfl dX1_push_1 ?_
                refine lv_aload_n hx hb dX1_push_4 rfl (lv_at hl 0 rfl) ?_
                refine va_get (D := D) (ci := 1) (v := .int (G 0 1)) (C := RX1) (T := TX1) (N := 3) hx hb hts hinX1 hown hK hP 0 rfl rfl 1 (by decide) (hts (.fieldLink RX1 18 "FirstOut$Past" "next" "I") (by decide +kernel)) (fun _ h9 => h9) rfl dX1_push_5 ?_
                refine m_aald hx hb hK hP 1 3 rfl rfl 6 c_7 (by decide) (by decide) (r := (b 8)) rfl dX1_push_8 ?_
                refine lv_aload_n hx hb dX1_push_9 rfl (lv_at hl 1 rfl) ?_
                have hPc := hP.sub (ws' := (wS2 cI cC cZ cS (b 8) (b 12) (G 8) (G 12))) [8, 12] rfl
                have hDc := hD.sub (ws' := (wS2 cI cC cZ cS (b 8) (b 12) (G 8) (G 12))) [8, 12] (by decide) rfl
                refine m_callM (W.runV (As := [.ref (b 12)]) (rest := []) ⟨hx, hb, hml, hown, hts⟩ (c_X3_become l D cI cC cZ cS (b 8) (b 12) (G 8) (G 12)) (cwV 1 hts gX1_push_X3_become rfl rfl rfl (by decide +kernel) ⟨Nat.le_of_ble_eq_true rfl, Nat.le_of_ble_eq_true rfl⟩) (preV_of hPc hDc hE (va_recv hK hPc (ci := 3) (q0 := 0) rfl rfl)) rfl rfl hl.1 rfl (lv_room (Nat.le_of_ble_eq_true rfl)) dX1_push_10 ⟨Nat.zero_le _, Nat.zero_le _⟩) hP hD hS [8, 12] rfl rfl (fun H locs hP hD hS => ?_)
                have hP : va_P D vwCl (wP cI cC cZ cS b (va_up G 8 (d_X3_become (G 8) (G 12)))) H := hP
                have hD : va_D A (wP cI cC cZ cS b (va_up G 8 (d_X3_become (G 8) (G 12)))) := hD
                refine W.eq (g2 := F0 m 13 ls []) rfl ?_
                refine lv_aload_n hx hb dX1_push_13 rfl (lv_at hl 0 rfl) ?_
                refine lv_aload_n hx hb dX1_push_14 rfl (lv_at hl 0 rfl) ?_
                refine va_get (D := D) (ci := 1) (v := .int (G 0 1)) (C := RX1) (T := TX1) (N := 3) hx hb hts hinX1 hown hK hP 0 rfl rfl 1 (by decide) (hts (.fieldLink RX1 18 "FirstOut$Past" "next" "I") (by decide +kernel)) (fun _ h9 => h9) rfl dX1_push_15 ?_
                refine lv_iconst (v := 1) hx hb dX1_push_18 (by decide) ?_
                refine lv_iadd hx hb dX1_push_19 ?_
                refine lv_bipush (v := 10) hx hb dX1_push_20 (by decide) ?_
                refine lv_irem hx hb dX1_push_22 (by decide) ?_
                refine va_put (D := D) (ci := 1) (v := .int (((G 0 1) + (1 : Int32)) - ((G 0 1) + (1 : Int32)) / (10 : Int32) * (10 : Int32))) (ty := .int) (C := RX1) (T := TX1) (N := 3) hx hb hts hinX1 tyX1 tyX1_ok nmX1 hown hK hP hD hS 0 rfl rfl 1 (by decide) (hts (.fieldLink RX1 18 "FirstOut$Past" "next" "I") (by decide +kernel)) (fun _ h9 => h9) rfl (by decide +kernel) rfl rfl (Nat.le_of_ble_eq_true rfl) dX1_push_23 (fun H locs hP hD hS => ?_)
                have hP : va_P D vwCl (wP cI cC cZ cS b (va_up (va_up G 0 (upd (G 0) 1 (((G 0 1) + (1 : Int32)) - ((G 0 1) + (1 : Int32)) / (10 : Int32) * (10 : Int32)))) 8 (d_X3_become (G 8) (G 12)))) H := hP
                have hD : va_D A (wP cI cC cZ cS b (va_up (va_up G 0 (upd (G 0) 1 (((G 0 1) + (1 : Int32)) - ((G 0 1) + (1 : Int32)) / (10 : Int32) * (10 : Int32)))) 8 (d_X3_become (G 8) (G 12)))) := hD
                refine lv_aload_n hx hb dX1_push_26 rfl (lv_at hl 0 rfl) ?_
                refine lv_aload_n hx hb dX1_push_27 rfl (lv_at hl 0 rfl) ?_
                refine va_get (D := D) (ci := 1) (v := .int (G 0 2)) (C := RX1) (T := TX1) (N := 3) hx hb hts hinX1 hown hK hP 0 rfl rfl 2 (by decide) (hts (.fieldLink RX1 26 "FirstOut$Past" "known" "I") (by decide +kernel)) (fun _ h9 => h9) rfl dX1_push_28 ?_
                refine lv_iconst (v := 1) hx hb dX1_push_31 (by decide) ?_
                refine lv_iadd hx hb dX1_push_32 ?_
                refine lv_bipush (v := 10) hx hb dX1_push_33 (by decide) ?_
                refine va_mmin hx hb (by rw [hml]; exact hl.1.symm) hown (hts (.methodLink RX1 29 Lib.Math.min.name) (by decide +kernel)) (hts (.static Lib.Math.min.name) (by decide +kernel)) (hts (.initialized "java/lang/Math") (by decide +kernel)) (hts (.code Lib.Math.min.name Lib.Math.min.code 2 (some .int)) (by decide +kernel)) (Nat.le_of_ble_eq_true rfl) (Nat.le_of_ble_eq_true rfl) (Nat.zero_le _) (Nat.zero_le _) dX1_push_35 ?_
                refine va_put (D := D) (ci := 1) (v := .int (if (10 : Int32) < ((G 0 2) + (1 : Int32)) then (10 : Int32) else ((G 0 2) + (1 : Int32)))) (ty := .int) (C := RX1) (T := TX1) (N := 3) hx hb hts hinX1 tyX1 tyX1_ok nmX1 hown hK hP hD hS 0 rfl rfl 2 (by decide) (hts (.fieldLink RX1 26 "FirstOut$Past" "known" "I") (by decide +kernel)) (fun _ h9 => h9) rfl (by decide +kernel) rfl rfl (Nat.le_of_ble_eq_true rfl) dX1_push_38 (fun H locs hP hD hS => ?_)
                have hP : va_P D vwCl (wP cI cC cZ cS b (va_up (va_up G 0 (upd (upd (G 0) 1 (((G 0 1) + (1 : Int32)) - ((G 0 1) + (1 : Int32)) / (10 : Int32) * (10 : Int32))) 2 (if (10 : Int32) < ((G 0 2) + (1 : Int32)) then (10 : Int32) else ((G 0 2) + (1 : Int32))))) 8 (d_X3_become (G 8) (G 12)))) H := hP
                have hD : va_D A (wP cI cC cZ cS b (va_up (va_up G 0 (upd (upd (G 0) 1 (((G 0 1) + (1 : Int32)) - ((G 0 1) + (1 : Int32)) / (10 : Int32) * (10 : Int32))) 2 (if (10 : Int32) < ((G 0 2) + (1 : Int32)) then (10 : Int32) else ((G 0 2) + (1 : Int32))))) 8 (d_X3_become (G 8) (G 12)))) := hD
                rw [hres]
                exact W.vret hx hb hr (fun t ht hW => ⟨rfl, by rw [ht]; exact hP, by rw [hA]; exact hS.F ht⟩) hS.2.2 dX1_push_41
              · rw [if_neg c_7] at hres
                by_cases c_8 : (G 0 1) = 7
                · rw [if_pos c_8] at hres
                  refine lv_aload_n hx hb dX1_push_0 rfl (lv_at hl 0 rfl) ?_
                  refine va_get (D := D) (ci := 1) (v := .ref (b 1)) (C := RX1) (T := TX1) (N := 3) hx hb hts hinX1 hown hK hP 0 rfl rfl 0 (by decide) (hts (.fieldLink RX1 11 "FirstOut$Past" "steps" "[LFirstOut$Standing;") (by decide +kernel)) (fun _ h9 => h9) rfl dX1_push_1 ?_
                  refine lv_aload_n hx hb dX1_push_4 rfl (lv_at hl 0 rfl) ?_
                  refine va_get (D := D) (ci := 1) (v := .int (G 0 1)) (C := RX1) (T := TX1) (N := 3) hx hb hts hinX1 hown hK hP 0 rfl rfl 1 (by decide) (hts (.fieldLink RX1 18 "FirstOut$Past" "next" "I") (by decide +kernel)) (fun _ h9 => h9) rfl dX1_push_5 ?_
                  refine m_aald hx hb hK hP 1 3 rfl rfl 7 c_8 (by decide) (by decide) (r := (b 9)) rfl dX1_push_8 ?_
                  refine lv_aload_n hx hb dX1_push_9 rfl (lv_at hl 1 rfl) ?_
                  have hPc := hP.sub (ws' := (wS2 cI cC cZ cS (b 9) (b 12) (G 9) (G 12))) [9, 12] rfl
                  have hDc := hD.sub (ws' := (wS2 cI cC cZ cS (b 9) (b 12) (G 9) (G 12))) [9, 12] (by decide) rfl
                  refine m_callM (W.runV (As := [.ref (b 12)]) (rest := []) ⟨hx, hb, hml, hown, hts⟩ (c_X3_become l D cI cC cZ cS (b 9) (b 12) (G 9) (G 12)) (cwV 1 hts gX1_push_X3_become rfl rfl rfl (by decide +kernel) ⟨Nat.le_of_ble_eq_true rfl, Nat.le_of_ble_eq_true rfl⟩) (preV_of hPc hDc hE (va_recv hK hPc (ci := 3) (q0 := 0) rfl rfl)) rfl rfl hl.1 rfl (lv_room (Nat.le_of_ble_eq_true rfl)) dX1_push_10 ⟨Nat.zero_le _, Nat.zero_le _⟩) hP hD hS [9, 12] rfl rfl (fun H locs hP hD hS => ?_)
                  have hP : va_P D vwCl (wP cI cC cZ cS b (va_up G 9 (d_X3_become (G 9) (G 12)))) H := hP
                  have hD : va_D A (wP cI cC cZ cS b (va_up G 9 (d_X3_become (G 9) (G 12)))) := hD
                  refine W.eq (g2 := F0 m 13 ls []) rfl ?_
                  refine lv_aload_n hx hb dX1_push_13 rfl (lv_at hl 0 rfl) ?_
                  refine lv_aload_n hx hb dX1_push_14 rfl (lv_at hl 0 rfl) ?_
                  refine va_get (D := D) (ci := 1) (v := .int (G 0 1)) (C := RX1) (T := TX1) (N := 3) hx hb hts hinX1 hown hK hP 0 rfl rfl 1 (by decide) (hts (.fieldLink RX1 18 "FirstOut$Past" "next" "I") (by decide +kernel)) (fun _ h9 => h9) rfl dX1_push_15 ?_
                  refine lv_iconst (v := 1) hx hb dX1_push_18 (by decide) ?_
                  refine lv_iadd hx hb dX1_push_19 ?_
                  refine lv_bipush (v := 10) hx hb dX1_push_20 (by decide) ?_
                  refine lv_irem hx hb dX1_push_22 (by decide) ?_
                  refine va_put (D := D) (ci := 1) (v := .int (((G 0 1) + (1 : Int32)) - ((G 0 1) + (1 : Int32)) / (10 : Int32) * (10 : Int32))) (ty := .int) (C := RX1) (T := TX1) (N := 3) hx hb hts hinX1 tyX1 tyX1_ok nmX1 hown hK hP hD hS 0 rfl rfl 1 (by decide) (hts (.fieldLink RX1 18 "FirstOut$Past" "next" "I") (by decide +kernel)) (fun _ h9 => h9) rfl (by decide +kernel) rfl rfl (Nat.le_of_ble_eq_true rfl) dX1_push_23 (fun H locs hP hD hS => ?_)
                  have hP : va_P D vwCl (wP cI cC cZ cS b (va_up (va_up G 0 (upd (G 0) 1 (((G 0 1) + (1 : Int32)) - ((G 0 1) + (1 : Int32)) / (10 : Int32) * (10 : Int32)))) 9 (d_X3_become (G 9) (G 12)))) H := hP
                  have hD : va_D A (wP cI cC cZ cS b (va_up (va_up G 0 (upd (G 0) 1 (((G 0 1) + (1 : Int32)) - ((G 0 1) + (1 : Int32)) / (10 : Int32) * (10 : Int32)))) 9 (d_X3_become (G 9) (G 12)))) := hD
                  refine lv_aload_n hx hb dX1_push_26 rfl (lv_at hl 0 rfl) ?_
                  refine lv_aload_n hx hb dX1_push_27 rfl (lv_at hl 0 rfl) ?_
                  refine va_get (D := D) (ci := 1) (v := .int (G 0 2)) (C := RX1) (T := TX1) (N := 3) hx hb hts hinX1 hown hK hP 0 rfl rfl 2 (by decide) (hts (.fieldLink RX1 26 "FirstOut$Past" "known" "I") (by decide +kernel)) (fun _ h9 => h9) rfl dX1_push_28 ?_
                  refine lv_iconst (v := 1) hx hb dX1_push_31 (by decide) ?_
                  refine lv_iadd hx hb dX1_push_32 ?_
                  refine lv_bipush (v := 10) hx hb dX1_push_33 (by decide) ?_
                  refine va_mmin hx hb (by rw [hml]; exact hl.1.symm) hown (hts (.methodLink RX1 29 Lib.Math.min.name) (by decide +kernel)) (hts (.static Lib.Math.min.name) (by decide +kernel)) (hts (.initialized "java/lang/Math") (by decide +kernel)) (hts (.code Lib.Math.min.name Lib.Math.min.code 2 (some .int)) (by decide +kernel)) (Nat.le_of_ble_eq_true rfl) (Nat.le_of_ble_eq_true rfl) (Nat.zero_le _) (Nat.zero_le _) dX1_push_35 ?_
                  refine va_put (D := D) (ci := 1) (v := .int (if (10 : Int32) < ((G 0 2) + (1 : Int32)) then (10 : Int32) else ((G 0 2) + (1 : Int32)))) (ty := .int) (C := RX1) (T := TX1) (N := 3) hx hb hts hinX1 tyX1 tyX1_ok nmX1 hown hK hP hD hS 0 rfl rfl 2 (by decide) (hts (.fieldLink RX1 26 "FirstOut$Past" "known" "I") (by decide +kernel)) (fun _ h9 => h9) rfl (by decide +kernel) rfl rfl (Nat.le_of_ble_eq_true rfl) dX1_push_38 (fun H locs hP hD hS => ?_)
                  have hP : va_P D vwCl (wP cI cC cZ cS b (va_up (va_up G 0 (upd (upd (G 0) 1 (((G 0 1) + (1 : Int32)) - ((G 0 1) + (1 : Int32)) / (10 : Int32) * (10 : Int32))) 2 (if (10 : Int32) < ((G 0 2) + (1 : Int32)) then (10 : Int32) else ((G 0 2) + (1 : Int32))))) 9 (d_X3_become (G 9) (G 12)))) H := hP
                  have hD : va_D A (wP cI cC cZ cS b (va_up (va_up G 0 (upd (upd (G 0) 1 (((G 0 1) + (1 : Int32)) - ((G 0 1) + (1 : Int32)) / (10 : Int32) * (10 : Int32))) 2 (if (10 : Int32) < ((G 0 2) + (1 : Int32)) then (10 : Int32) else ((G 0 2) + (1 : Int32))))) 9 (d_X3_become (G 9) (G 12)))) := hD
                  rw [hres]
                  exact W.vret hx hb hr (fun t ht hW => ⟨rfl, by rw [ht]; exact hP, by rw [hA]; exact hS.F ht⟩) hS.2.2 dX1_push_41
                · rw [if_neg c_8] at hres
                  by_cases c_9 : (G 0 1) = 8
                  · rw [if_pos c_9] at hres
                    refine lv_aload_n hx hb dX1_push_0 rfl (lv_at hl 0 rfl) ?_
                    refine va_get (D := D) (ci := 1) (v := .ref (b 1)) (C := RX1) (T := TX1) (N := 3) hx hb hts hinX1 hown hK hP 0 rfl rfl 0 (by decide) (hts (.fieldLink RX1 11 "FirstOut$Past" "steps" "[LFirstOut$Standing;") (by decide +kernel)) (fun _ h9 => h9) rfl dX1_push_1 ?_
                    refine lv_aload_n hx hb dX1_push_4 rfl (lv_at hl 0 rfl) ?_
                    refine va_get (D := D) (ci := 1) (v := .int (G 0 1)) (C := RX1) (T := TX1) (N := 3) hx hb hts hinX1 hown hK hP 0 rfl rfl 1 (by decide) (hts (.fieldLink RX1 18 "FirstOut$Past" "next" "I") (by decide +kernel)) (fun _ h9 => h9) rfl dX1_push_5 ?_
                    refine m_aald hx hb hK hP 1 3 rfl rfl 8 c_9 (by decide) (by decide) (r := (b 10)) rfl dX1_push_8 ?_
                    refine lv_aload_n hx hb dX1_push_9 rfl (lv_at hl 1 rfl) ?_
                    have hPc := hP.sub (ws' := (wS2 cI cC cZ cS (b 10) (b 12) (G 10) (G 12))) [10, 12] rfl
                    have hDc := hD.sub (ws' := (wS2 cI cC cZ cS (b 10) (b 12) (G 10) (G 12))) [10, 12] (by decide) rfl
                    refine m_callM (W.runV (As := [.ref (b 12)]) (rest := []) ⟨hx, hb, hml, hown, hts⟩ (c_X3_become l D cI cC cZ cS (b 10) (b 12) (G 10) (G 12)) (cwV 1 hts gX1_push_X3_become rfl rfl rfl (by decide +kernel) ⟨Nat.le_of_ble_eq_true rfl, Nat.le_of_ble_eq_true rfl⟩) (preV_of hPc hDc hE (va_recv hK hPc (ci := 3) (q0 := 0) rfl rfl)) rfl rfl hl.1 rfl (lv_room (Nat.le_of_ble_eq_true rfl)) dX1_push_10 ⟨Nat.zero_le _, Nat.zero_le _⟩) hP hD hS [10, 12] rfl rfl (fun H locs hP hD hS => ?_)
                    have hP : va_P D vwCl (wP cI cC cZ cS b (va_up G 10 (d_X3_become (G 10) (G 12)))) H := hP
                    have hD : va_D A (wP cI cC cZ cS b (va_up G 10 (d_X3_become (G 10) (G 12)))) := hD
                    refine W.eq (g2 := F0 m 13 ls []) rfl ?_
                    refine lv_aload_n hx hb dX1_push_13 rfl (lv_at hl 0 rfl) ?_
                    refine lv_aload_n hx hb dX1_push_14 rfl (lv_at hl 0 rfl) ?_
                    refine va_get (D := D) (ci := 1) (v := .int (G 0 1)) (C := RX1) (T := TX1) (N := 3) hx hb hts hinX1 hown hK hP 0 rfl rfl 1 (by decide) (hts (.fieldLink RX1 18 "FirstOut$Past" "next" "I") (by decide +kernel)) (fun _ h9 => h9) rfl dX1_push_15 ?_
                    refine lv_iconst (v := 1) hx hb dX1_push_18 (by decide) ?_
                    refine lv_iadd hx hb dX1_push_19 ?_
                    refine lv_bipush (v := 10) hx hb dX1_push_20 (by decide) ?_
                    refine lv_irem hx hb dX1_push_22 (by decide) ?_
                    refine va_put (D := D) (ci := 1) (v := .int (((G 0 1) + (1 : Int32)) - ((G 0 1) + (1 : Int32)) / (10 : Int32) * (10 : Int32))) (ty := .int) (C := RX1) (T := TX1) (N := 3) hx hb hts hinX1 tyX1 tyX1_ok nmX1 hown hK hP hD hS 0 rfl rfl 1 (by decide) (hts (.fieldLink RX1 18 "FirstOut$Past" "next" "I") (by decide +kernel)) (fun _ h9 => h9) rfl (by decide +kernel) rfl rfl (Nat.le_of_ble_eq_true rfl) dX1_push_23 (fun H locs hP hD hS => ?_)
                    have hP : va_P D vwCl (wP cI cC cZ cS b (va_up (va_up G 0 (upd (G 0) 1 (((G 0 1) + (1 : Int32)) - ((G 0 1) + (1 : Int32)) / (10 : Int32) * (10 : Int32)))) 10 (d_X3_become (G 10) (G 12)))) H := hP
                    have hD : va_D A (wP cI cC cZ cS b (va_up (va_up G 0 (upd (G 0) 1 (((G 0 1) + (1 : Int32)) - ((G 0 1) + (1 : Int32)) / (10 : Int32) * (10 : Int32)))) 10 (d_X3_become (G 10) (G 12)))) := hD
                    refine lv_aload_n hx hb dX1_push_26 rfl (lv_at hl 0 rfl) ?_
                    refine lv_aload_n hx hb dX1_push_27 rfl (lv_at hl 0 rfl) ?_
                    refine va_get (D := D) (ci := 1) (v := .int (G 0 2)) (C := RX1) (T := TX1) (N := 3) hx hb hts hinX1 hown hK hP 0 rfl rfl 2 (by decide) (hts (.fieldLink RX1 26 "FirstOut$Past" "known" "I") (by decide +kernel)) (fun _ h9 => h9) rfl dX1_push_28 ?_
                    refine lv_iconst (v := 1) hx hb dX1_push_31 (by decide) ?_
                    refine lv_iadd hx hb dX1_push_32 ?_
                    refine lv_bipush (v := 10) hx hb dX1_push_33 (by decide) ?_
                    refine va_mmin hx hb (by rw [hml]; exact hl.1.symm) hown (hts (.methodLink RX1 29 Lib.Math.min.name) (by decide +kernel)) (hts (.static Lib.Math.min.name) (by decide +kernel)) (hts (.initialized "java/lang/Math") (by decide +kernel)) (hts (.code Lib.Math.min.name Lib.Math.min.code 2 (some .int)) (by decide +kernel)) (Nat.le_of_ble_eq_true rfl) (Nat.le_of_ble_eq_true rfl) (Nat.zero_le _) (Nat.zero_le _) dX1_push_35 ?_
                    refine va_put (D := D) (ci := 1) (v := .int (if (10 : Int32) < ((G 0 2) + (1 : Int32)) then (10 : Int32) else ((G 0 2) + (1 : Int32)))) (ty := .int) (C := RX1) (T := TX1) (N := 3) hx hb hts hinX1 tyX1 tyX1_ok nmX1 hown hK hP hD hS 0 rfl rfl 2 (by decide) (hts (.fieldLink RX1 26 "FirstOut$Past" "known" "I") (by decide +kernel)) (fun _ h9 => h9) rfl (by decide +kernel) rfl rfl (Nat.le_of_ble_eq_true rfl) dX1_push_38 (fun H locs hP hD hS => ?_)
                    have hP : va_P D vwCl (wP cI cC cZ cS b (va_up (va_up G 0 (upd (upd (G 0) 1 (((G 0 1) + (1 : Int32)) - ((G 0 1) + (1 : Int32)) / (10 : Int32) * (10 : Int32))) 2 (if (10 : Int32) < ((G 0 2) + (1 : Int32)) then (10 : Int32) else ((G 0 2) + (1 : Int32))))) 10 (d_X3_become (G 10) (G 12)))) H := hP
                    have hD : va_D A (wP cI cC cZ cS b (va_up (va_up G 0 (upd (upd (G 0) 1 (((G 0 1) + (1 : Int32)) - ((G 0 1) + (1 : Int32)) / (10 : Int32) * (10 : Int32))) 2 (if (10 : Int32) < ((G 0 2) + (1 : Int32)) then (10 : Int32) else ((G 0 2) + (1 : Int32))))) 10 (d_X3_become (G 10) (G 12)))) := hD
                    rw [hres]
                    exact W.vret hx hb hr (fun t ht hW => ⟨rfl, by rw [ht]; exact hP, by rw [hA]; exact hS.F ht⟩) hS.2.2 dX1_push_41
                  · rw [if_neg c_9] at hres
                    have c_10 : (G 0 1) = 9 := last9 hnx hx10 c_1 c_2 c_3 c_4 c_5 c_6 c_7 c_8 c_9
                    refine lv_aload_n hx hb dX1_push_0 rfl (lv_at hl 0 rfl) ?_
                    refine va_get (D := D) (ci := 1) (v := .ref (b 1)) (C := RX1) (T := TX1) (N := 3) hx hb hts hinX1 hown hK hP 0 rfl rfl 0 (by decide) (hts (.fieldLink RX1 11 "FirstOut$Past" "steps" "[LFirstOut$Standing;") (by decide +kernel)) (fun _ h9 => h9) rfl dX1_push_1 ?_
                    refine lv_aload_n hx hb dX1_push_4 rfl (lv_at hl 0 rfl) ?_
                    refine va_get (D := D) (ci := 1) (v := .int (G 0 1)) (C := RX1) (T := TX1) (N := 3) hx hb hts hinX1 hown hK hP 0 rfl rfl 1 (by decide) (hts (.fieldLink RX1 18 "FirstOut$Past" "next" "I") (by decide +kernel)) (fun _ h9 => h9) rfl dX1_push_5 ?_
                    refine m_aald hx hb hK hP 1 3 rfl rfl 9 c_10 (by decide) (by decide) (r := (b 11)) rfl dX1_push_8 ?_
                    refine lv_aload_n hx hb dX1_push_9 rfl (lv_at hl 1 rfl) ?_
                    have hPc := hP.sub (ws' := (wS2 cI cC cZ cS (b 11) (b 12) (G 11) (G 12))) [11, 12] rfl
                    have hDc := hD.sub (ws' := (wS2 cI cC cZ cS (b 11) (b 12) (G 11) (G 12))) [11, 12] (by decide) rfl
                    refine m_callM (W.runV (As := [.ref (b 12)]) (rest := []) ⟨hx, hb, hml, hown, hts⟩ (c_X3_become l D cI cC cZ cS (b 11) (b 12) (G 11) (G 12)) (cwV 1 hts gX1_push_X3_become rfl rfl rfl (by decide +kernel) ⟨Nat.le_of_ble_eq_true rfl, Nat.le_of_ble_eq_true rfl⟩) (preV_of hPc hDc hE (va_recv hK hPc (ci := 3) (q0 := 0) rfl rfl)) rfl rfl hl.1 rfl (lv_room (Nat.le_of_ble_eq_true rfl)) dX1_push_10 ⟨Nat.zero_le _, Nat.zero_le _⟩) hP hD hS [11, 12] rfl rfl (fun H locs hP hD hS => ?_)
                    have hP : va_P D vwCl (wP cI cC cZ cS b (va_up G 11 (d_X3_become (G 11) (G 12)))) H := hP
                    have hD : va_D A (wP cI cC cZ cS b (va_up G 11 (d_X3_become (G 11) (G 12)))) := hD
                    refine W.eq (g2 := F0 m 13 ls []) rfl ?_
                    refine lv_aload_n hx hb dX1_push_13 rfl (lv_at hl 0 rfl) ?_
                    refine lv_aload_n hx hb dX1_push_14 rfl (lv_at hl 0 rfl) ?_
                    refine va_get (D := D) (ci := 1) (v := .int (G 0 1)) (C := RX1) (T := TX1) (N := 3) hx hb hts hinX1 hown hK hP 0 rfl rfl 1 (by decide) (hts (.fieldLink RX1 18 "FirstOut$Past" "next" "I") (by decide +kernel)) (fun _ h9 => h9) rfl dX1_push_15 ?_
                    refine lv_iconst (v := 1) hx hb dX1_push_18 (by decide) ?_
                    refine lv_iadd hx hb dX1_push_19 ?_
                    refine lv_bipush (v := 10) hx hb dX1_push_20 (by decide) ?_
                    refine lv_irem hx hb dX1_push_22 (by decide) ?_
                    refine va_put (D := D) (ci := 1) (v := .int (((G 0 1) + (1 : Int32)) - ((G 0 1) + (1 : Int32)) / (10 : Int32) * (10 : Int32))) (ty := .int) (C := RX1) (T := TX1) (N := 3) hx hb hts hinX1 tyX1 tyX1_ok nmX1 hown hK hP hD hS 0 rfl rfl 1 (by decide) (hts (.fieldLink RX1 18 "FirstOut$Past" "next" "I") (by decide +kernel)) (fun _ h9 => h9) rfl (by decide +kernel) rfl rfl (Nat.le_of_ble_eq_true rfl) dX1_push_23 (fun H locs hP hD hS => ?_)
                    have hP : va_P D vwCl (wP cI cC cZ cS b (va_up (va_up G 0 (upd (G 0) 1 (((G 0 1) + (1 : Int32)) - ((G 0 1) + (1 : Int32)) / (10 : Int32) * (10 : Int32)))) 11 (d_X3_become (G 11) (G 12)))) H := hP
                    have hD : va_D A (wP cI cC cZ cS b (va_up (va_up G 0 (upd (G 0) 1 (((G 0 1) + (1 : Int32)) - ((G 0 1) + (1 : Int32)) / (10 : Int32) * (10 : Int32)))) 11 (d_X3_become (G 11) (G 12)))) := hD
                    refine lv_aload_n hx hb dX1_push_26 rfl (lv_at hl 0 rfl) ?_
                    refine lv_aload_n hx hb dX1_push_27 rfl (lv_at hl 0 rfl) ?_
                    refine va_get (D := D) (ci := 1) (v := .int (G 0 2)) (C := RX1) (T := TX1) (N := 3) hx hb hts hinX1 hown hK hP 0 rfl rfl 2 (by decide) (hts (.fieldLink RX1 26 "FirstOut$Past" "known" "I") (by decide +kernel)) (fun _ h9 => h9) rfl dX1_push_28 ?_
                    refine lv_iconst (v := 1) hx hb dX1_push_31 (by decide) ?_
                    refine lv_iadd hx hb dX1_push_32 ?_
                    refine lv_bipush (v := 10) hx hb dX1_push_33 (by decide) ?_
                    refine va_mmin hx hb (by rw [hml]; exact hl.1.symm) hown (hts (.methodLink RX1 29 Lib.Math.min.name) (by decide +kernel)) (hts (.static Lib.Math.min.name) (by decide +kernel)) (hts (.initialized "java/lang/Math") (by decide +kernel)) (hts (.code Lib.Math.min.name Lib.Math.min.code 2 (some .int)) (by decide +kernel)) (Nat.le_of_ble_eq_true rfl) (Nat.le_of_ble_eq_true rfl) (Nat.zero_le _) (Nat.zero_le _) dX1_push_35 ?_
                    refine va_put (D := D) (ci := 1) (v := .int (if (10 : Int32) < ((G 0 2) + (1 : Int32)) then (10 : Int32) else ((G 0 2) + (1 : Int32)))) (ty := .int) (C := RX1) (T := TX1) (N := 3) hx hb hts hinX1 tyX1 tyX1_ok nmX1 hown hK hP hD hS 0 rfl rfl 2 (by decide) (hts (.fieldLink RX1 26 "FirstOut$Past" "known" "I") (by decide +kernel)) (fun _ h9 => h9) rfl (by decide +kernel) rfl rfl (Nat.le_of_ble_eq_true rfl) dX1_push_38 (fun H locs hP hD hS => ?_)
                    have hP : va_P D vwCl (wP cI cC cZ cS b (va_up (va_up G 0 (upd (upd (G 0) 1 (((G 0 1) + (1 : Int32)) - ((G 0 1) + (1 : Int32)) / (10 : Int32) * (10 : Int32))) 2 (if (10 : Int32) < ((G 0 2) + (1 : Int32)) then (10 : Int32) else ((G 0 2) + (1 : Int32))))) 11 (d_X3_become (G 11) (G 12)))) H := hP
                    have hD : va_D A (wP cI cC cZ cS b (va_up (va_up G 0 (upd (upd (G 0) 1 (((G 0 1) + (1 : Int32)) - ((G 0 1) + (1 : Int32)) / (10 : Int32) * (10 : Int32))) 2 (if (10 : Int32) < ((G 0 2) + (1 : Int32)) then (10 : Int32) else ((G 0 2) + (1 : Int32))))) 11 (d_X3_become (G 11) (G 12)))) := hD
                    rw [hres]
                    exact W.vret hx hb hr (fun t ht hW => ⟨rfl, by rw [ht]; exact hP, by rw [hA]; exact hS.F ht⟩) hS.2.2 dX1_push_41
def d_X1_pop (G : Nat → Nat → Int32) : (Nat → Nat → Int32) :=
  if (G 0 1) = 0 then
      (va_up (va_up G 0 (upd (upd (G 0) 1 ((((G 0 1) + (10 : Int32)) - (1 : Int32)) - (((G 0 1) + (10 : Int32)) - (1 : Int32)) / (10 : Int32) * (10 : Int32))) 2 ((G 0 2) - (1 : Int32)))) 12 (d_X3_become (G 12) (G 11)))
    else
      if (G 0 1) = 1 then
        (va_up (va_up G 0 (upd (upd (G 0) 1 ((((G 0 1) + (10 : Int32)) - (1 : Int32)) - (((G 0 1) + (10 : Int32)) - (1 : Int32)) / (10 : Int32) * (10 : Int32))) 2 ((G 0 2) - (1 : Int32)))) 12 (d_X3_become (G 12) (G 2)))
      else
        if (G 0 1) = 2 then
          (va_up (va_up G 0 (upd (upd (G 0) 1 ((((G 0 1) + (10 : Int32)) - (1 : Int32)) - (((G 0 1) + (10 : Int32)) - (1 : Int32)) / (10 : Int32) * (10 : Int32))) 2 ((G 0 2) - (1 : Int32)))) 12 (d_X3_become (G 12) (G 3)))
        else
          if (G 0 1) = 3 then
            (va_up (va_up G 0 (upd (upd (G 0) 1 ((((G 0 1) + (10 : Int32)) - (1 : Int32)) - (((G 0 1) + (10 : Int32)) - (1 : Int32)) / (10 : Int32) * (10 : Int32))) 2 ((G 0 2) - (1 : Int32)))) 12 (d_X3_become (G 12) (G 4)))
          else
            if (G 0 1) = 4 then
              (va_up (va_up G 0 (upd (upd (G 0) 1 ((((G 0 1) + (10 : Int32)) - (1 : Int32)) - (((G 0 1) + (10 : Int32)) - (1 : Int32)) / (10 : Int32) * (10 : Int32))) 2 ((G 0 2) - (1 : Int32)))) 12 (d_X3_become (G 12) (G 5)))
            else
              if (G 0 1) = 5 then
                (va_up (va_up G 0 (upd (upd (G 0) 1 ((((G 0 1) + (10 : Int32)) - (1 : Int32)) - (((G 0 1) + (10 : Int32)) - (1 : Int32)) / (10 : Int32) * (10 : Int32))) 2 ((G 0 2) - (1 : Int32)))) 12 (d_X3_become (G 12) (G 6)))
              else
                if (G 0 1) = 6 then
                  (va_up (va_up G 0 (upd (upd (G 0) 1 ((((G 0 1) + (10 : Int32)) - (1 : Int32)) - (((G 0 1) + (10 : Int32)) - (1 : Int32)) / (10 : Int32) * (10 : Int32))) 2 ((G 0 2) - (1 : Int32)))) 12 (d_X3_become (G 12) (G 7)))
                else
                  if (G 0 1) = 7 then
                    (va_up (va_up G 0 (upd (upd (G 0) 1 ((((G 0 1) + (10 : Int32)) - (1 : Int32)) - (((G 0 1) + (10 : Int32)) - (1 : Int32)) / (10 : Int32) * (10 : Int32))) 2 ((G 0 2) - (1 : Int32)))) 12 (d_X3_become (G 12) (G 8)))
                  else
                    if (G 0 1) = 8 then
                      (va_up (va_up G 0 (upd (upd (G 0) 1 ((((G 0 1) + (10 : Int32)) - (1 : Int32)) - (((G 0 1) + (10 : Int32)) - (1 : Int32)) / (10 : Int32) * (10 : Int32))) 2 ((G 0 2) - (1 : Int32)))) 12 (d_X3_become (G 12) (G 9)))
                    else
                      (va_up (va_up G 0 (upd (upd (G 0) 1 ((((G 0 1) + (10 : Int32)) - (1 : Int32)) - (((G 0 1) + (10 : Int32)) - (1 : Int32)) / (10 : Int32) * (10 : Int32))) 2 ((G 0 2) - (1 : Int32)))) 12 (d_X3_become (G 12) (G 10)))
set_option maxHeartbeats 4000000 in
set_option maxRecDepth 100000 in
theorem c_X1_pop (l : Launch) (D : va_G) (cI cC cZ cS : ClassId) (b : Nat → Nat) (G : Nat → Nat → Int32) (nx : Nat) (hnx : G 0 1 = nI nx) (hx10 : nx < 10) : Met l yX1_pop wsX1_pop { frames := 1, cells := 0, slots := 0, locals := 21 } (PcE D cI cC cZ cS [.ref (b 0), .ref (b 12)] (wP cI cC cZ cS b G)) (QcM none D (wP cI cC cZ cS b G) (wP cI cC cZ cS b (d_X1_pop G))) 0 0 (inW (wP cI cC cZ cS b G)) := by
  refine Met.ofW (cc := cX1_pop) (maxL := 2) (ret := none) (by decide) rfl ?_
  intro p e s m args below meth c s₁ B hml hv
  obtain ⟨rfl, hP, hD, hE⟩ := hv
  have hK := hE.1
  have hx := B.exec
  have hb := B.bytes
  have hr := B.returns
  have hts := atoms_spec (ws := wsX1_pop) B.pre
  have hown : s.vm.findClass RX1 = some m.cls := findClass_of_methodNamed B.named
  have hlocks := B.notSynchronized
  have hinX1 : ∀ w ∈ wsX10, w ∈ wsX1_pop := by decide +kernel
  have hD := inW_self hD
  have hS : va_S (inW (wP cI cC cZ cS b G)) s.heap s.heap [] := va_S.rf
  generalize hA : inW (wP cI cC cZ cS b G) = A at hD hS ⊢
  generalize hres : d_X1_pop G = R
  replace hres := hres.symm
  rw [d_X1_pop] at hres
  have hl := lv_entry ([.ref (b 0), .ref (b 12)]) (n := 2) (Nat.le_of_ble_eq_true rfl)
  rw [lg_entry_eq]
  generalize (lg_sl ([.ref (b 0), .ref (b 12)]) ++ List.replicate (2 - (lg_sl ([.ref (b 0), .ref (b 12)])).length) Slot.unset).toArray = ls at hl ⊢
  have hl : lv_has ls 2 [(0, .ref (b 0)), (1, .ref (b 12))] := hl
  by_cases c_1 : (G 0 1) = 0
  · rw [if_pos c_1] at hres
    refine lv_aload_n hx hb dX1_pop_0 rfl (lv_at hl 0 rfl) ?_
    refine lv_aload_n hx hb dX1_pop_1 rfl (lv_at hl 0 rfl) ?_
    refine va_get (D := D) (ci := 1) (v := .int (G 0 1)) (C := RX1) (T := TX1) (N := 3) hx hb hts hinX1 hown hK hP 0 rfl rfl 1 (by decide) (hts (.fieldLink RX1 18 "FirstOut$Past" "next" "I") (by decide +kernel)) (fun _ h9 => h9) rfl dX1_pop_2 ?_
    refine lv_bipush (v := 10) hx hb dX1_pop_5 (by decide) ?_
    refine lv_iadd hx hb dX1_pop_7 ?_
    refine lv_iconst (v := 1) hx hb dX1_pop_8 (by decide) ?_
    refine lv_isub hx hb dX1_pop_9 ?_
    refine lv_bipush (v := 10) hx hb dX1_pop_10 (by decide) ?_
    refine lv_irem hx hb dX1_pop_12 (by decide) ?_
    refine va_put (D := D) (ci := 1) (v := .int ((((G 0 1) + (10 : Int32)) - (1 : Int32)) - (((G 0 1) + (10 : Int32)) - (1 : Int32)) / (10 : Int32) * (10 : Int32))) (ty := .int) (C := RX1) (T := TX1) (N := 3) hx hb hts hinX1 tyX1 tyX1_ok nmX1 hown hK hP hD hS 0 rfl rfl 1 (by decide) (hts (.fieldLink RX1 18 "FirstOut$Past" "next" "I") (by decide +kernel)) (fun _ h9 => h9) rfl (by decide +kernel) rfl rfl (Nat.le_of_ble_eq_true rfl) dX1_pop_13 (fun H locs hP hD hS => ?_)
    have hP : va_P D vwCl (wP cI cC cZ cS b (va_up G 0 (upd (G 0) 1 ((((G 0 1) + (10 : Int32)) - (1 : Int32)) - (((G 0 1) + (10 : Int32)) - (1 : Int32)) / (10 : Int32) * (10 : Int32))))) H := hP
    have hD : va_D A (wP cI cC cZ cS b (va_up G 0 (upd (G 0) 1 ((((G 0 1) + (10 : Int32)) - (1 : Int32)) - (((G 0 1) + (10 : Int32)) - (1 : Int32)) / (10 : Int32) * (10 : Int32))))) := hD
    refine lv_aload_n hx hb dX1_pop_16 rfl (lv_at hl 0 rfl) ?_
    refine lv_dup hx hb dX1_pop_17 rfl ?_
    refine va_get (D := D) (ci := 1) (v := .int (G 0 2)) (C := RX1) (T := TX1) (N := 3) hx hb hts hinX1 hown hK hP 0 rfl rfl 2 (by decide) (hts (.fieldLink RX1 26 "FirstOut$Past" "known" "I") (by decide +kernel)) (fun _ h9 => h9) rfl dX1_pop_18 ?_
    refine lv_iconst (v := 1) hx hb dX1_pop_21 (by decide) ?_
    refine lv_isub hx hb dX1_pop_22 ?_
    refine va_put (D := D) (ci := 1) (v := .int ((G 0 2) - (1 : Int32))) (ty := .int) (C := RX1) (T := TX1) (N := 3) hx hb hts hinX1 tyX1 tyX1_ok nmX1 hown hK hP hD hS 0 rfl rfl 2 (by decide) (hts (.fieldLink RX1 26 "FirstOut$Past" "known" "I") (by decide +kernel)) (fun _ h9 => h9) rfl (by decide +kernel) rfl rfl (Nat.le_of_ble_eq_true rfl) dX1_pop_23 (fun H locs hP hD hS => ?_)
    have hP : va_P D vwCl (wP cI cC cZ cS b (va_up G 0 (upd (upd (G 0) 1 ((((G 0 1) + (10 : Int32)) - (1 : Int32)) - (((G 0 1) + (10 : Int32)) - (1 : Int32)) / (10 : Int32) * (10 : Int32))) 2 ((G 0 2) - (1 : Int32))))) H := hP
    have hD : va_D A (wP cI cC cZ cS b (va_up G 0 (upd (upd (G 0) 1 ((((G 0 1) + (10 : Int32)) - (1 : Int32)) - (((G 0 1) + (10 : Int32)) - (1 : Int32)) / (10 : Int32) * (10 : Int32))) 2 ((G 0 2) - (1 : Int32))))) := hD
    refine lv_aload_n hx hb dX1_pop_26 rfl (lv_at hl 1 rfl) ?_
    refine lv_aload_n hx hb dX1_pop_27 rfl (lv_at hl 0 rfl) ?_
    refine va_get (D := D) (ci := 1) (v := .ref (b 1)) (C := RX1) (T := TX1) (N := 3) hx hb hts hinX1 hown hK hP 0 rfl rfl 0 (by decide) (hts (.fieldLink RX1 11 "FirstOut$Past" "steps" "[LFirstOut$Standing;") (by decide +kernel)) (fun _ h9 => h9) rfl dX1_pop_28 ?_
    refine lv_aload_n hx hb dX1_pop_31 rfl (lv_at hl 0 rfl) ?_
    refine va_get (D := D) (ci := 1) (v := .int ((((G 0 1) + (10 : Int32)) - (1 : Int32)) - (((G 0 1) + (10 : Int32)) - (1 : Int32)) / (10 : Int32) * (10 : Int32))) (C := RX1) (T := TX1) (N := 3) hx hb hts hinX1 hown hK hP 0 rfl rfl 1 (by decide) (hts (.fieldLink RX1 18 "FirstOut$Past" "next" "I") (by decide +kernel)) (fun _ h9 => h9) rfl dX1_pop_32 ?_
    refine m_aald hx hb hK hP 1 3 rfl rfl 9 (by rw [c_1]; decide) (by decide) (by decide) (r := (b 11)) rfl dX1_pop_35 ?_
    have hPc := hP.sub (ws' := (wS2 cI cC cZ cS (b 12) (b 11) (G 12) (G 11))) [12, 11] rfl
    have hDc := hD.sub (ws' := (wS2 cI cC cZ cS (b 12) (b 11) (G 12) (G 11))) [12, 11] (by decide) rfl
    refine m_callM (W.runV (As := [.ref (b 11)]) (rest := []) ⟨hx, hb, hml, hown, hts⟩ (c_X3_become l D cI cC cZ cS (b 12) (b 11) (G 12) (G 11)) (cwV 1 hts gX1_pop_X3_become rfl rfl rfl (by decide +kernel) ⟨Nat.le_of_ble_eq_true rfl, Nat.le_of_ble_eq_true rfl⟩) (preV_of hPc hDc hE (va_recv hK hPc (ci := 3) (q0 := 0) rfl rfl)) rfl rfl hl.1 rfl (lv_room (Nat.le_of_ble_eq_true rfl)) dX1_pop_36 ⟨Nat.zero_le _, Nat.zero_le _⟩) hP hD hS [12, 11] rfl rfl (fun H locs hP hD hS => ?_)
    have hP : va_P D vwCl (wP cI cC cZ cS b (va_up (va_up G 0 (upd (upd (G 0) 1 ((((G 0 1) + (10 : Int32)) - (1 : Int32)) - (((G 0 1) + (10 : Int32)) - (1 : Int32)) / (10 : Int32) * (10 : Int32))) 2 ((G 0 2) - (1 : Int32)))) 12 (d_X3_become (G 12) (G 11)))) H := hP
    have hD : va_D A (wP cI cC cZ cS b (va_up (va_up G 0 (upd (upd (G 0) 1 ((((G 0 1) + (10 : Int32)) - (1 : Int32)) - (((G 0 1) + (10 : Int32)) - (1 : Int32)) / (10 : Int32) * (10 : Int32))) 2 ((G 0 2) - (1 : Int32)))) 12 (d_X3_become (G 12) (G 11)))) := hD
    refine W.eq (g2 := F0 m 39 ls []) rfl ?_
    rw [hres]
    exact W.vret hx hb hr (fun t ht hW => ⟨rfl, by rw [ht]; exact hP, by rw [hA]; exact hS.F ht⟩) hS.2.2 dX1_pop_39
  · rw [if_neg c_1] at hres
    by_cases c_2 : (G 0 1) = 1
    · rw [if_pos c_2] at hres
      refine lv_aload_n hx hb dX1_pop_0 rfl (lv_at hl 0 rfl) ?_
      refine lv_aload_n hx hb dX1_pop_1 rfl (lv_at hl 0 rfl) ?_
      refine va_get (D := D) (ci := 1) (v := .int (G 0 1)) (C := RX1) (T := TX1) (N := 3) hx hb hts hinX1 hown hK hP 0 rfl rfl 1 (by decide) (hts (.fieldLink RX1 18 "FirstOut$Past" "next" "I") (by decide +kernel)) (fun _ h9 => h9) rfl dX1_pop_2 ?_
      refine lv_bipush (v := 10) hx hb dX1_pop_5 (by decide) ?_
      refine lv_iadd hx hb dX1_pop_7 ?_
      refine lv_iconst (v := 1) hx hb dX1_pop_8 (by decide) ?_
      refine lv_isub hx hb dX1_pop_9 ?_
      refine lv_bipush (v := 10) hx hb dX1_pop_10 (by decide) ?_
      refine lv_irem hx hb dX1_pop_12 (by decide) ?_
      refine va_put (D := D) (ci := 1) (v := .int ((((G 0 1) + (10 : Int32)) - (1 : Int32)) - (((G 0 1) + (10 : Int32)) - (1 : Int32)) / (10 : Int32) * (10 : Int32))) (ty := .int) (C := RX1) (T := TX1) (N := 3) hx hb hts hinX1 tyX1 tyX1_ok nmX1 hown hK hP hD hS 0 rfl rfl 1 (by decide) (hts (.fieldLink RX1 18 "FirstOut$Past" "next" "I") (by decide +kernel)) (fun _ h9 => h9) rfl (by decide +kernel) rfl rfl (Nat.le_of_ble_eq_true rfl) dX1_pop_13 (fun H locs hP hD hS => ?_)
      have hP : va_P D vwCl (wP cI cC cZ cS b (va_up G 0 (upd (G 0) 1 ((((G 0 1) + (10 : Int32)) - (1 : Int32)) - (((G 0 1) + (10 : Int32)) - (1 : Int32)) / (10 : Int32) * (10 : Int32))))) H := hP
      have hD : va_D A (wP cI cC cZ cS b (va_up G 0 (upd (G 0) 1 ((((G 0 1) + (10 : Int32)) - (1 : Int32)) - (((G 0 1) + (10 : Int32)) - (1 : Int32)) / (10 : Int32) * (10 : Int32))))) := hD
      refine lv_aload_n hx hb dX1_pop_16 rfl (lv_at hl 0 rfl) ?_
      refine lv_dup hx hb dX1_pop_17 rfl ?_
      refine va_get (D := D) (ci := 1) (v := .int (G 0 2)) (C := RX1) (T := TX1) (N := 3) hx hb hts hinX1 hown hK hP 0 rfl rfl 2 (by decide) (hts (.fieldLink RX1 26 "FirstOut$Past" "known" "I") (by decide +kernel)) (fun _ h9 => h9) rfl dX1_pop_18 ?_
      refine lv_iconst (v := 1) hx hb dX1_pop_21 (by decide) ?_
      refine lv_isub hx hb dX1_pop_22 ?_
      refine va_put (D := D) (ci := 1) (v := .int ((G 0 2) - (1 : Int32))) (ty := .int) (C := RX1) (T := TX1) (N := 3) hx hb hts hinX1 tyX1 tyX1_ok nmX1 hown hK hP hD hS 0 rfl rfl 2 (by decide) (hts (.fieldLink RX1 26 "FirstOut$Past" "known" "I") (by decide +kernel)) (fun _ h9 => h9) rfl (by decide +kernel) rfl rfl (Nat.le_of_ble_eq_true rfl) dX1_pop_23 (fun H locs hP hD hS => ?_)
      have hP : va_P D vwCl (wP cI cC cZ cS b (va_up G 0 (upd (upd (G 0) 1 ((((G 0 1) + (10 : Int32)) - (1 : Int32)) - (((G 0 1) + (10 : Int32)) - (1 : Int32)) / (10 : Int32) * (10 : Int32))) 2 ((G 0 2) - (1 : Int32))))) H := hP
      have hD : va_D A (wP cI cC cZ cS b (va_up G 0 (upd (upd (G 0) 1 ((((G 0 1) + (10 : Int32)) - (1 : Int32)) - (((G 0 1) + (10 : Int32)) - (1 : Int32)) / (10 : Int32) * (10 : Int32))) 2 ((G 0 2) - (1 : Int32))))) := hD
      refine lv_aload_n hx hb dX1_pop_26 rfl (lv_at hl 1 rfl) ?_
      refine lv_aload_n hx hb dX1_pop_27 rfl (lv_at hl 0 rfl) ?_
      refine va_get (D := D) (ci := 1) (v := .ref (b 1)) (C := RX1) (T := TX1) (N := 3) hx hb hts hinX1 hown hK hP 0 rfl rfl 0 (by decide) (hts (.fieldLink RX1 11 "FirstOut$Past" "steps" "[LFirstOut$Standing;") (by decide +kernel)) (fun _ h9 => h9) rfl dX1_pop_28 ?_
      refine lv_aload_n hx hb dX1_pop_31 rfl (lv_at hl 0 rfl) ?_
      refine va_get (D := D) (ci := 1) (v := .int ((((G 0 1) + (10 : Int32)) - (1 : Int32)) - (((G 0 1) + (10 : Int32)) - (1 : Int32)) / (10 : Int32) * (10 : Int32))) (C := RX1) (T := TX1) (N := 3) hx hb hts hinX1 hown hK hP 0 rfl rfl 1 (by decide) (hts (.fieldLink RX1 18 "FirstOut$Past" "next" "I") (by decide +kernel)) (fun _ h9 => h9) rfl dX1_pop_32 ?_
      refine m_aald hx hb hK hP 1 3 rfl rfl 0 (by rw [c_2]; decide) (by decide) (by decide) (r := (b 2)) rfl dX1_pop_35 ?_
      have hPc := hP.sub (ws' := (wS2 cI cC cZ cS (b 12) (b 2) (G 12) (G 2))) [12, 2] rfl
      have hDc := hD.sub (ws' := (wS2 cI cC cZ cS (b 12) (b 2) (G 12) (G 2))) [12, 2] (by decide) rfl
      refine m_callM (W.runV (As := [.ref (b 2)]) (rest := []) ⟨hx, hb, hml, hown, hts⟩ (c_X3_become l D cI cC cZ cS (b 12) (b 2) (G 12) (G 2)) (cwV 1 hts gX1_pop_X3_become rfl rfl rfl (by decide +kernel) ⟨Nat.le_of_ble_eq_true rfl, Nat.le_of_ble_eq_true rfl⟩) (preV_of hPc hDc hE (va_recv hK hPc (ci := 3) (q0 := 0) rfl rfl)) rfl rfl hl.1 rfl (lv_room (Nat.le_of_ble_eq_true rfl)) dX1_pop_36 ⟨Nat.zero_le _, Nat.zero_le _⟩) hP hD hS [12, 2] rfl rfl (fun H locs hP hD hS => ?_)
      have hP : va_P D vwCl (wP cI cC cZ cS b (va_up (va_up G 0 (upd (upd (G 0) 1 ((((G 0 1) + (10 : Int32)) - (1 : Int32)) - (((G 0 1) + (10 : Int32)) - (1 : Int32)) / (10 : Int32) * (10 : Int32))) 2 ((G 0 2) - (1 : Int32)))) 12 (d_X3_become (G 12) (G 2)))) H := hP
      have hD : va_D A (wP cI cC cZ cS b (va_up (va_up G 0 (upd (upd (G 0) 1 ((((G 0 1) + (10 : Int32)) - (1 : Int32)) - (((G 0 1) + (10 : Int32)) - (1 : Int32)) / (10 : Int32) * (10 : Int32))) 2 ((G 0 2) - (1 : Int32)))) 12 (d_X3_become (G 12) (G 2)))) := hD
      refine W.eq (g2 := F0 m 39 ls []) rfl ?_
      rw [hres]
      exact W.vret hx hb hr (fun t ht hW => ⟨rfl, by rw [ht]; exact hP, by rw [hA]; exact hS.F ht⟩) hS.2.2 dX1_pop_39
    · rw [if_neg c_2] at hres
      by_cases c_3 : (G 0 1) = 2
      · rw [if_pos c_3] at hres
        refine lv_aload_n hx hb dX1_pop_0 rfl (lv_at hl 0 rfl) ?_
        refine lv_aload_n hx hb dX1_pop_1 rfl (lv_at hl 0 rfl) ?_
        refine va_get (D := D) (ci := 1) (v := .int (G 0 1)) (C := RX1) (T := TX1) (N := 3) hx hb hts hinX1 hown hK hP 0 rfl rfl 1 (by decide) (hts (.fieldLink RX1 18 "FirstOut$Past" "next" "I") (by decide +kernel)) (fun _ h9 => h9) rfl dX1_pop_2 ?_
        refine lv_bipush (v := 10) hx hb dX1_pop_5 (by decide) ?_
        refine lv_iadd hx hb dX1_pop_7 ?_
        refine lv_iconst (v := 1) hx hb dX1_pop_8 (by decide) ?_
        refine lv_isub hx hb dX1_pop_9 ?_
        refine lv_bipush (v := 10) hx hb dX1_pop_10 (by decide) ?_
        refine lv_irem hx hb dX1_pop_12 (by decide) ?_
        refine va_put (D := D) (ci := 1) (v := .int ((((G 0 1) + (10 : Int32)) - (1 : Int32)) - (((G 0 1) + (10 : Int32)) - (1 : Int32)) / (10 : Int32) * (10 : Int32))) (ty := .int) (C := RX1) (T := TX1) (N := 3) hx hb hts hinX1 tyX1 tyX1_ok nmX1 hown hK hP hD hS 0 rfl rfl 1 (by decide) (hts (.fieldLink RX1 18 "FirstOut$Past" "next" "I") (by decide +kernel)) (fun _ h9 => h9) rfl (by decide +kernel) rfl rfl (Nat.le_of_ble_eq_true rfl) dX1_pop_13 (fun H locs hP hD hS => ?_)
        have hP : va_P D vwCl (wP cI cC cZ cS b (va_up G 0 (upd (G 0) 1 ((((G 0 1) + (10 : Int32)) - (1 : Int32)) - (((G 0 1) + (10 : Int32)) - (1 : Int32)) / (10 : Int32) * (10 : Int32))))) H := hP
        have hD : va_D A (wP cI cC cZ cS b (va_up G 0 (upd (G 0) 1 ((((G 0 1) + (10 : Int32)) - (1 : Int32)) - (((G 0 1) + (10 : Int32)) - (1 : Int32)) / (10 : Int32) * (10 : Int32))))) := hD
        refine lv_aload_n hx hb dX1_pop_16 rfl (lv_at hl 0 rfl) ?_
        refine lv_dup hx hb dX1_pop_17 rfl ?_
        refine va_get (D := D) (ci := 1) (v := .int (G 0 2)) (C := RX1) (T := TX1) (N := 3) hx hb hts hinX1 hown hK hP 0 rfl rfl 2 (by decide) (hts (.fieldLink RX1 26 "FirstOut$Past" "known" "I") (by decide +kernel)) (fun _ h9 => h9) rfl dX1_pop_18 ?_
        refine lv_iconst (v := 1) hx hb dX1_pop_21 (by decide) ?_
        refine lv_isub hx hb dX1_pop_22 ?_
        refine va_put (D := D) (ci := 1) (v := .int ((G 0 2) - (1 : Int32))) (ty := .int) (C := RX1) (T := TX1) (N := 3) hx hb hts hinX1 tyX1 tyX1_ok nmX1 hown hK hP hD hS 0 rfl rfl 2 (by decide) (hts (.fieldLink RX1 26 "FirstOut$Past" "known" "I") (by decide +kernel)) (fun _ h9 => h9) rfl (by decide +kernel) rfl rfl (Nat.le_of_ble_eq_true rfl) dX1_pop_23 (fun H locs hP hD hS => ?_)
        have hP : va_P D vwCl (wP cI cC cZ cS b (va_up G 0 (upd (upd (G 0) 1 ((((G 0 1) + (10 : Int32)) - (1 : Int32)) - (((G 0 1) + (10 : Int32)) - (1 : Int32)) / (10 : Int32) * (10 : Int32))) 2 ((G 0 2) - (1 : Int32))))) H := hP
        have hD : va_D A (wP cI cC cZ cS b (va_up G 0 (upd (upd (G 0) 1 ((((G 0 1) + (10 : Int32)) - (1 : Int32)) - (((G 0 1) + (10 : Int32)) - (1 : Int32)) / (10 : Int32) * (10 : Int32))) 2 ((G 0 2) - (1 : Int32))))) := hD
        refine lv_aload_n hx hb dX1_pop_26 rfl (lv_at hl 1 rfl) ?_
        refine lv_aload_n hx hb dX1_pop_27 rfl (lv_at hl 0 rfl) ?_
        refine va_get (D := D) (ci := 1) (v := .ref (b 1)) (C := RX1) (T := TX1) (N := 3) hx hb hts hinX1 hown hK hP 0 rfl rfl 0 (by decide) (hts (.fieldLink RX1 11 "FirstOut$Past" "steps" "[LFirstOut$Standing;") (by decide +kernel)) (fun _ h9 => h9) rfl dX1_pop_28 ?_
        refine lv_aload_n hx hb dX1_pop_31 rfl (lv_at hl 0 rfl) ?_
        refine va_get (D := D) (ci := 1) (v := .int ((((G 0 1) + (10 : Int32)) - (1 : Int32)) - (((G 0 1) + (10 : Int32)) - (1 : Int32)) / (10 : Int32) * (10 : Int32))) (C := RX1) (T := TX1) (N := 3) hx hb hts hinX1 hown hK hP 0 rfl rfl 1 (by decide) (hts (.fieldLink RX1 18 "FirstOut$Past" "next" "I") (by decide +kernel)) (fun _ h9 => h9) rfl dX1_pop_32 ?_
        refine m_aald hx hb hK hP 1 3 rfl rfl 1 (by rw [c_3]; decide) (by decide) (by decide) (r := (b 3)) rfl dX1_pop_35 ?_
        have hPc := hP.sub (ws' := (wS2 cI cC cZ cS (b 12) (b 3) (G 12) (G 3))) [12, 3] rfl
        have hDc := hD.sub (ws' := (wS2 cI cC cZ cS (b 12) (b 3) (G 12) (G 3))) [12, 3] (by decide) rfl
        refine m_callM (W.runV (As := [.ref (b 3)]) (rest := []) ⟨hx, hb, hml, hown, hts⟩ (c_X3_become l D cI cC cZ cS (b 12) (b 3) (G 12) (G 3)) (cwV 1 hts gX1_pop_X3_become rfl rfl rfl (by decide +kernel) ⟨Nat.le_of_ble_eq_true rfl, Nat.le_of_ble_eq_true rfl⟩) (preV_of hPc hDc hE (va_recv hK hPc (ci := 3) (q0 := 0) rfl rfl)) rfl rfl hl.1 rfl (lv_room (Nat.le_of_ble_eq_true rfl)) dX1_pop_36 ⟨Nat.zero_le _, Nat.zero_le _⟩) hP hD hS [12, 3] rfl rfl (fun H locs hP hD hS => ?_)
        have hP : va_P D vwCl (wP cI cC cZ cS b (va_up (va_up G 0 (upd (upd (G 0) 1 ((((G 0 1) + (10 : Int32)) - (1 : Int32)) - (((G 0 1) + (10 : Int32)) - (1 : Int32)) / (10 : Int32) * (10 : Int32))) 2 ((G 0 2) - (1 : Int32)))) 12 (d_X3_become (G 12) (G 3)))) H := hP
        have hD : va_D A (wP cI cC cZ cS b (va_up (va_up G 0 (upd (upd (G 0) 1 ((((G 0 1) + (10 : Int32)) - (1 : Int32)) - (((G 0 1) + (10 : Int32)) - (1 : Int32)) / (10 : Int32) * (10 : Int32))) 2 ((G 0 2) - (1 : Int32)))) 12 (d_X3_become (G 12) (G 3)))) := hD
        refine W.eq (g2 := F0 m 39 ls []) rfl ?_
        rw [hres]
        exact W.vret hx hb hr (fun t ht hW => ⟨rfl, by rw [ht]; exact hP, by rw [hA]; exact hS.F ht⟩) hS.2.2 dX1_pop_39
      · rw [if_neg c_3] at hres
        by_cases c_4 : (G 0 1) = 3
        · rw [if_pos c_4] at hres
          refine lv_aload_n hx hb dX1_pop_0 rfl (lv_at hl 0 rfl) ?_
          refine lv_aload_n hx hb dX1_pop_1 rfl (lv_at hl 0 rfl) ?_
          refine va_get (D := D) (ci := 1) (v := .int (G 0 1)) (C := RX1) (T := TX1) (N := 3) hx hb hts hinX1 hown hK hP 0 rfl rfl 1 (by decide) (hts (.fieldLink RX1 18 "FirstOut$Past" "next" "I") (by decide +kernel)) (fun _ h9 => h9) rfl dX1_pop_2 ?_
          refine lv_bipush (v := 10) hx hb dX1_pop_5 (by decide) ?_
          refine lv_iadd hx hb dX1_pop_7 ?_
          refine lv_iconst (v := 1) hx hb dX1_pop_8 (by decide) ?_
          refine lv_isub hx hb dX1_pop_9 ?_
          refine lv_bipush (v := 10) hx hb dX1_pop_10 (by decide) ?_
          refine lv_irem hx hb dX1_pop_12 (by decide) ?_
          refine va_put (D := D) (ci := 1) (v := .int ((((G 0 1) + (10 : Int32)) - (1 : Int32)) - (((G 0 1) + (10 : Int32)) - (1 : Int32)) / (10 : Int32) * (10 : Int32))) (ty := .int) (C := RX1) (T := TX1) (N := 3) hx hb hts hinX1 tyX1 tyX1_ok nmX1 hown hK hP hD hS 0 rfl rfl 1 (by decide) (hts (.fieldLink RX1 18 "FirstOut$Past" "next" "I") (by decide +kernel)) (fun _ h9 => h9) rfl (by decide +kernel) rfl rfl (Nat.le_of_ble_eq_true rfl) dX1_pop_13 (fun H locs hP hD hS => ?_)
          have hP : va_P D vwCl (wP cI cC cZ cS b (va_up G 0 (upd (G 0) 1 ((((G 0 1) + (10 : Int32)) - (1 : Int32)) - (((G 0 1) + (10 : Int32)) - (1 : Int32)) / (10 : Int32) * (10 : Int32))))) H := hP
          have hD : va_D A (wP cI cC cZ cS b (va_up G 0 (upd (G 0) 1 ((((G 0 1) + (10 : Int32)) - (1 : Int32)) - (((G 0 1) + (10 : Int32)) - (1 : Int32)) / (10 : Int32) * (10 : Int32))))) := hD
          refine lv_aload_n hx hb dX1_pop_16 rfl (lv_at hl 0 rfl) ?_
          refine lv_dup hx hb dX1_pop_17 rfl ?_
          refine va_get (D := D) (ci := 1) (v := .int (G 0 2)) (C := RX1) (T := TX1) (N := 3) hx hb hts hinX1 hown hK hP 0 rfl rfl 2 (by decide) (hts (.fieldLink RX1 26 "FirstOut$Past" "known" "I") (by decide +kernel)) (fun _ h9 => h9) rfl dX1_pop_18 ?_
          refine lv_iconst (v := 1) hx hb dX1_pop_21 (by decide) ?_
          refine lv_isub hx hb dX1_pop_22 ?_
          refine va_put (D := D) (ci := 1) (v := .int ((G 0 2) - (1 : Int32))) (ty := .int) (C := RX1) (T := TX1) (N := 3) hx hb hts hinX1 tyX1 tyX1_ok nmX1 hown hK hP hD hS 0 rfl rfl 2 (by decide) (hts (.fieldLink RX1 26 "FirstOut$Past" "known" "I") (by decide +kernel)) (fun _ h9 => h9) rfl (by decide +kernel) rfl rfl (Nat.le_of_ble_eq_true rfl) dX1_pop_23 (fun H locs hP hD hS => ?_)
          have hP : va_P D vwCl (wP cI cC cZ cS b (va_up G 0 (upd (upd (G 0) 1 ((((G 0 1) + (10 : Int32)) - (1 : Int32)) - (((G 0 1) + (10 : Int32)) - (1 : Int32)) / (10 : Int32) * (10 : Int32))) 2 ((G 0 2) - (1 : Int32))))) H := hP
          have hD : va_D A (wP cI cC cZ cS b (va_up G 0 (upd (upd (G 0) 1 ((((G 0 1) + (10 : Int32)) - (1 : Int32)) - (((G 0 1) + (10 : Int32)) - (1 : Int32)) / (10 : Int32) * (10 : Int32))) 2 ((G 0 2) - (1 : Int32))))) := hD
          refine lv_aload_n hx hb dX1_pop_26 rfl (lv_at hl 1 rfl) ?_
          refine lv_aload_n hx hb dX1_pop_27 rfl (lv_at hl 0 rfl) ?_
          refine va_get (D := D) (ci := 1) (v := .ref (b 1)) (C := RX1) (T := TX1) (N := 3) hx hb hts hinX1 hown hK hP 0 rfl rfl 0 (by decide) (hts (.fieldLink RX1 11 "FirstOut$Past" "steps" "[LFirstOut$Standing;") (by decide +kernel)) (fun _ h9 => h9) rfl dX1_pop_28 ?_
          refine lv_aload_n hx hb dX1_pop_31 rfl (lv_at hl 0 rfl) ?_
          refine va_get (D := D) (ci := 1) (v := .int ((((G 0 1) + (10 : Int32)) - (1 : Int32)) - (((G 0 1) + (10 : Int32)) - (1 : Int32)) / (10 : Int32) * (10 : Int32))) (C := RX1) (T := TX1) (N := 3) hx hb hts hinX1 hown hK hP 0 rfl rfl 1 (by decide) (hts (.fieldLink RX1 18 "FirstOut$Past" "next" "I") (by decide +kernel)) (fun _ h9 => h9) rfl dX1_pop_32 ?_
          refine m_aald hx hb hK hP 1 3 rfl rfl 2 (by rw [c_4]; decide) (by decide) (by decide) (r := (b 4)) rfl dX1_pop_35 ?_
          have hPc := hP.sub (ws' := (wS2 cI cC cZ cS (b 12) (b 4) (G 12) (G 4))) [12, 4] rfl
          have hDc := hD.sub (ws' := (wS2 cI cC cZ cS (b 12) (b 4) (G 12) (G 4))) [12, 4] (by decide) rfl
          refine m_callM (W.runV (As := [.ref (b 4)]) (rest := []) ⟨hx, hb, hml, hown, hts⟩ (c_X3_become l D cI cC cZ cS (b 12) (b 4) (G 12) (G 4)) (cwV 1 hts gX1_pop_X3_become rfl rfl rfl (by decide +kernel) ⟨Nat.le_of_ble_eq_true rfl, Nat.le_of_ble_eq_true rfl⟩) (preV_of hPc hDc hE (va_recv hK hPc (ci := 3) (q0 := 0) rfl rfl)) rfl rfl hl.1 rfl (lv_room (Nat.le_of_ble_eq_true rfl)) dX1_pop_36 ⟨Nat.zero_le _, Nat.zero_le _⟩) hP hD hS [12, 4] rfl rfl (fun H locs hP hD hS => ?_)
          have hP : va_P D vwCl (wP cI cC cZ cS b (va_up (va_up G 0 (upd (upd (G 0) 1 ((((G 0 1) + (10 : Int32)) - (1 : Int32)) - (((G 0 1) + (10 : Int32)) - (1 : Int32)) / (10 : Int32) * (10 : Int32))) 2 ((G 0 2) - (1 : Int32)))) 12 (d_X3_become (G 12) (G 4)))) H := hP
          have hD : va_D A (wP cI cC cZ cS b (va_up (va_up G 0 (upd (upd (G 0) 1 ((((G 0 1) + (10 : Int32)) - (1 : Int32)) - (((G 0 1) + (10 : Int32)) - (1 : Int32)) / (10 : Int32) * (10 : Int32))) 2 ((G 0 2) - (1 : Int32)))) 12 (d_X3_become (G 12) (G 4)))) := hD
          refine W.eq (g2 := F0 m 39 ls []) rfl ?_
          rw [hres]
          exact W.vret hx hb hr (fun t ht hW => ⟨rfl, by rw [ht]; exact hP, by rw [hA]; exact hS.F ht⟩) hS.2.2 dX1_pop_39
        · rw [if_neg c_4] at hres
          by_cases c_5 : (G 0 1) = 4
          · rw [if_pos c_5] at hres
            refine lv_aload_n hx hb dX1_pop_0 rfl (lv_at hl 0 rfl) ?_
            refine lv_aload_n hx hb dX1_pop_1 rfl (lv_at hl 0 rfl) ?_
            refine va_get (D := D) (ci := 1) (v := .int (G 0 1)) (C := RX1) (T := TX1) (N := 3) hx hb hts hinX1 hown hK hP 0 rfl rfl 1 (by decide) (hts (.fieldLink RX1 18 "FirstOut$Past" "next" "I") (by decide +kernel)) (fun _ h9 => h9) rfl dX1_pop_2 ?_
            refine lv_bipush (v := 10) hx hb dX1_pop_5 (by decide) ?_
            refine lv_iadd hx hb dX1_pop_7 ?_
            refine lv_iconst (v := 1) hx hb dX1_pop_8 (by decide) ?_
            refine lv_isub hx hb dX1_pop_9 ?_
            refine lv_bipush (v := 10) hx hb dX1_pop_10 (by decide) ?_
            refine lv_irem hx hb dX1_pop_12 (by decide) ?_
            refine va_put (D := D) (ci := 1) (v := .int ((((G 0 1) + (10 : Int32)) - (1 : Int32)) - (((G 0 1) + (10 : Int32)) - (1 : Int32)) / (10 : Int32) * (10 : Int32))) (ty := .int) (C := RX1) (T := TX1) (N := 3) hx hb hts hinX1 tyX1 tyX1_ok nmX1 hown hK hP hD hS 0 rfl rfl 1 (by decide) (hts (.fieldLink RX1 18 "FirstOut$Past" "next" "I") (by decide +kernel)) (fun _ h9 => h9) rfl (by decide +kernel) rfl rfl (Nat.le_of_ble_eq_true rfl) dX1_pop_13 (fun H locs hP hD hS => ?_)
            have hP : va_P D vwCl (wP cI cC cZ cS b (va_up G 0 (upd (G 0) 1 ((((G 0 1) + (10 : Int32)) - (1 : Int32)) - (((G 0 1) + (10 : Int32)) - (1 : Int32)) / (10 : Int32) * (10 : Int32))))) H := hP
            have hD : va_D A (wP cI cC cZ cS b (va_up G 0 (upd (G 0) 1 ((((G 0 1) + (10 : Int32)) - (1 : Int32)) - (((G 0 1) + (10 : Int32)) - (1 : Int32)) / (10 : Int32) * (10 : Int32))))) := hD
            refine lv_aload_n hx hb dX1_pop_16 rfl (lv_at hl 0 rfl) ?_
            refine lv_dup hx hb dX1_pop_17 rfl ?_
            refine va_get (D := D) (ci := 1) (v := .int (G 0 2)) (C := RX1) (T := TX1) (N := 3) hx hb hts hinX1 hown hK hP 0 rfl rfl 2 (by decide) (hts (.fieldLink RX1 26 "FirstOut$Past" "known" "I") (by decide +kernel)) (fun _ h9 => h9) rfl dX1_pop_18 ?_
            refine lv_iconst (v := 1) hx hb dX1_pop_21 (by decide) ?_
            refine lv_isub hx hb dX1_pop_22 ?_
            refine va_put (D := D) (ci := 1) (v := .int ((G 0 2) - (1 : Int32))) (ty := .int) (C := RX1) (T := TX1) (N := 3) hx hb hts hinX1 tyX1 tyX1_ok nmX1 hown hK hP hD hS 0 rfl rfl 2 (by decide) (hts (.fieldLink RX1 26 "FirstOut$Past" "known" "I") (by decide +kernel)) (fun _ h9 => h9) rfl (by decide +kernel) rfl rfl (Nat.le_of_ble_eq_true rfl) dX1_pop_23 (fun H locs hP hD hS => ?_)
            have hP : va_P D vwCl (wP cI cC cZ cS b (va_up G 0 (upd (upd (G 0) 1 ((((G 0 1) + (10 : Int32)) - (1 : Int32)) - (((G 0 1) + (10 : Int32)) - (1 : Int32)) / (10 : Int32) * (10 : Int32))) 2 ((G 0 2) - (1 : Int32))))) H := hP
            have hD : va_D A (wP cI cC cZ cS b (va_up G 0 (upd (upd (G 0) 1 ((((G 0 1) + (10 : Int32)) - (1 : Int32)) - (((G 0 1) + (10 : Int32)) - (1 : Int32)) / (10 : Int32) * (10 : Int32))) 2 ((G 0 2) - (1 : Int32))))) := hD
            refine lv_aload_n hx hb dX1_pop_26 rfl (lv_at hl 1 rfl) ?_
            refine lv_aload_n hx hb dX1_pop_27 rfl (lv_at hl 0 rfl) ?_
            refine va_get (D := D) (ci := 1) (v := .ref (b 1)) (C := RX1) (T := TX1) (N := 3) hx hb hts hinX1 hown hK hP 0 rfl rfl 0 (by decide) (hts (.fieldLink RX1 11 "FirstOut$Past" "steps" "[LFirstOut$Standing;") (by decide +kernel)) (fun _ h9 => h9) rfl dX1_pop_28 ?_
            refine lv_aload_n hx hb dX1_pop_31 rfl (lv_at hl 0 rfl) ?_
            refine va_get (D := D) (ci := 1) (v := .int ((((G 0 1) + (10 : Int32)) - (1 : Int32)) - (((G 0 1) + (10 : Int32)) - (1 : Int32)) / (10 : Int32) * (10 : Int32))) (C := RX1) (T := TX1) (N := 3) hx hb hts hinX1 hown hK hP 0 rfl rfl 1 (by decide) (hts (.fieldLink RX1 18 "FirstOut$Past" "next" "I") (by decide +kernel)) (fun _ h9 => h9) rfl dX1_pop_32 ?_
            refine m_aald hx hb hK hP 1 3 rfl rfl 3 (by rw [c_5]; decide) (by decide) (by decide) (r := (b 5)) rfl dX1_pop_35 ?_
            have hPc := hP.sub (ws' := (wS2 cI cC cZ cS (b 12) (b 5) (G 12) (G 5))) [12, 5] rfl
            have hDc := hD.sub (ws' := (wS2 cI cC cZ cS (b 12) (b 5) (G 12) (G 5))) [12, 5] (by decide) rfl
            refine m_callM (W.runV (As := [.ref (b 5)]) (rest := []) ⟨hx, hb, hml, hown, hts⟩ (c_X3_become l D cI cC cZ cS (b 12) (b 5) (G 12) (G 5)) (cwV 1 hts gX1_pop_X3_become rfl rfl rfl (by decide +kernel) ⟨Nat.le_of_ble_eq_true rfl, Nat.le_of_ble_eq_true rfl⟩) (preV_of hPc hDc hE (va_recv hK hPc (ci := 3) (q0 := 0) rfl rfl)) rfl rfl hl.1 rfl (lv_room (Nat.le_of_ble_eq_true rfl)) dX1_pop_36 ⟨Nat.zero_le _, Nat.zero_le _⟩) hP hD hS [12, 5] rfl rfl (fun H locs hP hD hS => ?_)
            have hP : va_P D vwCl (wP cI cC cZ cS b (va_up (va_up G 0 (upd (upd (G 0) 1 ((((G 0 1) + (10 : Int32)) - (1 : Int32)) - (((G 0 1) + (10 : Int32)) - (1 : Int32)) / (10 : Int32) * (10 : Int32))) 2 ((G 0 2) - (1 : Int32)))) 12 (d_X3_become (G 12) (G 5)))) H := hP
            have hD : va_D A (wP cI cC cZ cS b (va_up (va_up G 0 (upd (upd (G 0) 1 ((((G 0 1) + (10 : Int32)) - (1 : Int32)) - (((G 0 1) + (10 : Int32)) - (1 : Int32)) / (10 : Int32) * (10 : Int32))) 2 ((G 0 2) - (1 : Int32)))) 12 (d_X3_become (G 12) (G 5)))) := hD
            refine W.eq (g2 := F0 m 39 ls []) rfl ?_
            rw [hres]
            exact W.vret hx hb hr (fun t ht hW => ⟨rfl, by rw [ht]; exact hP, by rw [hA]; exact hS.F ht⟩) hS.2.2 dX1_pop_39
          · rw [if_neg c_5] at hres
            by_cases c_6 : (G 0 1) = 5
            · rw [if_pos c_6] at hres
              refine lv_aload_n hx hb dX1_pop_0 rfl (lv_at hl 0 rfl) ?_
              refine lv_aload_n hx hb dX1_pop_1 rfl (lv_at hl 0 rfl) ?_
              refine va_get (D := D) (ci := 1) (v := .int (G 0 1)) (C := RX1) (T := TX1) (N := 3) hx hb hts hinX1 hown hK hP 0 rfl rfl 1 (by decide) (hts (.fieldLink RX1 18 "FirstOut$Past" "next" "I") (by decide +kernel)) (fun _ h9 => h9) rfl dX1_pop_2 ?_
              refine lv_bipush (v := 10) hx hb dX1_pop_5 (by decide) ?_
              refine lv_iadd hx hb dX1_pop_7 ?_
              refine lv_iconst (v := 1) hx hb dX1_pop_8 (by decide) ?_
              refine lv_isub hx hb dX1_pop_9 ?_
              refine lv_bipush (v := 10) hx hb dX1_pop_10 (by decide) ?_
              refine lv_irem hx hb dX1_pop_12 (by decide) ?_
              refine va_put (D := D) (ci := 1) (v := .int ((((G 0 1) + (10 : Int32)) - (1 : Int32)) - (((G 0 1) + (10 : Int32)) - (1 : Int32)) / (10 : Int32) * (10 : Int32))) (ty := .int) (C := RX1) (T := TX1) (N := 3) hx hb hts hinX1 tyX1 tyX1_ok nmX1 hown hK hP hD hS 0 rfl rfl 1 (by decide) (hts (.fieldLink RX1 18 "FirstOut$Past" "next" "I") (by decide +kernel)) (fun _ h9 => h9) rfl (by decide +kernel) rfl rfl (Nat.le_of_ble_eq_true rfl) dX1_pop_13 (fun H locs hP hD hS => ?_)
              have hP : va_P D vwCl (wP cI cC cZ cS b (va_up G 0 (upd (G 0) 1 ((((G 0 1) + (10 : Int32)) - (1 : Int32)) - (((G 0 1) + (10 : Int32)) - (1 : Int32)) / (10 : Int32) * (10 : Int32))))) H := hP
              have hD : va_D A (wP cI cC cZ cS b (va_up G 0 (upd (G 0) 1 ((((G 0 1) + (10 : Int32)) - (1 : Int32)) - (((G 0 1) + (10 : Int32)) - (1 : Int32)) / (10 : Int32) * (10 : Int32))))) := hD
              refine lv_aload_n hx hb dX1_pop_16 rfl (lv_at hl 0 rfl) ?_
              refine lv_dup hx hb dX1_pop_17 rfl ?_
              refine va_get (D := D) (ci := 1) (v := .int (G 0 2)) (C := RX1) (T := TX1) (N := 3) hx hb hts hinX1 hown hK hP 0 rfl rfl 2 (by decide) (hts (.fieldLink RX1 26 "FirstOut$Past" "known" "I") (by decide +kernel)) (fun _ h9 => h9) rfl dX1_pop_18 ?_
              refine lv_iconst (v := 1) hx hb dX1_pop_21 (by decide) ?_
              refine lv_isub hx hb dX1_pop_22 ?_
              refine va_put (D := D) (ci := 1) (v := .int ((G 0 2) - (1 : Int32))) (ty := .int) (C := RX1) (T := TX1) (N := 3) hx hb hts hinX1 tyX1 tyX1_ok nmX1 hown hK hP hD hS 0 rfl rfl 2 (by decide) (hts (.fieldLink RX1 26 "FirstOut$Past" "known" "I") (by decide +kernel)) (fun _ h9 => h9) rfl (by decide +kernel) rfl rfl (Nat.le_of_ble_eq_true rfl) dX1_pop_23 (fun H locs hP hD hS => ?_)
              have hP : va_P D vwCl (wP cI cC cZ cS b (va_up G 0 (upd (upd (G 0) 1 ((((G 0 1) + (10 : Int32)) - (1 : Int32)) - (((G 0 1) + (10 : Int32)) - (1 : Int32)) / (10 : Int32) * (10 : Int32))) 2 ((G 0 2) - (1 : Int32))))) H := hP
              have hD : va_D A (wP cI cC cZ cS b (va_up G 0 (upd (upd (G 0) 1 ((((G 0 1) + (10 : Int32)) - (1 : Int32)) - (((G 0 1) + (10 : Int32)) - (1 : Int32)) / (10 : Int32) * (10 : Int32))) 2 ((G 0 2) - (1 : Int32))))) := hD
              refine lv_aload_n hx hb dX1_pop_26 rfl (lv_at hl 1 rfl) ?_
              refine lv_aload_n hx hb dX1_pop_27 rfl (lv_at hl 0 rfl) ?_
              refine va_get (D := D) (ci := 1) (v := .ref (b 1)) (C := RX1) (T := TX1) (N := 3) hx hb hts hinX1 hown hK hP 0 rfl rfl 0 (by decide) (hts (.fieldLink RX1 11 "FirstOut$Past" "steps" "[LFirstOut$Standing;") (by decide +kernel)) (fun _ h9 => h9) rfl dX1_pop_28 ?_
              refine lv_aload_n hx hb dX1_pop_31 rfl (lv_at hl 0 rfl) ?_
              refine va_get (D := D) (ci := 1) (v := .int ((((G 0 1) + (10 : Int32)) - (1 : Int32)) - (((G 0 1) + (10 : Int32)) - (1 : Int32)) / (10 : Int32) * (10 : Int32))) (C := RX1) (T := TX1) (N := 3) hx hb hts hinX1 hown hK hP 0 rfl rfl 1 (by decide) (hts (.fieldLink RX1 18 "FirstOut$Past" "next" "I") (by decide +kernel)) (fun _ h9 => h9) rfl dX1_pop_32 ?_
              refine m_aald hx hb hK hP 1 3 rfl rfl 4 (by rw [c_6]; decide) (by decide) (by decide) (r := (b 6)) rfl dX1_pop_35 ?_
              have hPc := hP.sub (ws' := (wS2 cI cC cZ cS (b 12) (b 6) (G 12) (G 6))) [12, 6] rfl
              have hDc := hD.sub (ws' := (wS2 cI cC cZ cS (b 12) (b 6) (G 12) (G 6))) [12, 6] (by decide) rfl
              refine m_callM (W.runV (As := [.ref (b 6)]) (rest := []) ⟨hx, hb, hml, hown, hts⟩ (c_X3_become l D cI cC cZ cS (b 12) (b 6) (G 12) (G 6)) (cwV 1 hts gX1_pop_X3_become rfl rfl rfl (by decide +kernel) ⟨Nat.le_of_ble_eq_true rfl, Nat.le_of_ble_eq_true rfl⟩) (preV_of hPc hDc hE (va_recv hK hPc (ci := 3) (q0 := 0) rfl rfl)) rfl rfl hl.1 rfl (lv_room (Nat.le_of_ble_eq_true rfl)) dX1_pop_36 ⟨Nat.zero_le _, Nat.zero_le _⟩) hP hD hS [12, 6] rfl rfl (fun H locs hP hD hS => ?_)
              have hP : va_P D vwCl (wP cI cC cZ cS b (va_up (va_up G 0 (upd (upd (G 0) 1 ((((G 0 1) + (10 : Int32)) - (1 : Int32)) - (((G 0 1) + (10 : Int32)) - (1 : Int32)) / (10 : Int32) * (10 : Int32))) 2 ((G 0 2) - (1 : Int32)))) 12 (d_X3_become (G 12) (G 6)))) H := hP
              have hD : va_D A (wP cI cC cZ cS b (va_up (va_up G 0 (upd (upd (G 0) 1 ((((G 0 1) + (10 : Int32)) - (1 : Int32)) - (((G 0 1) + (10 : Int32)) - (1 : Int32)) / (10 : Int32) * (10 : Int32))) 2 ((G 0 2) - (1 : Int32)))) 12 (d_X3_become (G 12) (G 6)))) := hD
              refine W.eq (g2 := F0 m 39 ls []) rfl ?_
              rw [hres]
              exact W.vret hx hb hr (fun t ht hW => ⟨rfl, by rw [ht]; exact hP, by rw [hA]; exact hS.F ht⟩) hS.2.2 dX1_pop_39
            · rw [if_neg c_6] at hres
              by_cases c_7 : (G 0 1) = 6
              · rw [if_pos c_7] at hres
                refine lv_aload_n hx hb dX1_pop_0 rfl (lv_at hl 0 rfl) ?_
                refine lv_aload_n hx hb dX1_pop_1 rfl (lv_at hl 0 rfl) ?_
                refine va_get (D := D) (ci := 1) (v := .int (G 0 1)) (C := RX1) (T := TX1) (N := 3) hx hb hts hinX1 hown hK hP 0 rfl rfl 1 (by decide) (hts (.fieldLink RX1 18 "FirstOut$Past" "next" "I") (by decide +kernel)) (fun _ h9 => h9) rfl dX1_pop_2 ?_
                refine lv_bipush (v := 10) hx hb dX1_pop_5 (by decide) ?_
                refine lv_iadd hx hb dX1_pop_7 ?_
                refine lv_iconst (v := 1) hx hb dX1_pop_8 (by decide) ?_
                refine lv_isub hx hb dX1_pop_9 ?_
                refine lv_bipush (v := 10) hx hb dX1_pop_10 (by decide) ?_
                refine lv_irem hx hb dX1_pop_12 (by decide) ?_
                refine va_put (D := D) (ci := 1) (v := .int ((((G 0 1) + (10 : Int32)) - (1 : Int32)) - (((G 0 1) + (10 : Int32)) - (1 : Int32)) / (10 : Int32) * (10 : Int32))) (ty := .int) (C := RX1) (T := TX1) (N := 3) hx hb hts hinX1 tyX1 tyX1_ok nmX1 hown hK hP hD hS 0 rfl rfl 1 (by decide) (hts (.fieldLink RX1 18 "FirstOut$Past" "next" "I") (by decide +kernel)) (fun _ h9 => h9) rfl (by decide +kernel) rfl rfl (Nat.le_of_ble_eq_true rfl) dX1_pop_13 (fun H locs hP hD hS => ?_)
                have hP : va_P D vwCl (wP cI cC cZ cS b (va_up G 0 (upd (G 0) 1 ((((G 0 1) + (10 : Int32)) - (1 : Int32)) - (((G 0 1) + (10 : Int32)) - (1 : Int32)) / (10 : Int32) * (10 : Int32))))) H := hP
                have hD : va_D A (wP cI cC cZ cS b (va_up G 0 (upd (G 0) 1 ((((G 0 1) + (10 : Int32)) - (1 : Int32)) - (((G 0 1) + (10 : Int32)) - (1 : Int32)) / (10 : Int32) * (10 : Int32))))) := hD
                refine lv_aload_n hx hb dX1_pop_16 rfl (lv_at hl 0 rfl) ?_
                refine lv_dup hx hb dX1_pop_17 rfl ?_
                refine va_get (D := D) (ci := 1) (v := .int (G 0 2)) (C := RX1) (T := TX1) (N := 3) hx hb hts hinX1 hown hK hP 0 rfl rfl 2 (by decide) (hts (.fieldLink RX1 26 "FirstOut$Past" "known" "I") (by decide +kernel)) (fun _ h9 => h9) rfl dX1_pop_18 ?_
                refine lv_iconst (v := 1) hx hb dX1_pop_21 (by decide) ?_
                refine lv_isub hx hb dX1_pop_22 ?_
                refine va_put (D := D) (ci := 1) (v := .int ((G 0 2) - (1 : Int32))) (ty := .int) (C := RX1) (T := TX1) (N := 3) hx hb hts hinX1 tyX1 tyX1_ok nmX1 hown hK hP hD hS 0 rfl rfl 2 (by decide) (hts (.fieldLink RX1 26 "FirstOut$Past" "known" "I") (by decide +kernel)) (fun _ h9 => h9) rfl (by decide +kernel) rfl rfl (Nat.le_of_ble_eq_true rfl) dX1_pop_23 (fun H locs hP hD hS => ?_)
                have hP : va_P D vwCl (wP cI cC cZ cS b (va_up G 0 (upd (upd (G 0) 1 ((((G 0 1) + (10 : Int32)) - (1 : Int32)) - (((G 0 1) + (10 : Int32)) - (1 : Int32)) / (10 : Int32) * (10 : Int32))) 2 ((G 0 2) - (1 : Int32))))) H := hP
                have hD : va_D A (wP cI cC cZ cS b (va_up G 0 (upd (upd (G 0) 1 ((((G 0 1) + (10 : Int32)) - (1 : Int32)) - (((G 0 1) + (10 : Int32)) - (1 : Int32)) / (10 : Int32) * (10 : Int32))) 2 ((G 0 2) - (1 : Int32))))) := hD
                refine lv_aload_n hx hb dX1_pop_26 rfl (lv_at hl 1 rfl) ?_
                refine lv_aload_n hx hb dX1_pop_27 rfl (lv_at hl 0 rfl) ?_
                refine va_get (D := D) (ci := 1) (v := .ref (b 1)) (C := RX1) (T := TX1) (N := 3) hx hb hts hinX1 hown hK hP 0 rfl rfl 0 (by decide) (hts (.fieldLink RX1 11 "FirstOut$Past" "steps" "[LFirstOut$Standing;") (by decide +kernel)) (fun _ h9 => h9) rfl dX1_pop_28 ?_
                refine lv_aload_n hx hb dX1_pop_31 rfl (lv_at hl 0 rfl) ?_
                refine va_get (D := D) (ci := 1) (v := .int ((((G 0 1) + (10 : Int32)) - (1 : Int32)) - (((G 0 1) + (10 : Int32)) - (1 : Int32)) / (10 : Int32) * (10 : Int32))) (C := RX1) (T := TX1) (N := 3) hx hb hts hinX1 hown hK hP 0 rfl rfl 1 (by decide) (hts (.fieldLink RX1 18 "FirstOut$Past" "next" "I") (by decide +kernel)) (fun _ h9 => h9) rfl dX1_pop_32 ?_
                refine m_aald hx hb hK hP 1 3 rfl rfl 5 (by rw [c_7]; decide) (by decide) (by decide) (r := (b 7)) rfl dX1_pop_35 ?_
                have hPc := hP.sub (ws' := (wS2 cI cC cZ cS (b 12) (b 7) (G 12) (G 7))) [12, 7] rfl
                have hDc := hD.sub (ws' := (wS2 cI cC cZ cS (b 12) (b 7) (G 12) (G 7))) [12, 7] (by decide) rfl
                refine m_callM (W.runV (As := [.ref (b 7)]) (rest := []) ⟨hx, hb, hml, hown, hts⟩ (c_X3_become l D cI cC cZ cS (b 12) (b 7) (G 12) (G 7)) (cwV 1 hts gX1_pop_X3_become rfl rfl rfl (by decide +kernel) ⟨Nat.le_of_ble_eq_true rfl, Nat.le_of_ble_eq_true rfl⟩) (preV_of hPc hDc hE (va_recv hK hPc (ci := 3) (q0 := 0) rfl rfl)) rfl rfl hl.1 rfl (lv_room (Nat.le_of_ble_eq_true rfl)) dX1_pop_36 ⟨Nat.zero_le _, Nat.zero_le _⟩) hP hD hS [12, 7] rfl rfl (fun H locs hP hD hS => ?_)
                have hP : va_P D vwCl (wP cI cC cZ cS b (va_up (va_up G 0 (upd (upd (G 0) 1 ((((G 0 1) + (10 : Int32)) - (1 : Int32)) - (((G 0 1) + (10 : Int32)) - (1 : Int32)) / (10 : Int32) * (10 : Int32))) 2 ((G 0 2) - (1 : Int32)))) 12 (d_X3_become (G 12) (G 7)))) H := hP
                have hD : va_D A (wP cI cC cZ cS b (va_up (va_up G 0 (upd (upd (G 0) 1 ((((G 0 1) + (10 : Int32)) - (1 : Int32)) - (((G 0 1) + (10 : Int32)) - (1 : Int32)) / (10 : Int32) * (10 : Int32))) 2 ((G 0 2) - (1 : Int32)))) 12 (d_X3_become (G 12) (G 7)))) := hD
                refine W.eq (g2 := F0 m 39 ls []) rfl ?_
                rw [hres]
                exact W.vret hx hb hr (fun t ht hW => ⟨rfl, by rw [ht]; exact hP, by rw [hA]; exact hS.F ht⟩) hS.2.2 dX1_pop_39
              · rw [if_neg c_7] at hres
                by_cases c_8 : (G 0 1) = 7
                · rw [if_pos c_8] at hres
                  refine lv_aload_n hx hb dX1_pop_0 rfl (lv_at hl 0 rfl) ?_
                  refine lv_aload_n hx hb dX1_pop_1 rfl (lv_at hl 0 rfl) ?_
                  refine va_get (D := D) (ci := 1) (v := .int (G 0 1)) (C := RX1) (T := TX1) (N := 3) hx hb hts hinX1 hown hK hP 0 rfl rfl 1 (by decide) (hts (.fieldLink RX1 18 "FirstOut$Past" "next" "I") (by decide +kernel)) (fun _ h9 => h9) rfl dX1_pop_2 ?_
                  refine lv_bipush (v := 10) hx hb dX1_pop_5 (by decide) ?_
                  refine lv_iadd hx hb dX1_pop_7 ?_
                  refine lv_iconst (v := 1) hx hb dX1_pop_8 (by decide) ?_
                  refine lv_isub hx hb dX1_pop_9 ?_
                  refine lv_bipush (v := 10) hx hb dX1_pop_10 (by decide) ?_
                  refine lv_irem hx hb dX1_pop_12 (by decide) ?_
                  refine va_put (D := D) (ci := 1) (v := .int ((((G 0 1) + (10 : Int32)) - (1 : Int32)) - (((G 0 1) + (10 : Int32)) - (1 : Int32)) / (10 : Int32) * (10 : Int32))) (ty := .int) (C := RX1) (T := TX1) (N := 3) hx hb hts hinX1 tyX1 tyX1_ok nmX1 hown hK hP hD hS 0 rfl rfl 1 (by decide) (hts (.fieldLink RX1 18 "FirstOut$Past" "next" "I") (by decide +kernel)) (fun _ h9 => h9) rfl (by decide +kernel) rfl rfl (Nat.le_of_ble_eq_true rfl) dX1_pop_13 (fun H locs hP hD hS => ?_)
                  have hP : va_P D vwCl (wP cI cC cZ cS b (va_up G 0 (upd (G 0) 1 ((((G 0 1) + (10 : Int32)) - (1 : Int32)) - (((G 0 1) + (10 : Int32)) - (1 : Int32)) / (10 : Int32) * (10 : Int32))))) H := hP
                  have hD : va_D A (wP cI cC cZ cS b (va_up G 0 (upd (G 0) 1 ((((G 0 1) + (10 : Int32)) - (1 : Int32)) - (((G 0 1) + (10 : Int32)) - (1 : Int32)) / (10 : Int32) * (10 : Int32))))) := hD
                  refine lv_aload_n hx hb dX1_pop_16 rfl (lv_at hl 0 rfl) ?_
                  refine lv_dup hx hb dX1_pop_17 rfl ?_
                  refine va_get (D := D) (ci := 1) (v := .int (G 0 2)) (C := RX1) (T := TX1) (N := 3) hx hb hts hinX1 hown hK hP 0 rfl rfl 2 (by decide) (hts (.fieldLink RX1 26 "FirstOut$Past" "known" "I") (by decide +kernel)) (fun _ h9 => h9) rfl dX1_pop_18 ?_
                  refine lv_iconst (v := 1) hx hb dX1_pop_21 (by decide) ?_
                  refine lv_isub hx hb dX1_pop_22 ?_
                  refine va_put (D := D) (ci := 1) (v := .int ((G 0 2) - (1 : Int32))) (ty := .int) (C := RX1) (T := TX1) (N := 3) hx hb hts hinX1 tyX1 tyX1_ok nmX1 hown hK hP hD hS 0 rfl rfl 2 (by decide) (hts (.fieldLink RX1 26 "FirstOut$Past" "known" "I") (by decide +kernel)) (fun _ h9 => h9) rfl (by decide +kernel) rfl rfl (Nat.le_of_ble_eq_true rfl) dX1_pop_23 (fun H locs hP hD hS => ?_)
                  have hP : va_P D vwCl (wP cI cC cZ cS b (va_up G 0 (upd (upd (G 0) 1 ((((G 0 1) + (10 : Int32)) - (1 : Int32)) - (((G 0 1) + (10 : Int32)) - (1 : Int32)) / (10 : Int32) * (10 : Int32))) 2 ((G 0 2) - (1 : Int32))))) H := hP
                  have hD : va_D A (wP cI cC cZ cS b (va_up G 0 (upd (upd (G 0) 1 ((((G 0 1) + (10 : Int32)) - (1 : Int32)) - (((G 0 1) + (10 : Int32)) - (1 : Int32)) / (10 : Int32) * (10 : Int32))) 2 ((G 0 2) - (1 : Int32))))) := hD
                  refine lv_aload_n hx hb dX1_pop_26 rfl (lv_at hl 1 rfl) ?_
                  refine lv_aload_n hx hb dX1_pop_27 rfl (lv_at hl 0 rfl) ?_
                  refine va_get (D := D) (ci := 1) (v := .ref (b 1)) (C := RX1) (T := TX1) (N := 3) hx hb hts hinX1 hown hK hP 0 rfl rfl 0 (by decide) (hts (.fieldLink RX1 11 "FirstOut$Past" "steps" "[LFirstOut$Standing;") (by decide +kernel)) (fun _ h9 => h9) rfl dX1_pop_28 ?_
                  refine lv_aload_n hx hb dX1_pop_31 rfl (lv_at hl 0 rfl) ?_
                  refine va_get (D := D) (ci := 1) (v := .int ((((G 0 1) + (10 : Int32)) - (1 : Int32)) - (((G 0 1) + (10 : Int32)) - (1 : Int32)) / (10 : Int32) * (10 : Int32))) (C := RX1) (T := TX1) (N := 3) hx hb hts hinX1 hown hK hP 0 rfl rfl 1 (by decide) (hts (.fieldLink RX1 18 "FirstOut$Past" "next" "I") (by decide +kernel)) (fun _ h9 => h9) rfl dX1_pop_32 ?_
                  refine m_aald hx hb hK hP 1 3 rfl rfl 6 (by rw [c_8]; decide) (by decide) (by decide) (r := (b 8)) rfl dX1_pop_35 ?_
                  have hPc := hP.sub (ws' := (wS2 cI cC cZ cS (b 12) (b 8) (G 12) (G 8))) [12, 8] rfl
                  have hDc := hD.sub (ws' := (wS2 cI cC cZ cS (b 12) (b 8) (G 12) (G 8))) [12, 8] (by decide) rfl
                  refine m_callM (W.runV (As := [.ref (b 8)]) (rest := []) ⟨hx, hb, hml, hown, hts⟩ (c_X3_become l D cI cC cZ cS (b 12) (b 8) (G 12) (G 8)) (cwV 1 hts gX1_pop_X3_become rfl rfl rfl (by decide +kernel) ⟨Nat.le_of_ble_eq_true rfl, Nat.le_of_ble_eq_true rfl⟩) (preV_of hPc hDc hE (va_recv hK hPc (ci := 3) (q0 := 0) rfl rfl)) rfl rfl hl.1 rfl (lv_room (Nat.le_of_ble_eq_true rfl)) dX1_pop_36 ⟨Nat.zero_le _, Nat.zero_le _⟩) hP hD hS [12, 8] rfl rfl (fun H locs hP hD hS => ?_)
                  have hP : va_P D vwCl (wP cI cC cZ cS b (va_up (va_up G 0 (upd (upd (G 0) 1 ((((G 0 1) + (10 : Int32)) - (1 : Int32)) - (((G 0 1) + (10 : Int32)) - (1 : Int32)) / (10 : Int32) * (10 : Int32))) 2 ((G 0 2) - (1 : Int32)))) 12 (d_X3_become (G 12) (G 8)))) H := hP
                  have hD : va_D A (wP cI cC cZ cS b (va_up (va_up G 0 (upd (upd (G 0) 1 ((((G 0 1) + (10 : Int32)) - (1 : Int32)) - (((G 0 1) + (10 : Int32)) - (1 : Int32)) / (10 : Int32) * (10 : Int32))) 2 ((G 0 2) - (1 : Int32)))) 12 (d_X3_become (G 12) (G 8)))) := hD
                  refine W.eq (g2 := F0 m 39 ls []) rfl ?_
                  rw [hres]
                  exact W.vret hx hb hr (fun t ht hW => ⟨rfl, by rw [ht]; exact hP, by rw [hA]; exact hS.F ht⟩) hS.2.2 dX1_pop_39
                · rw [if_neg c_8] at hres
                  by_cases c_9 : (G 0 1) = 8
                  · rw [if_pos c_9] at hres
                    refine lv_aload_n hx hb dX1_pop_0 rfl (lv_at hl 0 rfl) ?_
                    refine lv_aload_n hx hb dX1_pop_1 rfl (lv_at hl 0 rfl) ?_
                    refine va_get (D := D) (ci := 1) (v := .int (G 0 1)) (C := RX1) (T := TX1) (N := 3) hx hb hts hinX1 hown hK hP 0 rfl rfl 1 (by decide) (hts (.fieldLink RX1 18 "FirstOut$Past" "next" "I") (by decide +kernel)) (fun _ h9 => h9) rfl dX1_pop_2 ?_
                    refine lv_bipush (v := 10) hx hb dX1_pop_5 (by decide) ?_
                    refine lv_iadd hx hb dX1_pop_7 ?_
                    refine lv_iconst (v := 1) hx hb dX1_pop_8 (by decide) ?_
                    refine lv_isub hx hb dX1_pop_9 ?_
                    refine lv_bipush (v := 10) hx hb dX1_pop_10 (by decide) ?_
                    refine lv_irem hx hb dX1_pop_12 (by decide) ?_
                    refine va_put (D := D) (ci := 1) (v := .int ((((G 0 1) + (10 : Int32)) - (1 : Int32)) - (((G 0 1) + (10 : Int32)) - (1 : Int32)) / (10 : Int32) * (10 : Int32))) (ty := .int) (C := RX1) (T := TX1) (N := 3) hx hb hts hinX1 tyX1 tyX1_ok nmX1 hown hK hP hD hS 0 rfl rfl 1 (by decide) (hts (.fieldLink RX1 18 "FirstOut$Past" "next" "I") (by decide +kernel)) (fun _ h9 => h9) rfl (by decide +kernel) rfl rfl (Nat.le_of_ble_eq_true rfl) dX1_pop_13 (fun H locs hP hD hS => ?_)
                    have hP : va_P D vwCl (wP cI cC cZ cS b (va_up G 0 (upd (G 0) 1 ((((G 0 1) + (10 : Int32)) - (1 : Int32)) - (((G 0 1) + (10 : Int32)) - (1 : Int32)) / (10 : Int32) * (10 : Int32))))) H := hP
                    have hD : va_D A (wP cI cC cZ cS b (va_up G 0 (upd (G 0) 1 ((((G 0 1) + (10 : Int32)) - (1 : Int32)) - (((G 0 1) + (10 : Int32)) - (1 : Int32)) / (10 : Int32) * (10 : Int32))))) := hD
                    refine lv_aload_n hx hb dX1_pop_16 rfl (lv_at hl 0 rfl) ?_
                    refine lv_dup hx hb dX1_pop_17 rfl ?_
                    refine va_get (D := D) (ci := 1) (v := .int (G 0 2)) (C := RX1) (T := TX1) (N := 3) hx hb hts hinX1 hown hK hP 0 rfl rfl 2 (by decide) (hts (.fieldLink RX1 26 "FirstOut$Past" "known" "I") (by decide +kernel)) (fun _ h9 => h9) rfl dX1_pop_18 ?_
                    refine lv_iconst (v := 1) hx hb dX1_pop_21 (by decide) ?_
                    refine lv_isub hx hb dX1_pop_22 ?_
                    refine va_put (D := D) (ci := 1) (v := .int ((G 0 2) - (1 : Int32))) (ty := .int) (C := RX1) (T := TX1) (N := 3) hx hb hts hinX1 tyX1 tyX1_ok nmX1 hown hK hP hD hS 0 rfl rfl 2 (by decide) (hts (.fieldLink RX1 26 "FirstOut$Past" "known" "I") (by decide +kernel)) (fun _ h9 => h9) rfl (by decide +kernel) rfl rfl (Nat.le_of_ble_eq_true rfl) dX1_pop_23 (fun H locs hP hD hS => ?_)
                    have hP : va_P D vwCl (wP cI cC cZ cS b (va_up G 0 (upd (upd (G 0) 1 ((((G 0 1) + (10 : Int32)) - (1 : Int32)) - (((G 0 1) + (10 : Int32)) - (1 : Int32)) / (10 : Int32) * (10 : Int32))) 2 ((G 0 2) - (1 : Int32))))) H := hP
                    have hD : va_D A (wP cI cC cZ cS b (va_up G 0 (upd (upd (G 0) 1 ((((G 0 1) + (10 : Int32)) - (1 : Int32)) - (((G 0 1) + (10 : Int32)) - (1 : Int32)) / (10 : Int32) * (10 : Int32))) 2 ((G 0 2) - (1 : Int32))))) := hD
                    refine lv_aload_n hx hb dX1_pop_26 rfl (lv_at hl 1 rfl) ?_
                    refine lv_aload_n hx hb dX1_pop_27 rfl (lv_at hl 0 rfl) ?_
                    refine va_get (D := D) (ci := 1) (v := .ref (b 1)) (C := RX1) (T := TX1) (N := 3) hx hb hts hinX1 hown hK hP 0 rfl rfl 0 (by decide) (hts (.fieldLink RX1 11 "FirstOut$Past" "steps" "[LFirstOut$Standing;") (by decide +kernel)) (fun _ h9 => h9) rfl dX1_pop_28 ?_
                    refine lv_aload_n hx hb dX1_pop_31 rfl (lv_at hl 0 rfl) ?_
                    refine va_get (D := D) (ci := 1) (v := .int ((((G 0 1) + (10 : Int32)) - (1 : Int32)) - (((G 0 1) + (10 : Int32)) - (1 : Int32)) / (10 : Int32) * (10 : Int32))) (C := RX1) (T := TX1) (N := 3) hx hb hts hinX1 hown hK hP 0 rfl rfl 1 (by decide) (hts (.fieldLink RX1 18 "FirstOut$Past" "next" "I") (by decide +kernel)) (fun _ h9 => h9) rfl dX1_pop_32 ?_
                    refine m_aald hx hb hK hP 1 3 rfl rfl 7 (by rw [c_9]; decide) (by decide) (by decide) (r := (b 9)) rfl dX1_pop_35 ?_
                    have hPc := hP.sub (ws' := (wS2 cI cC cZ cS (b 12) (b 9) (G 12) (G 9))) [12, 9] rfl
                    have hDc := hD.sub (ws' := (wS2 cI cC cZ cS (b 12) (b 9) (G 12) (G 9))) [12, 9] (by decide) rfl
                    refine m_callM (W.runV (As := [.ref (b 9)]) (rest := []) ⟨hx, hb, hml, hown, hts⟩ (c_X3_become l D cI cC cZ cS (b 12) (b 9) (G 12) (G 9)) (cwV 1 hts gX1_pop_X3_become rfl rfl rfl (by decide +kernel) ⟨Nat.le_of_ble_eq_true rfl, Nat.le_of_ble_eq_true rfl⟩) (preV_of hPc hDc hE (va_recv hK hPc (ci := 3) (q0 := 0) rfl rfl)) rfl rfl hl.1 rfl (lv_room (Nat.le_of_ble_eq_true rfl)) dX1_pop_36 ⟨Nat.zero_le _, Nat.zero_le _⟩) hP hD hS [12, 9] rfl rfl (fun H locs hP hD hS => ?_)
                    have hP : va_P D vwCl (wP cI cC cZ cS b (va_up (va_up G 0 (upd (upd (G 0) 1 ((((G 0 1) + (10 : Int32)) - (1 : Int32)) - (((G 0 1) + (10 : Int32)) - (1 : Int32)) / (10 : Int32) * (10 : Int32))) 2 ((G 0 2) - (1 : Int32)))) 12 (d_X3_become (G 12) (G 9)))) H := hP
                    have hD : va_D A (wP cI cC cZ cS b (va_up (va_up G 0 (upd (upd (G 0) 1 ((((G 0 1) + (10 : Int32)) - (1 : Int32)) - (((G 0 1) + (10 : Int32)) - (1 : Int32)) / (10 : Int32) * (10 : Int32))) 2 ((G 0 2) - (1 : Int32)))) 12 (d_X3_become (G 12) (G 9)))) := hD
                    refine W.eq (g2 := F0 m 39 ls []) rfl ?_
                    rw [hres]
                    exact W.vret hx hb hr (fun t ht hW => ⟨rfl, by rw [ht]; exact hP, by rw [hA]; exact hS.F ht⟩) hS.2.2 dX1_pop_39
                  · rw [if_neg c_9] at hres
                    have c_10 : (G 0 1) = 9 := last9 hnx hx10 c_1 c_2 c_3 c_4 c_5 c_6 c_7 c_8 c_9
                    refine lv_aload_n hx hb dX1_pop_0 rfl (lv_at hl 0 rfl) ?_
                    refine lv_aload_n hx hb dX1_pop_1 rfl (lv_at hl 0 rfl) ?_
                    refine va_get (D := D) (ci := 1) (v := .int (G 0 1)) (C := RX1) (T := TX1) (N := 3) hx hb hts hinX1 hown hK hP 0 rfl rfl 1 (by decide) (hts (.fieldLink RX1 18 "FirstOut$Past" "next" "I") (by decide +kernel)) (fun _ h9 => h9) rfl dX1_pop_2 ?_
                    refine lv_bipush (v := 10) hx hb dX1_pop_5 (by decide) ?_
                    refine lv_iadd hx hb dX1_pop_7 ?_
                    refine lv_iconst (v := 1) hx hb dX1_pop_8 (by decide) ?_
                    refine lv_isub hx hb dX1_pop_9 ?_
                    refine lv_bipush (v := 10) hx hb dX1_pop_10 (by decide) ?_
                    refine lv_irem hx hb dX1_pop_12 (by decide) ?_
                    refine va_put (D := D) (ci := 1) (v := .int ((((G 0 1) + (10 : Int32)) - (1 : Int32)) - (((G 0 1) + (10 : Int32)) - (1 : Int32)) / (10 : Int32) * (10 : Int32))) (ty := .int) (C := RX1) (T := TX1) (N := 3) hx hb hts hinX1 tyX1 tyX1_ok nmX1 hown hK hP hD hS 0 rfl rfl 1 (by decide) (hts (.fieldLink RX1 18 "FirstOut$Past" "next" "I") (by decide +kernel)) (fun _ h9 => h9) rfl (by decide +kernel) rfl rfl (Nat.le_of_ble_eq_true rfl) dX1_pop_13 (fun H locs hP hD hS => ?_)
                    have hP : va_P D vwCl (wP cI cC cZ cS b (va_up G 0 (upd (G 0) 1 ((((G 0 1) + (10 : Int32)) - (1 : Int32)) - (((G 0 1) + (10 : Int32)) - (1 : Int32)) / (10 : Int32) * (10 : Int32))))) H := hP
                    have hD : va_D A (wP cI cC cZ cS b (va_up G 0 (upd (G 0) 1 ((((G 0 1) + (10 : Int32)) - (1 : Int32)) - (((G 0 1) + (10 : Int32)) - (1 : Int32)) / (10 : Int32) * (10 : Int32))))) := hD
                    refine lv_aload_n hx hb dX1_pop_16 rfl (lv_at hl 0 rfl) ?_
                    refine lv_dup hx hb dX1_pop_17 rfl ?_
                    refine va_get (D := D) (ci := 1) (v := .int (G 0 2)) (C := RX1) (T := TX1) (N := 3) hx hb hts hinX1 hown hK hP 0 rfl rfl 2 (by decide) (hts (.fieldLink RX1 26 "FirstOut$Past" "known" "I") (by decide +kernel)) (fun _ h9 => h9) rfl dX1_pop_18 ?_
                    refine lv_iconst (v := 1) hx hb dX1_pop_21 (by decide) ?_
                    refine lv_isub hx hb dX1_pop_22 ?_
                    refine va_put (D := D) (ci := 1) (v := .int ((G 0 2) - (1 : Int32))) (ty := .int) (C := RX1) (T := TX1) (N := 3) hx hb hts hinX1 tyX1 tyX1_ok nmX1 hown hK hP hD hS 0 rfl rfl 2 (by decide) (hts (.fieldLink RX1 26 "FirstOut$Past" "known" "I") (by decide +kernel)) (fun _ h9 => h9) rfl (by decide +kernel) rfl rfl (Nat.le_of_ble_eq_true rfl) dX1_pop_23 (fun H locs hP hD hS => ?_)
                    have hP : va_P D vwCl (wP cI cC cZ cS b (va_up G 0 (upd (upd (G 0) 1 ((((G 0 1) + (10 : Int32)) - (1 : Int32)) - (((G 0 1) + (10 : Int32)) - (1 : Int32)) / (10 : Int32) * (10 : Int32))) 2 ((G 0 2) - (1 : Int32))))) H := hP
                    have hD : va_D A (wP cI cC cZ cS b (va_up G 0 (upd (upd (G 0) 1 ((((G 0 1) + (10 : Int32)) - (1 : Int32)) - (((G 0 1) + (10 : Int32)) - (1 : Int32)) / (10 : Int32) * (10 : Int32))) 2 ((G 0 2) - (1 : Int32))))) := hD
                    refine lv_aload_n hx hb dX1_pop_26 rfl (lv_at hl 1 rfl) ?_
                    refine lv_aload_n hx hb dX1_pop_27 rfl (lv_at hl 0 rfl) ?_
                    refine va_get (D := D) (ci := 1) (v := .ref (b 1)) (C := RX1) (T := TX1) (N := 3) hx hb hts hinX1 hown hK hP 0 rfl rfl 0 (by decide) (hts (.fieldLink RX1 11 "FirstOut$Past" "steps" "[LFirstOut$Standing;") (by decide +kernel)) (fun _ h9 => h9) rfl dX1_pop_28 ?_
                    refine lv_aload_n hx hb dX1_pop_31 rfl (lv_at hl 0 rfl) ?_
                    refine va_get (D := D) (ci := 1) (v := .int ((((G 0 1) + (10 : Int32)) - (1 : Int32)) - (((G 0 1) + (10 : Int32)) - (1 : Int32)) / (10 : Int32) * (10 : Int32))) (C := RX1) (T := TX1) (N := 3) hx hb hts hinX1 hown hK hP 0 rfl rfl 1 (by decide) (hts (.fieldLink RX1 18 "FirstOut$Past" "next" "I") (by decide +kernel)) (fun _ h9 => h9) rfl dX1_pop_32 ?_
                    refine m_aald hx hb hK hP 1 3 rfl rfl 8 (by rw [c_10]; decide) (by decide) (by decide) (r := (b 10)) rfl dX1_pop_35 ?_
                    have hPc := hP.sub (ws' := (wS2 cI cC cZ cS (b 12) (b 10) (G 12) (G 10))) [12, 10] rfl
                    have hDc := hD.sub (ws' := (wS2 cI cC cZ cS (b 12) (b 10) (G 12) (G 10))) [12, 10] (by decide) rfl
                    refine m_callM (W.runV (As := [.ref (b 10)]) (rest := []) ⟨hx, hb, hml, hown, hts⟩ (c_X3_become l D cI cC cZ cS (b 12) (b 10) (G 12) (G 10)) (cwV 1 hts gX1_pop_X3_become rfl rfl rfl (by decide +kernel) ⟨Nat.le_of_ble_eq_true rfl, Nat.le_of_ble_eq_true rfl⟩) (preV_of hPc hDc hE (va_recv hK hPc (ci := 3) (q0 := 0) rfl rfl)) rfl rfl hl.1 rfl (lv_room (Nat.le_of_ble_eq_true rfl)) dX1_pop_36 ⟨Nat.zero_le _, Nat.zero_le _⟩) hP hD hS [12, 10] rfl rfl (fun H locs hP hD hS => ?_)
                    have hP : va_P D vwCl (wP cI cC cZ cS b (va_up (va_up G 0 (upd (upd (G 0) 1 ((((G 0 1) + (10 : Int32)) - (1 : Int32)) - (((G 0 1) + (10 : Int32)) - (1 : Int32)) / (10 : Int32) * (10 : Int32))) 2 ((G 0 2) - (1 : Int32)))) 12 (d_X3_become (G 12) (G 10)))) H := hP
                    have hD : va_D A (wP cI cC cZ cS b (va_up (va_up G 0 (upd (upd (G 0) 1 ((((G 0 1) + (10 : Int32)) - (1 : Int32)) - (((G 0 1) + (10 : Int32)) - (1 : Int32)) / (10 : Int32) * (10 : Int32))) 2 ((G 0 2) - (1 : Int32)))) 12 (d_X3_become (G 12) (G 10)))) := hD
                    refine W.eq (g2 := F0 m 39 ls []) rfl ?_
                    rw [hres]
                    exact W.vret hx hb hr (fun t ht hW => ⟨rfl, by rw [ht]; exact hP, by rw [hA]; exact hS.F ht⟩) hS.2.2 dX1_pop_39
end
